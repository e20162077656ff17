/-! What the law in force tells -/
def ClR (I : vI) (a i : Nat) (c : tC) (cw : Nat → Nat × Nat) (kl m : Nat) (nb : Int32) (dN : tD) : Prop := ∃ st fe se te : Nat, I (a + 3) i = nI st ∧ I (a + 4) i = nI fe ∧ I (a + 5) i = nI se ∧ I (a + 6) i = nI te ∧ st ≤ fe ∧ fe ≤ se ∧ se ≤ te ∧ te ≤ m ∧ I (a + 2) i = c.2.2.2.1 ∧
  ((st < fe ∧ ¬ c.1 = nb ∧ ∃ D, D ≤ 40 ∧ Cp cw kl st fe c.2.1 D) ∨ (st = fe ∧ c.1 = nb ∧ c.2.1 = dN)) ∧ ((fe < se ∧ ∃ D, D ≤ 40 ∧ Cp cw kl fe se c.2.2.1 D) ∨ (fe = se ∧ c.2.2.1 = tD0 ∧ ¬ c.1 = 21 ∧ ¬ c.1 = 23)) ∧ ((se = te ∧ c.2.2.2.2 = none) ∨ (se < te ∧ ∃ t D, c.2.2.2.2 = some t ∧ D ≤ 40 ∧ Cp cw kl se te t D))
def ScR (I : vI) (a : Nat) (cs : List tC) (vb : Int32 → Int32) (kl m : Nat) (nb : Int32) (dN : tD) : Prop := I a 0 = nI cs.length ∧ cs.length ≤ 12 ∧ m ≤ 400 ∧ ∃ cw, CWk (I (a + 7)) cw m ∧ ∀ i c, cs[i]? = some c → I (a + 1) i = vb c.1 ∧ ClR I a i c cw kl m nb dN
def vbL (c : Int32) : Int32 := c - 1
/-- the law in force, as the class has it -/
def WC (S : vS) (I : vI) (s lb : Nat) (W : tW) : Prop := I s 5 = W.2 ∧ ((I s 3 = -1 ∧ W.1 = none) ∨ ∃ t n a cs m, lb ≤ a ∧ I s 3 = nI t ∧ t < n ∧ n ≤ 6 ∧ I s 2 = nI n ∧ S.2.1 (s + 24) t = some a ∧ ScS S a cs.length m ∧ ScR I a cs vbL 8 m 5 tD1 ∧ (∀ c ∈ cs, c.1 = 1 ∨ c.1 = 2 ∨ c.1 = 3 ∨ c.1 = 4 ∨ c.1 = 5) ∧ W.1 = some cs)
theorem has_y {a b : Nat} (h : a < b) (hb : b < 2147483648) : ¬ nI b ≤ nI a := fun z => absurd ((nI_leI (a := b) (b := a) hb (by omega)).mp z) (by omega)
theorem has_n {a b : Nat} (h : b ≤ a) (hb : a < 2147483648) : nI b ≤ nI a := (nI_leI (a := b) (b := a) (by omega) hb).mpr h
theorem c_X8_forced_0 {d : Nat} {S : vS} {I : vI} {L : vL} {Q : Option Nat → vS → vI → vL → Prop} {s : Nat} (hS : StateS S s) (hF : I s 3 = -1) (h : Q none S I L) : Vc mX8_forced d 0 0 [.ref s] S I L (VrQ Q) := by
  refine Vc.of rfl (Nat.le_of_ble_eq_true rfl) ?_
  have B := bs_X8_forced
  show Vw mX8_forced d 0 0 0 0 (VrQ Q) 0 [(0, .ref s)] [] S I L
  refine Vw.aload_n (de_aload_0 (B 0 _ rfl)) 0 rfl (n := 1) rfl ?_
  refine Vw.getI (de_getfield (B 1 _ rfl) (B 2 _ rfl) (B 3 _ rfl)) fl_X8_24 rfl hS.k (n := 4) rfl ?_
  rw [hF]
  refine Vw.if_lt (tgt := 30) (n := 7) (de_if_lt (B 4 _ rfl) (B 5 _ rfl) (B 6 _ rfl)) rfl rfl (fun c_4 => ?_) (fun c_4 => ?_)
  · refine Vw.null (de_aconst_null (B 30 _ rfl)) (n := 31) rfl ?_
    exact Vw.aret (x := none) (de_areturn (B 31 _ rfl)) rfl (Or.inl ⟨_, rfl⟩) ⟨_, rfl, (by first | exact h | simpa [c_4] using h)⟩
  exact absurd (by decide) c_4
theorem c_X8_forced_1 {d : Nat} {S : vS} {I : vI} {L : vL} {Q : Option Nat → vS → vI → vL → Prop} {s t n a : Nat} (hS : StateS S s) (hF : I s 3 = nI t) (ht : t < n) (hn : n ≤ 6) (hc : I s 2 = nI n) (ha : S.2.1 (s + 24) t = some a) (h : Q (some a) S I L) : Vc mX8_forced d 0 0 [.ref s] S I L (VrQ Q) := by
  refine Vc.of rfl (Nat.le_of_ble_eq_true rfl) ?_
  have B := bs_X8_forced
  show Vw mX8_forced d 0 0 0 0 (VrQ Q) 0 [(0, .ref s)] [] S I L
  refine Vw.aload_n (de_aload_0 (B 0 _ rfl)) 0 rfl (n := 1) rfl ?_
  refine Vw.getI (de_getfield (B 1 _ rfl) (B 2 _ rfl) (B 3 _ rfl)) fl_X8_24 rfl hS.k (n := 4) rfl ?_
  rw [hF]
  refine Vw.if_lt (tgt := 30) (n := 7) (de_if_lt (B 4 _ rfl) (B 5 _ rfl) (B 6 _ rfl)) rfl rfl (fun c_4 => ?_) (fun c_4 => ?_)
  · exact absurd c_4 (nn_nI (by omega))
  refine Vw.aload_n (de_aload_0 (B 7 _ rfl)) 0 rfl (n := 8) rfl ?_
  refine Vw.getI (de_getfield (B 8 _ rfl) (B 9 _ rfl) (B 10 _ rfl)) fl_X8_24 rfl hS.k (n := 11) rfl ?_
  refine Vw.aload_n (de_aload_0 (B 11 _ rfl)) 0 rfl (n := 12) rfl ?_
  refine Vw.getI (de_getfield (B 12 _ rfl) (B 13 _ rfl) (B 14 _ rfl)) fl_X8_45 rfl hS.k (n := 15) rfl ?_
  rw [hF, hc]
  refine Vw.icmp_ge (tgt := 30) (n := 18) (de_icmp_ge (B 15 _ rfl) (B 16 _ rfl) (B 17 _ rfl)) rfl rfl (fun c_15 => ?_) (fun c_15 => ?_)
  · exact absurd ((nI_leI (a := n) (b := t) (by omega) (by omega)).mp c_15) (by omega)
  refine Vw.aload_n (de_aload_0 (B 18 _ rfl)) 0 rfl (n := 19) rfl ?_
  refine Vw.getR (de_getfield (B 19 _ rfl) (B 20 _ rfl) (B 21 _ rfl)) fl_X8_20 rfl hS.k hS.f1 (n := 22) rfl ?_
  refine Vw.aload_n (de_aload_0 (B 22 _ rfl)) 0 rfl (n := 23) rfl ?_
  refine Vw.getI (de_getfield (B 23 _ rfl) (B 24 _ rfl) (B 25 _ rfl)) fl_X8_24 rfl hS.k (n := 26) rfl ?_
  rw [hF]
  refine Vw.aald7 (b := 0) (de_aaload (B 26 _ rfl)) hS.r1 (vIx_n (k := t) rfl (by omega)) (v := .ref a) (by rw [ha]; rfl) (n := 27) rfl ?_
  refine Vw.goto_ (n := 31) (de_goto_ (B 27 _ rfl) (B 28 _ rfl) (B 29 _ rfl)) rfl ?_
  exact Vw.aret (x := some a) (de_areturn (B 31 _ rfl)) rfl (Or.inl ⟨_, rfl⟩) ⟨_, rfl, (by first | exact h | simpa [c_4, c_15] using h)⟩
theorem c_X7_hasTest {d : Nat} {S : vS} {I : vI} {L : vL} {Q : Int32 → vS → vI → vL → Prop} {a i n m x y : Nat} (hA : ScS S a n m) (hi : i < n) (hn : n ≤ 12) (hx : I (a + 6) i = nI x) (hy : I (a + 5) i = nI y) (hx4 : x ≤ 400) (hy4 : y ≤ 400) (h1 : y < x → Q 1 S I L) (h0 : x ≤ y → Q 0 S I L) : Vc mX7_hasTest d 0 0 [.ref a, .int (nI i)] S I L (ViQ Q) := by
  refine Vc.of rfl (Nat.le_of_ble_eq_true rfl) ?_
  have B := bs_X7_hasTest
  show Vw mX7_hasTest d 0 0 0 0 (ViQ Q) 0 [(0, .ref a), (1, .int (nI i))] [] S I L
  refine Vw.aload_n (de_aload_0 (B 0 _ rfl)) 0 rfl (n := 1) rfl ?_
  refine Vw.getR (de_getfield (B 1 _ rfl) (B 2 _ rfl) (B 3 _ rfl)) fl_X7_25 rfl hA.k hA.f6 (n := 4) rfl ?_
  refine Vw.iload_n (de_iload_1 (B 4 _ rfl)) 1 rfl (n := 5) rfl ?_
  refine Vw.iald (de_iaload (B 5 _ rfl)) hA.r6 (vIx_n (k := i) rfl hi (by omega)) (n := 6) rfl ?_
  refine Vw.aload_n (de_aload_0 (B 6 _ rfl)) 0 rfl (n := 7) rfl ?_
  refine Vw.getR (de_getfield (B 7 _ rfl) (B 8 _ rfl) (B 9 _ rfl)) fl_X7_22 rfl hA.k hA.f5 (n := 10) rfl ?_
  refine Vw.iload_n (de_iload_1 (B 10 _ rfl)) 1 rfl (n := 11) rfl ?_
  refine Vw.iald (de_iaload (B 11 _ rfl)) hA.r5 (vIx_n (k := i) rfl hi (by omega)) (n := 12) rfl ?_
  rw [hx, hy]
  refine Vw.icmp_le (tgt := 19) (n := 15) (de_icmp_le (B 12 _ rfl) (B 13 _ rfl) (B 14 _ rfl)) rfl rfl (fun c_12 => ?_) (fun c_12 => ?_)
  · refine Vw.iconst (v := 0) (de_iconst_0 (B 19 _ rfl)) rfl (n := 20) rfl ?_
    exact Vw.zret (de_ireturn (B 20 _ rfl)) rfl rfl ⟨_, rfl, (by first | exact h0 ((nI_leI (by omega) (by omega)).mp c_12) | exact h1 (by rcases Nat.lt_or_ge y x with z | z; exact z; exact absurd ((nI_leI (by omega) (by omega)).mpr z) c_12))⟩
  refine Vw.iconst (v := 1) (de_iconst_1 (B 15 _ rfl)) rfl (n := 16) rfl ?_
  refine Vw.goto_ (n := 20) (de_goto_ (B 16 _ rfl) (B 17 _ rfl) (B 18 _ rfl)) rfl ?_
  exact Vw.zret (de_ireturn (B 20 _ rfl)) rfl rfl ⟨_, rfl, (by first | exact h0 ((nI_leI (by omega) (by omega)).mp c_12) | exact h1 (by rcases Nat.lt_or_ge y x with z | z; exact z; exact absurd ((nI_leI (by omega) (by omega)).mpr z) c_12))⟩
theorem c_X7_hasFirst {d : Nat} {S : vS} {I : vI} {L : vL} {Q : Int32 → vS → vI → vL → Prop} {a i n m x y : Nat} (hA : ScS S a n m) (hi : i < n) (hn : n ≤ 12) (hx : I (a + 4) i = nI x) (hy : I (a + 3) i = nI y) (hx4 : x ≤ 400) (hy4 : y ≤ 400) (h1 : y < x → Q 1 S I L) (h0 : x ≤ y → Q 0 S I L) : Vc mX7_hasFirst d 0 0 [.ref a, .int (nI i)] S I L (ViQ Q) := by
  refine Vc.of rfl (Nat.le_of_ble_eq_true rfl) ?_
  have B := bs_X7_hasFirst
  show Vw mX7_hasFirst d 0 0 0 0 (ViQ Q) 0 [(0, .ref a), (1, .int (nI i))] [] S I L
  refine Vw.aload_n (de_aload_0 (B 0 _ rfl)) 0 rfl (n := 1) rfl ?_
  refine Vw.getR (de_getfield (B 1 _ rfl) (B 2 _ rfl) (B 3 _ rfl)) fl_X7_19 rfl hA.k hA.f4 (n := 4) rfl ?_
  refine Vw.iload_n (de_iload_1 (B 4 _ rfl)) 1 rfl (n := 5) rfl ?_
  refine Vw.iald (de_iaload (B 5 _ rfl)) hA.r4 (vIx_n (k := i) rfl hi (by omega)) (n := 6) rfl ?_
  refine Vw.aload_n (de_aload_0 (B 6 _ rfl)) 0 rfl (n := 7) rfl ?_
  refine Vw.getR (de_getfield (B 7 _ rfl) (B 8 _ rfl) (B 9 _ rfl)) fl_X7_16 rfl hA.k hA.f3 (n := 10) rfl ?_
  refine Vw.iload_n (de_iload_1 (B 10 _ rfl)) 1 rfl (n := 11) rfl ?_
  refine Vw.iald (de_iaload (B 11 _ rfl)) hA.r3 (vIx_n (k := i) rfl hi (by omega)) (n := 12) rfl ?_
  rw [hx, hy]
  refine Vw.icmp_le (tgt := 19) (n := 15) (de_icmp_le (B 12 _ rfl) (B 13 _ rfl) (B 14 _ rfl)) rfl rfl (fun c_12 => ?_) (fun c_12 => ?_)
  · refine Vw.iconst (v := 0) (de_iconst_0 (B 19 _ rfl)) rfl (n := 20) rfl ?_
    exact Vw.zret (de_ireturn (B 20 _ rfl)) rfl rfl ⟨_, rfl, (by first | exact h0 ((nI_leI (by omega) (by omega)).mp c_12) | exact h1 (by rcases Nat.lt_or_ge y x with z | z; exact z; exact absurd ((nI_leI (by omega) (by omega)).mpr z) c_12))⟩
  refine Vw.iconst (v := 1) (de_iconst_1 (B 15 _ rfl)) rfl (n := 16) rfl ?_
  refine Vw.goto_ (n := 20) (de_goto_ (B 16 _ rfl) (B 17 _ rfl) (B 18 _ rfl)) rfl ?_
  exact Vw.zret (de_ireturn (B 20 _ rfl)) rfl rfl ⟨_, rfl, (by first | exact h0 ((nI_leI (by omega) (by omega)).mp c_12) | exact h1 (by rcases Nat.lt_or_ge y x with z | z; exact z; exact absurd ((nI_leI (by omega) (by omega)).mpr z) c_12))⟩
theorem c_X7_hasSecond {d : Nat} {S : vS} {I : vI} {L : vL} {Q : Int32 → vS → vI → vL → Prop} {a i n m x y : Nat} (hA : ScS S a n m) (hi : i < n) (hn : n ≤ 12) (hx : I (a + 5) i = nI x) (hy : I (a + 4) i = nI y) (hx4 : x ≤ 400) (hy4 : y ≤ 400) (h1 : y < x → Q 1 S I L) (h0 : x ≤ y → Q 0 S I L) : Vc mX7_hasSecond d 0 0 [.ref a, .int (nI i)] S I L (ViQ Q) := by
  refine Vc.of rfl (Nat.le_of_ble_eq_true rfl) ?_
  have B := bs_X7_hasSecond
  show Vw mX7_hasSecond d 0 0 0 0 (ViQ Q) 0 [(0, .ref a), (1, .int (nI i))] [] S I L
  refine Vw.aload_n (de_aload_0 (B 0 _ rfl)) 0 rfl (n := 1) rfl ?_
  refine Vw.getR (de_getfield (B 1 _ rfl) (B 2 _ rfl) (B 3 _ rfl)) fl_X7_22 rfl hA.k hA.f5 (n := 4) rfl ?_
  refine Vw.iload_n (de_iload_1 (B 4 _ rfl)) 1 rfl (n := 5) rfl ?_
  refine Vw.iald (de_iaload (B 5 _ rfl)) hA.r5 (vIx_n (k := i) rfl hi (by omega)) (n := 6) rfl ?_
  refine Vw.aload_n (de_aload_0 (B 6 _ rfl)) 0 rfl (n := 7) rfl ?_
  refine Vw.getR (de_getfield (B 7 _ rfl) (B 8 _ rfl) (B 9 _ rfl)) fl_X7_19 rfl hA.k hA.f4 (n := 10) rfl ?_
  refine Vw.iload_n (de_iload_1 (B 10 _ rfl)) 1 rfl (n := 11) rfl ?_
  refine Vw.iald (de_iaload (B 11 _ rfl)) hA.r4 (vIx_n (k := i) rfl hi (by omega)) (n := 12) rfl ?_
  rw [hx, hy]
  refine Vw.icmp_le (tgt := 19) (n := 15) (de_icmp_le (B 12 _ rfl) (B 13 _ rfl) (B 14 _ rfl)) rfl rfl (fun c_12 => ?_) (fun c_12 => ?_)
  · refine Vw.iconst (v := 0) (de_iconst_0 (B 19 _ rfl)) rfl (n := 20) rfl ?_
    exact Vw.zret (de_ireturn (B 20 _ rfl)) rfl rfl ⟨_, rfl, (by first | exact h0 ((nI_leI (by omega) (by omega)).mp c_12) | exact h1 (by rcases Nat.lt_or_ge y x with z | z; exact z; exact absurd ((nI_leI (by omega) (by omega)).mpr z) c_12))⟩
  refine Vw.iconst (v := 1) (de_iconst_1 (B 15 _ rfl)) rfl (n := 16) rfl ?_
  refine Vw.goto_ (n := 20) (de_goto_ (B 16 _ rfl) (B 17 _ rfl) (B 18 _ rfl)) rfl ?_
  exact Vw.zret (de_ireturn (B 20 _ rfl)) rfl rfl ⟨_, rfl, (by first | exact h0 ((nI_leI (by omega) (by omega)).mp c_12) | exact h1 (by rcases Nat.lt_or_ge y x with z | z; exact z; exact absurd ((nI_leI (by omega) (by omega)).mpr z) c_12))⟩
theorem mm_clamp {lo hi : Int32} {v : Int64} (h : lo.toInt ≤ hi.toInt) : (if lMin hi.toInt64 v < lo.toInt64 then lo.toInt64 else lMin hi.toInt64 v) = tClamp lo hi v := by
  unfold lMin tClamp
  have e1 : lo.toInt64.toInt = lo.toInt := Int32.toInt_toInt64 lo
  have e2 : hi.toInt64.toInt = hi.toInt := Int32.toInt_toInt64 hi
  by_cases a : v < hi.toInt64
  · rw [if_pos a]
    have a2 := Int64.lt_iff_toInt_lt.mp a
    by_cases b : v < lo.toInt64
    · rw [if_pos b, if_pos b]
    · rw [if_neg b, if_neg b, if_neg (fun z => absurd (Int64.lt_iff_toInt_lt.mp z) (by omega))]
  · rw [if_neg a]
    have a2 : ¬ v.toInt < hi.toInt64.toInt := fun z => a (Int64.lt_iff_toInt_lt.mpr z)
    rw [if_neg (fun z => absurd (Int64.lt_iff_toInt_lt.mp z) (by omega))]
    rw [if_neg (fun z => absurd (Int64.lt_iff_toInt_lt.mp z) (by omega))]
    by_cases c : hi.toInt64 < v
    · rw [if_pos c]
    · rw [if_neg c]
      have c2 : ¬ hi.toInt64.toInt < v.toInt := fun z => c (Int64.lt_iff_toInt_lt.mpr z)
      exact i64_eq (by omega)
theorem fold_s {hd lo hi : Int32} {nv : Nat → Int32} {wo : Int64} {cs : List tC} {k : Nat} {c : tC} (h : cs[k]? = some c) : (cs.take (k + 1)).foldl (tStep hd lo hi nv) wo = tStep hd lo hi nv ((cs.take k).foldl (tStep hd lo hi nv) wo) c := by
  rw [List.take_succ, h, List.foldl_append]; rfl
theorem vbL_inj {x y : Int32} (h : vbL x = vbL y) : x = y := by
  unfold vbL at h
  have e := congrArg (fun z => z + 1) h
  simpa using e
theorem c_X6_told_g {d : Nat} {S : vS} {I : vI} {L : vL} {Q : Int32 → vS → vI → vL → Prop} {u s lb : Nat} {vv hd lo hi lo2 hi2 wo : Int32} {nv : Nat → Int32} {W : tW} (hR : RulesS S u s) (hW : WC S I s lb W) (hN : ∀ x, x < 8 → nv x = I (u + 1) x) (hv : vv = vbL hd) (hret : ∀ (val sv : Int64) (c : tC), c.1 = hd → c.2.1 nv = some sv → (¬ c.1 = 5 → val = sv) → (c.1 = 5 → c.2.1 = tD1) → (if lMin hi.toInt64 val < lo.toInt64 then lo.toInt64 else lMin hi.toInt64 val) = tClamp lo2 hi2 sv) (h : ∀ M, Lev u L M → Q (tellsP W.1 hd lo2 hi2 wo nv) S I M) : Vc mX6_told (d + 1) 0 0 [.ref u, .int vv, .int wo, .int lo, .int hi] S I L (ViQ Q) := by
  refine Vc.of rfl (Nat.le_of_ble_eq_true rfl) ?_
  have B := bs_X6_told
  show Vw mX6_told (d + 1) 0 0 0 0 (ViQ Q) 0 [(0, .ref u), (1, .int vv), (2, .int wo), (3, .int lo), (4, .int hi)] [] S I L
  obtain ⟨_, hW2⟩ := hW
  rcases hW2 with ⟨hF, eW⟩ | ⟨t, n, a, cs, m, _, hF, ht, hn, hc, ha, hA, hSc, hcl, eW⟩
  · rw [eW] at h
    refine Vw.aload_n (de_aload_0 (B 0 _ rfl)) 0 rfl (n := 1) rfl ?_
    refine Vw.getR (de_getfield (B 1 _ rfl) (B 2 _ rfl) (B 3 _ rfl)) fl_X6_19 rfl hR.k hR.f0 (n := 4) rfl ?_
    refine Vw.ivr0 (mi' := mX8_forced) (de_invokevirtual (B 4 _ rfl) (B 5 _ rfl) (B 6 _ rfl)) ml_X6_73 mv_X8_forced hR.p0.k (Nat.le_of_ble_eq_true rfl) (n := 7) rfl (c_X8_forced_0 hR.p0 hF ?_)
    · show Vw mX6_told (d + 1) 0 0 0 0 (ViQ Q) 7 [(0, .ref u), (1, .int vv), (2, .int wo), (3, .int lo), (4, .int hi)] [.null] S I L
      refine Vw.astoreN (lv2 := [(0, _), (1, _), (2, _), (3, _), (4, _), (5, _)]) (de_astore (B 7 _ rfl) (B 8 _ rfl)) (by decide) [1, 2, 3, 4, 5, 0] rfl (n := 9) rfl ?_
      refine Vw.aloadN (de_aload (B 9 _ rfl) (B 10 _ rfl)) 5 rfl (n := 11) rfl ?_
      refine Vw.ifnonnullN (de_ifnonnull (B 11 _ rfl) (B 12 _ rfl) (B 13 _ rfl)) (n := 14) rfl ?_
      refine Vw.iload_n (de_iload_2 (B 14 _ rfl)) 2 rfl (n := 15) rfl ?_
      exact Vw.iret (de_ireturn (B 15 _ rfl)) rfl ⟨_, rfl, (h L Lev.rfl)⟩
  · rw [eW] at h
    obtain ⟨l0, l12, m4, cw, hcw, hcs⟩ := hSc
    have fin : ∀ k, k ≤ cs.length → ∀ M, Lev u L M → (∀ M, Lev u L M → Q ((cs.take k).foldl (tStep hd lo2 hi2 nv) wo.toInt64).toInt32 S I M) → Vw mX6_told (d + 1) 0 0 0 0 (ViQ Q) 25 [(0, .ref u), (1, .int vv), (2, .int wo), (3, .int lo), (4, .int hi), (5, .ref a), (6, .int (nI k - 1))] [] S I M := by
      intro k
      induction k with
      | zero =>
        intro _ M fM hq
        refine Vw.iload (de_iload (B 25 _ rfl) (B 26 _ rfl)) 6 rfl (n := 27) rfl ?_
        refine Vw.if_lt (tgt := 177) (n := 30) (de_if_lt (B 27 _ rfl) (B 28 _ rfl) (B 29 _ rfl)) rfl rfl (fun c_27 => ?_) (fun c_27 => ?_)
        · refine Vw.iload_n (de_iload_2 (B 177 _ rfl)) 2 rfl (n := 178) rfl ?_
          exact Vw.iret (de_ireturn (B 178 _ rfl)) rfl ⟨_, rfl, (by have e := hq M fM; simpa using e)⟩
        exact absurd (show (nI 0 - 1 : Int32) < 0 by decide) c_27
      | succ k ih =>
        intro hk M fM hq
        obtain ⟨c, ec⟩ : ∃ c, cs[k]? = some c := ⟨cs[k], List.getElem?_eq_getElem hk⟩
        obtain ⟨v1, st, fe, se, te, q1, q2, q3, q4, b1, b2, b3, b4, q5, p1, p2, p3⟩ := hcs k c ec
        rw [dn_p]
        have skip : ∀ M, Lev u L M → tStep hd lo2 hi2 nv ((cs.take k).foldl (tStep hd lo2 hi2 nv) wo.toInt64) c = (cs.take k).foldl (tStep hd lo2 hi2 nv) wo.toInt64 → Vw mX6_told (d + 1) 0 0 0 0 (ViQ Q) 171 [(0, .ref u), (1, .int vv), (2, .int wo), (3, .int lo), (4, .int hi), (5, .ref a), (6, .int (nI k))] [] S I M := by
          intro M fM e
          refine Vw.iinc (v := nI k - 1) (lv2 := [(0, _), (1, _), (2, _), (3, _), (4, _), (5, _), (6, _)]) (de_iinc (B 171 _ rfl) (B 172 _ rfl) (B 173 _ rfl)) 6 rfl (inc_m1 _) (by decide) [1, 2, 3, 4, 5, 6, 0] rfl (n := 174) rfl ?_
          refine Vw.goto_ (n := 25) (de_goto_ (B 174 _ rfl) (B 175 _ rfl) (B 176 _ rfl)) rfl ?_
          exact ih (by omega) M fM (fun M fM => by have z := hq M fM; rw [fold_s ec, e] at z; exact z)
        have lost : ∀ M, Lev u L M → clHolds c nv = false → Vw mX6_told (d + 1) 0 0 0 0 (ViQ Q) 103 [(0, .ref u), (1, .int vv), (2, .int wo), (3, .int lo), (4, .int hi), (5, .ref a), (6, .int (nI k)), (7, .int 0)] [] S I M := by
          intro M fM e2
          refine Vw.iload (de_iload (B 103 _ rfl) (B 104 _ rfl)) 7 rfl (n := 105) rfl ?_
          refine Vw.if_eq (tgt := 149) (n := 108) (de_if_eq (B 105 _ rfl) (B 106 _ rfl) (B 107 _ rfl)) rfl rfl (fun c_105 => ?_) (fun c_105 => ?_)
          · refine Vw.iload (de_iload (B 149 _ rfl) (B 150 _ rfl)) 7 rfl (n := 151) rfl ?_
            refine Vw.if_eq (tgt := 171) (n := 154) (de_if_eq (B 151 _ rfl) (B 152 _ rfl) (B 153 _ rfl)) rfl rfl (fun c_151 => ?_) (fun c_151 => ?_)
            · refine Vw.lvs (lv2 := [(0, _), (1, _), (2, _), (3, _), (4, _), (5, _), (6, _)]) [0, 1, 2, 3, 4, 5, 6] rfl ?_
              exact skip M fM (tStep_h e2)
            exact absurd c_151 (by decide)
          exact absurd c_105 (by decide)
        have last : ∀ M, Lev u L M → c.1 = hd → clHolds c nv = true → Vw mX6_told (d + 1) 0 0 0 0 (ViQ Q) 103 [(0, .ref u), (1, .int vv), (2, .int wo), (3, .int lo), (4, .int hi), (5, .ref a), (6, .int (nI k)), (7, .int 1)] [] S I M := by
          intro M fM e1 e2
          refine Vw.iload (de_iload (B 103 _ rfl) (B 104 _ rfl)) 7 rfl (n := 105) rfl ?_
          refine Vw.if_eq (tgt := 149) (n := 108) (de_if_eq (B 105 _ rfl) (B 106 _ rfl) (B 107 _ rfl)) rfl rfl (fun c_105 => ?_) (fun c_105 => ?_)
          · exact absurd c_105 (by decide)
          refine Vw.aload (de_aload (B 108 _ rfl) (B 109 _ rfl)) 5 rfl (n := 110) rfl ?_
          refine Vw.iload (de_iload (B 110 _ rfl) (B 111 _ rfl)) 6 rfl (n := 112) rfl ?_
          refine Vw.ivi1 (mi' := mX7_hasFirst) (de_invokevirtual (B 112 _ rfl) (B 113 _ rfl) (B 114 _ rfl)) ml_X6_106 mv_X7_hasFirst hA.k (Nat.le_of_ble_eq_true rfl) (n := 115) rfl (c_X7_hasFirst hA (by omega) l12 q2 q1 (by omega) (by omega) (fun g => ?_) (fun g => ?_))
          · obtain ⟨_, n5, D, hD, hCp⟩ := p1.resolve_right (fun z => by omega)
            have eE := hCp.eval hD (by omega) nv
            refine Vw.if_eq (tgt := 149) (n := 118) (de_if_eq (B 115 _ rfl) (B 116 _ rfl) (B 117 _ rfl)) rfl rfl (fun c_115 => ?_) (fun c_115 => ?_)
            · exact absurd c_115 (by decide)
            refine Vw.aload_n (de_aload_0 (B 118 _ rfl)) 0 rfl (n := 119) rfl ?_
            refine Vw.aload (de_aload (B 119 _ rfl) (B 120 _ rfl)) 5 rfl (n := 121) rfl ?_
            refine Vw.getR (de_getfield (B 121 _ rfl) (B 122 _ rfl) (B 123 _ rfl)) fl_X6_89 rfl hA.k hA.f7 (n := 124) rfl ?_
            refine Vw.aload (de_aload (B 124 _ rfl) (B 125 _ rfl)) 5 rfl (n := 126) rfl ?_
            refine Vw.getR (de_getfield (B 126 _ rfl) (B 127 _ rfl) (B 128 _ rfl)) fl_X6_109 rfl hA.k hA.f3 (n := 129) rfl ?_
            refine Vw.iload (de_iload (B 129 _ rfl) (B 130 _ rfl)) 6 rfl (n := 131) rfl ?_
            refine Vw.iald (de_iaload (B 131 _ rfl)) hA.r3 (vIx_n (k := k) rfl (by omega) (by omega)) (n := 132) rfl ?_
            rw [q1]
            refine Vw.aload (de_aload (B 132 _ rfl) (B 133 _ rfl)) 5 rfl (n := 134) rfl ?_
            refine Vw.getR (de_getfield (B 134 _ rfl) (B 135 _ rfl) (B 136 _ rfl)) fl_X6_112 rfl hA.k hA.f4 (n := 137) rfl ?_
            refine Vw.iload (de_iload (B 137 _ rfl) (B 138 _ rfl)) 6 rfl (n := 139) rfl ?_
            refine Vw.iald (de_iaload (B 139 _ rfl)) hA.r4 (vIx_n (k := k) rfl (by omega) (by omega)) (n := 140) rfl ?_
            rw [q2]
            refine Vw.aload_n (de_aload_0 (B 140 _ rfl)) 0 rfl (n := 141) rfl ?_
            refine Vw.getR (de_getfield (B 141 _ rfl) (B 142 _ rfl) (B 143 _ rfl)) fl_X6_9 rfl hR.k hR.f1 (n := 144) rfl ?_
            refine Vw.ivi4 (mi' := mX6_evaluate) (de_invokevirtual (B 144 _ rfl) (B 145 _ rfl) (B 146 _ rfl)) ml_X6_98 mv_X6_evaluate hR.k (Nat.le_of_ble_eq_true rfl) (n := 147) rfl (c_X6_evaluate (cw := cw) (nv := nv) hR.k hR.f2 hR.r2 hA.r7 hR.r1 m4 (by omega) (by omega) (by decide) (fun i hi => hcw i (by omega)) (fun x hx => (hN x hx).symm) (fun sv M2 f2 e4 e5 => ?_) (fun M2 f2 e4 => ?_))
            · rw [eE] at e4
              have fM2 : Lev u L M2 := fun b k z1 z2 => (f2 b k z1 z2).trans (fM b k z1 z2)
              refine Vw.istore (lv2 := [(0, _), (1, _), (2, _), (3, _), (4, _), (5, _), (6, _), (7, _)]) (de_istore (B 147 _ rfl) (B 148 _ rfl)) (by decide) [1, 2, 3, 4, 5, 6, 7, 0] rfl (n := 149) rfl ?_
              refine Vw.iload (de_iload (B 149 _ rfl) (B 150 _ rfl)) 7 rfl (n := 151) rfl ?_
              refine Vw.if_eq (tgt := 171) (n := 154) (de_if_eq (B 151 _ rfl) (B 152 _ rfl) (B 153 _ rfl)) rfl rfl (fun c_151 => ?_) (fun c_151 => ?_)
              · exact absurd c_151 (by decide)
              refine Vw.iload_n (de_iload_3 (B 154 _ rfl)) 3 rfl (n := 155) rfl ?_
              refine Vw.i2l (de_i2l (B 155 _ rfl)) (n := 156) rfl ?_
              refine Vw.iload (de_iload (B 156 _ rfl) (B 157 _ rfl)) 4 rfl (n := 158) rfl ?_
              refine Vw.i2l (de_i2l (B 158 _ rfl)) (n := 159) rfl ?_
              refine Vw.aload_n (de_aload_0 (B 159 _ rfl)) 0 rfl (n := 160) rfl ?_
              refine Vw.getL (de_getfield (B 160 _ rfl) (B 161 _ rfl) (B 162 _ rfl)) fl_X6_102 rfl hR.k (n := 163) rfl ?_
              refine Vw.mminL (de_invokestatic (B 163 _ rfl) (B 164 _ rfl) (B 165 _ rfl)) ml_X6_115 (Nat.le_of_ble_eq_true rfl) (n := 166) rfl ?_
              refine Vw.mmaxL (de_invokestatic (B 166 _ rfl) (B 167 _ rfl) (B 168 _ rfl)) ml_X6_118 (Nat.le_of_ble_eq_true rfl) (n := 169) rfl ?_
              refine Vw.l2i (de_l2i (B 169 _ rfl)) (n := 170) rfl ?_
              exact Vw.iret (de_ireturn (B 170 _ rfl)) rfl ⟨_, rfl, (by
    have e3 := hret (M2 u 3) _ c e1 (e4) (fun _ => e5) (fun z => absurd z n5)
    have z := hq M2 fM2
    rw [fold_s ec, tStep_y e1 e2 (e4), ← e3] at z
    exact z)⟩
            · rw [eE] at e4
              have fM2 : Lev u L M2 := fun b k z1 z2 => (f2 b k z1 z2).trans (fM b k z1 z2)
              refine Vw.istore (lv2 := [(0, _), (1, _), (2, _), (3, _), (4, _), (5, _), (6, _), (7, _)]) (de_istore (B 147 _ rfl) (B 148 _ rfl)) (by decide) [1, 2, 3, 4, 5, 6, 7, 0] rfl (n := 149) rfl ?_
              refine Vw.iload (de_iload (B 149 _ rfl) (B 150 _ rfl)) 7 rfl (n := 151) rfl ?_
              refine Vw.if_eq (tgt := 171) (n := 154) (de_if_eq (B 151 _ rfl) (B 152 _ rfl) (B 153 _ rfl)) rfl rfl (fun c_151 => ?_) (fun c_151 => ?_)
              · refine Vw.lvs (lv2 := [(0, _), (1, _), (2, _), (3, _), (4, _), (5, _), (6, _)]) [0, 1, 2, 3, 4, 5, 6] rfl ?_
                exact skip M2 fM2 (tStep_b e4)
              exact absurd c_151 (by decide)
          · obtain ⟨_, n5, hdN⟩ := p1.resolve_left (fun z => by omega)
            refine Vw.if_eq (tgt := 149) (n := 118) (de_if_eq (B 115 _ rfl) (B 116 _ rfl) (B 117 _ rfl)) rfl rfl (fun c_115 => ?_) (fun c_115 => ?_)
            · refine Vw.iload (de_iload (B 149 _ rfl) (B 150 _ rfl)) 7 rfl (n := 151) rfl ?_
              refine Vw.if_eq (tgt := 171) (n := 154) (de_if_eq (B 151 _ rfl) (B 152 _ rfl) (B 153 _ rfl)) rfl rfl (fun c_151 => ?_) (fun c_151 => ?_)
              · exact absurd c_151 (by decide)
              refine Vw.iload_n (de_iload_3 (B 154 _ rfl)) 3 rfl (n := 155) rfl ?_
              refine Vw.i2l (de_i2l (B 155 _ rfl)) (n := 156) rfl ?_
              refine Vw.iload (de_iload (B 156 _ rfl) (B 157 _ rfl)) 4 rfl (n := 158) rfl ?_
              refine Vw.i2l (de_i2l (B 158 _ rfl)) (n := 159) rfl ?_
              refine Vw.aload_n (de_aload_0 (B 159 _ rfl)) 0 rfl (n := 160) rfl ?_
              refine Vw.getL (de_getfield (B 160 _ rfl) (B 161 _ rfl) (B 162 _ rfl)) fl_X6_102 rfl hR.k (n := 163) rfl ?_
              refine Vw.mminL (de_invokestatic (B 163 _ rfl) (B 164 _ rfl) (B 165 _ rfl)) ml_X6_115 (Nat.le_of_ble_eq_true rfl) (n := 166) rfl ?_
              refine Vw.mmaxL (de_invokestatic (B 166 _ rfl) (B 167 _ rfl) (B 168 _ rfl)) ml_X6_118 (Nat.le_of_ble_eq_true rfl) (n := 169) rfl ?_
              refine Vw.l2i (de_l2i (B 169 _ rfl)) (n := 170) rfl ?_
              exact Vw.iret (de_ireturn (B 170 _ rfl)) rfl ⟨_, rfl, (by
    have e3 := hret (M u 3) _ c e1 ((by rw [hdN]; rfl : c.2.1 nv = some 1)) (fun z => absurd n5 z) (fun _ => hdN)
    have z := hq M fM
    rw [fold_s ec, tStep_y e1 e2 ((by rw [hdN]; rfl : c.2.1 nv = some 1)), ← e3] at z
    exact z)⟩
            exact absurd c_115 (by decide)
        refine Vw.iload (de_iload (B 25 _ rfl) (B 26 _ rfl)) 6 rfl (n := 27) rfl ?_
        refine Vw.if_lt (tgt := 177) (n := 30) (de_if_lt (B 27 _ rfl) (B 28 _ rfl) (B 29 _ rfl)) rfl rfl (fun c_27 => ?_) (fun c_27 => ?_)
        · exact absurd c_27 (nn_nI (by omega))
        refine Vw.aload (de_aload (B 30 _ rfl) (B 31 _ rfl)) 5 rfl (n := 32) rfl ?_
        refine Vw.getR (de_getfield (B 32 _ rfl) (B 33 _ rfl) (B 34 _ rfl)) fl_X6_82 rfl hA.k hA.f1 (n := 35) rfl ?_
        refine Vw.iload (de_iload (B 35 _ rfl) (B 36 _ rfl)) 6 rfl (n := 37) rfl ?_
        refine Vw.iald (de_iaload (B 37 _ rfl)) hA.r1 (vIx_n (k := k) rfl (by omega) (by omega)) (n := 38) rfl ?_
        rw [v1]
        refine Vw.iload_n (de_iload_1 (B 38 _ rfl)) 1 rfl (n := 39) rfl ?_
        refine Vw.icmp_eq (tgt := 45) (n := 42) (de_icmp_eq (B 39 _ rfl) (B 40 _ rfl) (B 41 _ rfl)) rfl rfl (fun c_39 => ?_) (fun c_39 => ?_)
        · have e1 : c.1 = hd := vbL_inj (c_39.trans hv)
          refine Vw.aload (de_aload (B 45 _ rfl) (B 46 _ rfl)) 5 rfl (n := 47) rfl ?_
          refine Vw.iload (de_iload (B 47 _ rfl) (B 48 _ rfl)) 6 rfl (n := 49) rfl ?_
          refine Vw.ivi1 (mi' := mX7_hasTest) (de_invokevirtual (B 49 _ rfl) (B 50 _ rfl) (B 51 _ rfl)) ml_X6_85 mv_X7_hasTest hA.k (Nat.le_of_ble_eq_true rfl) (n := 52) rfl (c_X7_hasTest hA (by omega) l12 q4 q3 (by omega) (by omega) (fun g => ?_) (fun g => ?_))
          · obtain ⟨_, ts, D, ets, hD, hCp⟩ := p3.resolve_left (fun z => by omega)
            have eE := hCp.eval hD (by omega) nv
            refine Vw.if_eq (tgt := 96) (n := 55) (de_if_eq (B 52 _ rfl) (B 53 _ rfl) (B 54 _ rfl)) rfl rfl (fun c_52 => ?_) (fun c_52 => ?_)
            · exact absurd c_52 (by decide)
            refine Vw.aload_n (de_aload_0 (B 55 _ rfl)) 0 rfl (n := 56) rfl ?_
            refine Vw.aload (de_aload (B 56 _ rfl) (B 57 _ rfl)) 5 rfl (n := 58) rfl ?_
            refine Vw.getR (de_getfield (B 58 _ rfl) (B 59 _ rfl) (B 60 _ rfl)) fl_X6_89 rfl hA.k hA.f7 (n := 61) rfl ?_
            refine Vw.aload (de_aload (B 61 _ rfl) (B 62 _ rfl)) 5 rfl (n := 63) rfl ?_
            refine Vw.getR (de_getfield (B 63 _ rfl) (B 64 _ rfl) (B 65 _ rfl)) fl_X6_92 rfl hA.k hA.f5 (n := 66) rfl ?_
            refine Vw.iload (de_iload (B 66 _ rfl) (B 67 _ rfl)) 6 rfl (n := 68) rfl ?_
            refine Vw.iald (de_iaload (B 68 _ rfl)) hA.r5 (vIx_n (k := k) rfl (by omega) (by omega)) (n := 69) rfl ?_
            rw [q3]
            refine Vw.aload (de_aload (B 69 _ rfl) (B 70 _ rfl)) 5 rfl (n := 71) rfl ?_
            refine Vw.getR (de_getfield (B 71 _ rfl) (B 72 _ rfl) (B 73 _ rfl)) fl_X6_95 rfl hA.k hA.f6 (n := 74) rfl ?_
            refine Vw.iload (de_iload (B 74 _ rfl) (B 75 _ rfl)) 6 rfl (n := 76) rfl ?_
            refine Vw.iald (de_iaload (B 76 _ rfl)) hA.r6 (vIx_n (k := k) rfl (by omega) (by omega)) (n := 77) rfl ?_
            rw [q4]
            refine Vw.aload_n (de_aload_0 (B 77 _ rfl)) 0 rfl (n := 78) rfl ?_
            refine Vw.getR (de_getfield (B 78 _ rfl) (B 79 _ rfl) (B 80 _ rfl)) fl_X6_9 rfl hR.k hR.f1 (n := 81) rfl ?_
            refine Vw.ivi4 (mi' := mX6_evaluate) (de_invokevirtual (B 81 _ rfl) (B 82 _ rfl) (B 83 _ rfl)) ml_X6_98 mv_X6_evaluate hR.k (Nat.le_of_ble_eq_true rfl) (n := 84) rfl (c_X6_evaluate (cw := cw) (nv := nv) hR.k hR.f2 hR.r2 hA.r7 hR.r1 m4 (by omega) (by omega) (by decide) (fun i hi => hcw i (by omega)) (fun x hx => (hN x hx).symm) (fun sv M2 f2 e4 e5 => ?_) (fun M2 f2 e4 => ?_))
            · rw [eE] at e4
              have fM2 : Lev u L M2 := fun b k z1 z2 => (f2 b k z1 z2).trans (fM b k z1 z2)
              refine Vw.if_eq (tgt := 100) (n := 87) (de_if_eq (B 84 _ rfl) (B 85 _ rfl) (B 86 _ rfl)) rfl rfl (fun c_84 => ?_) (fun c_84 => ?_)
              · exact absurd c_84 (by decide)
              refine Vw.aload_n (de_aload_0 (B 87 _ rfl)) 0 rfl (n := 88) rfl ?_
              refine Vw.getL (de_getfield (B 88 _ rfl) (B 89 _ rfl) (B 90 _ rfl)) fl_X6_102 rfl hR.k (n := 91) rfl ?_
              rw [e5]
              refine Vw.lconst (v := 0) (de_lconst_0 (B 91 _ rfl)) rfl (n := 92) rfl ?_
              refine Vw.lcmp (de_lcmp (B 92 _ rfl)) (n := 93) rfl ?_
              refine Vw.if_eq (tgt := 100) (n := 96) (de_if_eq (B 93 _ rfl) (B 94 _ rfl) (B 95 _ rfl)) rfl rfl (fun c_93 => ?_) (fun c_93 => ?_)
              · refine Vw.iconst (v := 0) (de_iconst_0 (B 100 _ rfl)) rfl (n := 101) rfl ?_
                refine Vw.istore (lv2 := [(0, _), (1, _), (2, _), (3, _), (4, _), (5, _), (6, _), (7, _)]) (de_istore (B 101 _ rfl) (B 102 _ rfl)) (by decide) [1, 2, 3, 4, 5, 6, 7, 0] rfl (n := 103) rfl ?_
                first
                | exact last M2 fM2 e1 (by unfold clHolds; rw [ets]; simp only; rw [e4]; simp only; exact decide_eq_true (fun z => c_93 ((lg_cmp_eq _ _).mpr z)))
                | exact lost M2 fM2 (by unfold clHolds; rw [ets]; simp only; rw [e4]; simp only; exact decide_eq_false (fun z => z ((lg_cmp_eq _ _).mp c_93)))
              refine Vw.iconst (v := 1) (de_iconst_1 (B 96 _ rfl)) rfl (n := 97) rfl ?_
              refine Vw.goto_ (n := 101) (de_goto_ (B 97 _ rfl) (B 98 _ rfl) (B 99 _ rfl)) rfl ?_
              refine Vw.istore (lv2 := [(0, _), (1, _), (2, _), (3, _), (4, _), (5, _), (6, _), (7, _)]) (de_istore (B 101 _ rfl) (B 102 _ rfl)) (by decide) [1, 2, 3, 4, 5, 6, 7, 0] rfl (n := 103) rfl ?_
              first
              | exact last M2 fM2 e1 (by unfold clHolds; rw [ets]; simp only; rw [e4]; simp only; exact decide_eq_true (fun z => c_93 ((lg_cmp_eq _ _).mpr z)))
              | exact lost M2 fM2 (by unfold clHolds; rw [ets]; simp only; rw [e4]; simp only; exact decide_eq_false (fun z => z ((lg_cmp_eq _ _).mp c_93)))
            · rw [eE] at e4
              have fM2 : Lev u L M2 := fun b k z1 z2 => (f2 b k z1 z2).trans (fM b k z1 z2)
              refine Vw.if_eq (tgt := 100) (n := 87) (de_if_eq (B 84 _ rfl) (B 85 _ rfl) (B 86 _ rfl)) rfl rfl (fun c_84 => ?_) (fun c_84 => ?_)
              · refine Vw.iconst (v := 0) (de_iconst_0 (B 100 _ rfl)) rfl (n := 101) rfl ?_
                refine Vw.istore (lv2 := [(0, _), (1, _), (2, _), (3, _), (4, _), (5, _), (6, _), (7, _)]) (de_istore (B 101 _ rfl) (B 102 _ rfl)) (by decide) [1, 2, 3, 4, 5, 6, 7, 0] rfl (n := 103) rfl ?_
                exact lost M2 fM2 (by unfold clHolds; rw [ets]; simp only; rw [e4])
              exact absurd c_84 (by decide)
          · obtain ⟨_, en⟩ := p3.resolve_right (fun z => by omega)
            refine Vw.if_eq (tgt := 96) (n := 55) (de_if_eq (B 52 _ rfl) (B 53 _ rfl) (B 54 _ rfl)) rfl rfl (fun c_52 => ?_) (fun c_52 => ?_)
            · refine Vw.iconst (v := 1) (de_iconst_1 (B 96 _ rfl)) rfl (n := 97) rfl ?_
              refine Vw.goto_ (n := 101) (de_goto_ (B 97 _ rfl) (B 98 _ rfl) (B 99 _ rfl)) rfl ?_
              refine Vw.istore (lv2 := [(0, _), (1, _), (2, _), (3, _), (4, _), (5, _), (6, _), (7, _)]) (de_istore (B 101 _ rfl) (B 102 _ rfl)) (by decide) [1, 2, 3, 4, 5, 6, 7, 0] rfl (n := 103) rfl ?_
              exact last M fM e1 (by unfold clHolds; rw [en])
            exact absurd c_52 (by decide)
        refine Vw.goto_ (n := 171) (de_goto_ (B 42 _ rfl) (B 43 _ rfl) (B 44 _ rfl)) rfl ?_
        exact skip M fM (tStep_n (fun z => c_39 (by rw [z, hv])))
    refine Vw.aload_n (de_aload_0 (B 0 _ rfl)) 0 rfl (n := 1) rfl ?_
    refine Vw.getR (de_getfield (B 1 _ rfl) (B 2 _ rfl) (B 3 _ rfl)) fl_X6_19 rfl hR.k hR.f0 (n := 4) rfl ?_
    refine Vw.ivr0 (mi' := mX8_forced) (de_invokevirtual (B 4 _ rfl) (B 5 _ rfl) (B 6 _ rfl)) ml_X6_73 mv_X8_forced hR.p0.k (Nat.le_of_ble_eq_true rfl) (n := 7) rfl (c_X8_forced_1 hR.p0 hF ht hn hc ha ?_)
    · show Vw mX6_told (d + 1) 0 0 0 0 (ViQ Q) 7 [(0, .ref u), (1, .int vv), (2, .int wo), (3, .int lo), (4, .int hi)] [.ref a] S I L
      refine Vw.astore (lv2 := [(0, _), (1, _), (2, _), (3, _), (4, _), (5, _)]) (de_astore (B 7 _ rfl) (B 8 _ rfl)) (by decide) [1, 2, 3, 4, 5, 0] rfl (n := 9) rfl ?_
      refine Vw.aload (de_aload (B 9 _ rfl) (B 10 _ rfl)) 5 rfl (n := 11) rfl ?_
      refine Vw.ifnonnull (n := 16) (de_ifnonnull (B 11 _ rfl) (B 12 _ rfl) (B 13 _ rfl)) rfl ?_
      refine Vw.aload (de_aload (B 16 _ rfl) (B 17 _ rfl)) 5 rfl (n := 18) rfl ?_
      refine Vw.getI (de_getfield (B 18 _ rfl) (B 19 _ rfl) (B 20 _ rfl)) fl_X6_77 rfl hA.k (n := 21) rfl ?_
      rw [l0]
      refine Vw.iconst (v := 1) (de_iconst_1 (B 21 _ rfl)) rfl (n := 22) rfl ?_
      refine Vw.isub (de_isub (B 22 _ rfl)) (n := 23) rfl ?_
      refine Vw.istore (lv2 := [(0, _), (1, _), (2, _), (3, _), (4, _), (5, _), (6, _)]) (de_istore (B 23 _ rfl) (B 24 _ rfl)) (by decide) [1, 2, 3, 4, 5, 6, 0] rfl (n := 25) rfl ?_
      exact fin cs.length (Nat.le_refl _) L Lev.rfl (fun M fM => by rw [List.take_length]; exact h M fM)
