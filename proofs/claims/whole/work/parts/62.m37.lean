/-! dress() -/
def dMax (f : Nat → Int32) (a : Nat) : Nat → Int32
  | 0 => 0
  | j + 1 => zMax (dMax f a j) (f (a + j))
theorem dMax_c {f g : Nat → Int32} {a : Nat} : ∀ {j : Nat}, (∀ i, i < j → f (a + i) = g (a + i)) → dMax f a j = dMax g a j
  | 0, _ => rfl
  | j + 1, h => by rw [dMax, dMax, dMax_c (fun i hi => h i (by omega)), h j (by omega)]
theorem clothP_c {W : tW} {p tl s w now : Int32} {P P2 : tP} (h1 : P.1 = P2.1) (h2 : P.2.2.2 = P2.2.2.2) : clothP W p tl s w now P = clothP W p tl s w now P2 := by unfold clothP; rw [h1, h2]
theorem walkP_fed {W : tW} {p now : Int32} {P : tP} : ∀ {k : Nat}, (walkP W p now P k).2.2.2 = P.2.2.2
  | 0 => rfl
  | k + 1 => walkP_fed (k := k)
def minOv (c l : Nat → Int32) (k : Nat) : Nat → Int32
  | 0 => 1000000
  | j + 1 => zMin (minOv c l k j) (c (k + 1 + j) + l (k + 1 + j))
theorem minOv_b {c l : Nat → Int32} {k : Nat} : ∀ {j : Nat}, (∀ t, k + 1 ≤ t → t < k + 1 + j → 0 ≤ (c t + l t).toInt ∧ (c t + l t).toInt ≤ 100000) →
    (j ≠ 0 → ∃ t, k + 1 ≤ t ∧ t < k + 1 + j ∧ minOv c l k j = c t + l t) ∧ ∀ t, k + 1 ≤ t → t < k + 1 + j → (minOv c l k j).toInt ≤ (c t + l t).toInt
  | 0, _ => ⟨fun q => absurd rfl q, fun t h1 h2 => by omega⟩
  | j + 1, h => by
    obtain ⟨e1, e2⟩ := minOv_b (c := c) (l := l) (k := k) (j := j) (fun t h1 h2 => h t h1 (by omega))
    have hb := h (k + 1 + j) (by omega) (by omega)
    rw [minOv]
    unfold zMin
    by_cases g : c (k + 1 + j) + l (k + 1 + j) ≤ minOv c l k j
    · rw [if_pos g]
      refine ⟨fun _ => ⟨k + 1 + j, by omega, by omega, rfl⟩, fun t h1 h2 => ?_⟩
      rw [i32_le] at g
      rcases Nat.lt_or_ge t (k + 1 + j) with z | z
      · have := e2 t h1 z; omega
      · rw [show t = k + 1 + j by omega]; exact Int.le_refl _
    · rw [if_neg g]
      have g2 : (minOv c l k j).toInt < (c (k + 1 + j) + l (k + 1 + j)).toInt := i32_lt.mp (Int32.not_le.mp g)
      have hj : j ≠ 0 := by
        intro z
        subst z
        rw [minOv, show (1000000 : Int32).toInt = 1000000 from rfl] at g2
        omega
      refine ⟨fun _ => ?_, fun t h1 h2 => ?_⟩
      · obtain ⟨t, t1, t2, t3⟩ := e1 hj
        exact ⟨t, t1, by omega, t3⟩
      · rcases Nat.lt_or_ge t (k + 1 + j) with z | z
        · exact e2 t h1 z
        · rw [show t = k + 1 + j by omega]; omega
/-- the least CLOTH from each end on, filled from the last one -/
def leastT (C : Nat → Nat → Int32) (n : Nat) : Nat → Nat → Int32
  | 0 => fun _ => 0
  | m + 1 => fun j => if j = n - m then minOv (C (n - m)) (leastT C n m) (n - m) (m + 1) else leastT C n m j
def CB (C : Nat → Nat → Int32) (n : Nat) : Prop := ∀ a t, a ≤ n → a < t → t ≤ n + 1 → 0 ≤ (C a t).toInt ∧ (C a t).toInt ≤ 1000
theorem leastT_b {C : Nat → Nat → Int32} {n : Nat} (hn : n ≤ 24) (hC : CB C n) : ∀ m, m ≤ n + 1 → ∀ j, n + 1 - m ≤ j → j ≤ n + 1 → 0 ≤ (leastT C n m j).toInt ∧ (leastT C n m j).toInt ≤ 1000 * ((n : Int) + 1 - j) := by
  intro m
  induction m with
  | zero => intro _ j h1 h2; rw [leastT, show ((0 : Int32).toInt) = 0 from rfl]; omega
  | succ m ih =>
    intro hm j h1 h2
    have ih2 := ih (by omega)
    rw [leastT]
    simp only
    by_cases g : j = n - m
    · rw [if_pos g]
      have key : ∀ t, n - m + 1 ≤ t → t < n - m + 1 + (m + 1) → (C (n - m) t + leastT C n m t).toInt = (C (n - m) t).toInt + (leastT C n m t).toInt := by
        intro t t1 t2
        have a1 := hC (n - m) t (by omega) (by omega) (by omega)
        have a2 := ih2 t (by omega) (by omega)
        exact i32_add (by omega) (by omega)
      obtain ⟨e1, e2⟩ := minOv_b (c := C (n - m)) (l := leastT C n m) (k := n - m) (j := m + 1) (fun t t1 t2 => by
        have a1 := hC (n - m) t (by omega) (by omega) (by omega)
        have a2 := ih2 t (by omega) (by omega)
        rw [key t t1 t2]
        omega)
      obtain ⟨t, t1, t2, t3⟩ := e1 (by omega)
      have e3 := e2 (n - m + 1) (by omega) (by omega)
      rw [key _ (by omega) (by omega)] at e3
      have b1 := hC (n - m) (n - m + 1) (by omega) (by omega) (by omega)
      have b2 := ih2 (n - m + 1) (by omega) (by omega)
      have c1 := hC (n - m) t (by omega) (by omega) (by omega)
      have c2 := ih2 t (by omega) (by omega)
      refine ⟨?_, by omega⟩
      rw [t3, key t t1 t2]
      omega
    · rw [if_neg g]; exact ih2 j (by omega) h2
theorem leastT_k {C : Nat → Nat → Int32} {n m : Nat} : ∀ m2, m ≤ m2 → m2 ≤ n + 1 → ∀ j, n + 1 - m ≤ j → leastT C n m2 j = leastT C n m j := by
  intro m2
  induction m2 with
  | zero => intro h _ j _; rw [show m = 0 by omega]
  | succ m2 ih =>
    intro h h2 j hj
    rcases Nat.lt_or_ge m (m2 + 1) with z | z
    · rw [leastT]; simp only; rw [if_neg (by omega)]; exact ih (by omega) (by omega) j hj
    · rw [show m2 + 1 = m by omega]
/-- the next cut behind one at k -/
def nxtF (c l : Nat → Int32) (v : Int32) : Nat → Nat → Nat
  | 0, t => t
  | f + 1, t => if c t + l t = v then t else nxtF c l v f (t + 1)
def nxtC (C : Nat → Nat → Int32) (n k : Nat) : Nat := nxtF (C k) (leastT C n (n + 1)) (leastT C n (n + 1) k) (n - k) (k + 1)
theorem nxtF_gt {c l : Nat → Int32} {v : Int32} : ∀ {f t : Nat}, t ≤ nxtF c l v f t
  | 0, _ => Nat.le_refl _
  | f + 1, t => by
    rw [nxtF]
    split
    · exact Nat.le_refl _
    · have := nxtF_gt (c := c) (l := l) (v := v) (f := f) (t := t + 1); omega
theorem least_ex {C : Nat → Nat → Int32} {n k : Nat} (hn : n ≤ 24) (hC : CB C n) (hk : k ≤ n) : ∃ t, k + 1 ≤ t ∧ t ≤ n + 1 ∧ C k t + leastT C n (n + 1) t = leastT C n (n + 1) k := by
  have e : leastT C n (n + 1) k = minOv (C k) (leastT C n (n - k)) k (n - k + 1) := by
    rw [leastT_k (m := n - k + 1) (n + 1) (by omega) (Nat.le_refl _) k (by omega), leastT]
    simp only
    rw [show n - (n - k) = k by omega, if_pos rfl]
  have ih2 := leastT_b hn hC (n - k) (by omega)
  obtain ⟨e1, e2⟩ := minOv_b (c := C k) (l := leastT C n (n - k)) (k := k) (j := n - k + 1) (fun t t1 t2 => by
    have a1 := hC k t (by omega) (by omega) (by omega)
    have a2 := ih2 t (by omega) (by omega)
    rw [i32_add (by omega) (by omega)]
    omega)
  obtain ⟨t, t1, t2, t3⟩ := e1 (by omega)
  refine ⟨t, t1, by omega, ?_⟩
  rw [e, t3, leastT_k (m := n - k) (n + 1) (by omega) (Nat.le_refl _) t (by omega)]
def reachC (C : Nat → Nat → Int32) (n i : Nat) : Nat → Nat → Int32
  | 0, k => if k = i then 1 else 0
  | f + 1, k => if k < i then reachC C n i f (nxtC C n k) else if k = i then 1 else 0
theorem reachC_ge {C : Nat → Nat → Int32} {n i f k : Nat} (h : i ≤ k) : reachC C n i f k = if k = i then 1 else 0 := by
  cases f with
  | zero => rfl
  | succ f => rw [reachC, if_neg (by omega)]
def dCl (W : tW) (K : Nat → Int32) (q a t : Nat) : Int32 := clothP W (nI q) (-1) (dMax (fun k => (walkP W (nI q) (K 121) (perP K q) k).2.1) a (t - a)) (dMax (fun k => (walkP W (nI q) (K 121) (perP K q) k).2.2.1) a (t - a)) (K 121 + nI a) (walkP W (nI q) (K 121) (perP K q) a)
def dressP (W : tW) (K : Nat → Int32) (np : Nat) (p n i : Int32) : Int32 := if zLie p 0 (nI np - 1) = 0 ∨ zLie n 0 24 = 0 ∨ zLie i (-1) n = 0 then -1
  else if i = -1 then leastT (dCl W K p.toNatClampNeg) n.toNatClampNeg (n.toNatClampNeg + 1) 0 else reachC (dCl W K p.toNatClampNeg) n.toNatClampNeg i.toNatClampNeg 25 0
def Fdr (r : Nat) (I I2 : vI) : Prop := ∀ a k, ¬ (a = r ∧ 20 ≤ k ∧ k ≤ 29) → a ≠ r + 12 → ¬ (r + 21 ≤ a ∧ a ≤ r + 24) → I2 a k = I a k
theorem Fdr.rfl {r : Nat} {I : vI} : Fdr r I I := fun _ _ _ _ _ => Eq.refl _
theorem Fdr.trans {r : Nat} {I I2 I3 : vI} (h : Fdr r I I2) (g : Fdr r I2 I3) : Fdr r I I3 := fun a k h1 h2 h3 => (g a k h1 h2 h3).trans (h a k h1 h2 h3)
theorem Fr.fdr {r : Nat} {I I2 : vI} (h : Fr r I I2) : Fdr r I I2 := fun a k h1 h2 _ => h a k h1 h2
theorem Fdr.k {r : Nat} {I I2 : vI} (h : Fdr r I I2) : I2 (r + 2) = I (r + 2) := funext fun k => h _ _ (by omega) (by omega) (by omega)
theorem c_X12_clothFor {d : Nat} {S : vS} {I : vI} {L : vL} {Q : Int32 → vS → vI → vL → Prop} {r : Nat} {q a t : Nat} {W : tW} (hM : MS S r) (hW : WD (I (r + 2)) W) (ha : a < t) (ht : t ≤ 25) (h : ∀ I2, Fr r I I2 → I2 r 29 = I r 29 → Q (clothP W (nI q) (-1) (dMax (I (r + 21)) a (t - a)) (dMax (I (r + 22)) a (t - a)) (I (r + 2) 121 + nI a) (I (r + 23) a, I r 27, I r 28, I r 29)) S I2 L) : Vc mX12_clothFor (d + 44) 0 0 [.ref r, .int (nI q), .int (nI a), .int (nI t)] S I L (ViQ Q) := by
  refine Vc.of rfl (Nat.le_of_ble_eq_true rfl) ?_
  have B := bs_X12_clothFor
  show Vw mX12_clothFor (d + 44) 0 0 0 0 (ViQ Q) 0 [(0, .ref r), (1, .int (nI q)), (2, .int (nI a)), (3, .int (nI t))] [] S I L
  have loop : ∀ j, j ≤ t - a → Vw mX12_clothFor (d + 44) 0 0 0 0 (ViQ Q) 9 [(0, .ref r), (1, .int (nI q)), (2, .int (nI a)), (3, .int (nI t)), (4, .int (dMax (I (r + 21)) a j)), (5, .int (dMax (I (r + 22)) a j)), (6, .int (nI (a + j)))] [] S I L := by
    refine loop_up (fun j hj ih => ?_)
    refine Vw.iload (de_iload (B 9 _ rfl) (B 10 _ rfl)) 6 rfl (n := 11) rfl ?_
    refine Vw.iload_n (de_iload_3 (B 11 _ rfl)) 3 rfl (n := 12) rfl ?_
    refine Vw.icmp_ge (tgt := 49) (n := 15) (de_icmp_ge (B 12 _ rfl) (B 13 _ rfl) (B 14 _ rfl)) rfl rfl (fun c_12 => ?_) (fun c_12 => ?_)
    · have z_12 : t ≤ a + j := (nI_leI (a := t) (b := a + j) (by omega) (by omega)).mp c_12
      obtain rfl : j = t - a := by omega
      refine Vw.aload_n (de_aload_0 (B 49 _ rfl)) 0 rfl (n := 50) rfl ?_
      refine Vw.aload_n (de_aload_0 (B 50 _ rfl)) 0 rfl (n := 51) rfl ?_
      refine Vw.getR (de_getfield (B 51 _ rfl) (B 52 _ rfl) (B 53 _ rfl)) fl_X12_93 rfl hM.k (MS_willAge hM).1 (n := 54) rfl ?_
      refine Vw.iload_n (de_iload_2 (B 54 _ rfl)) 2 rfl (n := 55) rfl ?_
      refine Vw.iald (de_iaload (B 55 _ rfl)) (MS_willAge hM).2 (vIx_n (k := a) (by simp only [nI_A, nI_M, Int32.zero_add, Int32.add_zero] <;> rfl) (by omega)) (n := 56) rfl ?_
      refine Vw.putI (de_putfield (B 56 _ rfl) (B 57 _ rfl) (B 58 _ rfl)) fl_X12_318 hM.k rfl rfl (n := 59) rfl ?_
      have fU : Fr r I (up2 I r 26 (I (r + 23) a)) := (fun a k h1 h2 => by simp (disch := omega) only [up2_n])
      have pU : PP (up2 I r 26 (I (r + 23) a)) r = (I (r + 23) a, I r 27, I r 28, I r 29) := by unfold PP; rw [up2_s, up2_k (by decide), up2_k (by decide), up2_k (by decide)]
      refine Vw.aload_n (de_aload_0 (B 59 _ rfl)) 0 rfl (n := 60) rfl ?_
      refine Vw.iload_n (de_iload_1 (B 60 _ rfl)) 1 rfl (n := 61) rfl ?_
      refine Vw.iconst (v := -1) (de_iconst_m1 (B 61 _ rfl)) rfl (n := 62) rfl ?_
      refine Vw.iload (de_iload (B 62 _ rfl) (B 63 _ rfl)) 4 rfl (n := 64) rfl ?_
      refine Vw.iload (de_iload (B 64 _ rfl) (B 65 _ rfl)) 5 rfl (n := 66) rfl ?_
      refine Vw.aload_n (de_aload_0 (B 66 _ rfl)) 0 rfl (n := 67) rfl ?_
      refine Vw.getR (de_getfield (B 67 _ rfl) (B 68 _ rfl) (B 69 _ rfl)) fl_X12_24 rfl hM.k (MS_kept hM).1 (n := 70) rfl ?_
      refine Vw.bipush (v := 121) (de_bipush (B 70 _ rfl) (B 71 _ rfl)) rfl (n := 72) rfl ?_
      refine Vw.iald (de_iaload (B 72 _ rfl)) (MS_kept hM).2 (j := 121) ⟨rfl, by decide, by decide⟩ (n := 73) rfl ?_
      rw [fU.k]
      refine Vw.iload_n (de_iload_2 (B 73 _ rfl)) 2 rfl (n := 74) rfl ?_
      refine Vw.iadd (de_iadd (B 74 _ rfl)) (n := 75) rfl ?_
      refine Vw.ivi5 (mi' := mX12_clothOf) (de_invokevirtual (B 75 _ rfl) (B 76 _ rfl) (B 77 _ rfl)) ml_X12_359 mv_X12_clothOf hM.k (Nat.le_of_ble_eq_true rfl) (n := 78) rfl (c_X12_clothOf (W := W) hM (by rw [fU.k]; exact hW) (fun I3 f3 e3 => ?_))
      rw [pU]
      exact Vw.iret (de_ireturn (B 78 _ rfl)) rfl ⟨_, rfl, (h _ (fU.trans f3) (by rw [(PPe (e3.trans pU)).2.2.2]))⟩
    have z_12 : j < t - a := by rcases Nat.lt_or_ge (a + j) t with z | z; omega; exact absurd ((nI_leI (a := t) (b := a + j) (by omega) (by omega)).mpr z) c_12
    refine Vw.iload (de_iload (B 15 _ rfl) (B 16 _ rfl)) 4 rfl (n := 17) rfl ?_
    refine Vw.aload_n (de_aload_0 (B 17 _ rfl)) 0 rfl (n := 18) rfl ?_
    refine Vw.getR (de_getfield (B 18 _ rfl) (B 19 _ rfl) (B 20 _ rfl)) fl_X12_87 rfl hM.k (MS_willLong hM).1 (n := 21) rfl ?_
    refine Vw.iload (de_iload (B 21 _ rfl) (B 22 _ rfl)) 6 rfl (n := 23) rfl ?_
    refine Vw.iald (de_iaload (B 23 _ rfl)) (MS_willLong hM).2 (vIx_n (k := a + j) (by simp only [nI_A, nI_M, Int32.zero_add, Int32.add_zero] <;> rfl) (by omega)) (n := 24) rfl ?_
    refine Vw.isi2 (mi' := mX12_greater) (de_invokestatic (B 24 _ rfl) (B 25 _ rfl) (B 26 _ rfl)) ml_X12_410 ms_X12_greater (Nat.le_of_ble_eq_true rfl) (n := 27) rfl (c_X12_greater ?_)
    refine Vw.istore (lv2 := [(0, _), (1, _), (2, _), (3, _), (4, _), (5, _), (6, _)]) (de_istore (B 27 _ rfl) (B 28 _ rfl)) (by decide) [1, 2, 3, 4, 0, 5, 6] rfl (n := 29) rfl ?_
    refine Vw.iload (de_iload (B 29 _ rfl) (B 30 _ rfl)) 5 rfl (n := 31) rfl ?_
    refine Vw.aload_n (de_aload_0 (B 31 _ rfl)) 0 rfl (n := 32) rfl ?_
    refine Vw.getR (de_getfield (B 32 _ rfl) (B 33 _ rfl) (B 34 _ rfl)) fl_X12_90 rfl hM.k (MS_willWide hM).1 (n := 35) rfl ?_
    refine Vw.iload (de_iload (B 35 _ rfl) (B 36 _ rfl)) 6 rfl (n := 37) rfl ?_
    refine Vw.iald (de_iaload (B 37 _ rfl)) (MS_willWide hM).2 (vIx_n (k := a + j) (by simp only [nI_A, nI_M, Int32.zero_add, Int32.add_zero] <;> rfl) (by omega)) (n := 38) rfl ?_
    refine Vw.isi2 (mi' := mX12_greater) (de_invokestatic (B 38 _ rfl) (B 39 _ rfl) (B 40 _ rfl)) ml_X12_410 ms_X12_greater (Nat.le_of_ble_eq_true rfl) (n := 41) rfl (c_X12_greater ?_)
    refine Vw.istore (lv2 := [(0, _), (1, _), (2, _), (3, _), (4, _), (5, _), (6, _)]) (de_istore (B 41 _ rfl) (B 42 _ rfl)) (by decide) [1, 2, 3, 4, 5, 0, 6] rfl (n := 43) rfl ?_
    refine Vw.iinc (v := nI (a + (j + 1))) (lv2 := [(0, _), (1, _), (2, _), (3, _), (4, _), (5, _), (6, _)]) (de_iinc (B 43 _ rfl) (B 44 _ rfl) (B 45 _ rfl)) 6 rfl (nI_1 (a + j)) (by decide) [1, 2, 3, 4, 5, 6, 0] rfl (n := 46) rfl ?_
    refine Vw.goto_ (n := 9) (de_goto_ (B 46 _ rfl) (B 47 _ rfl) (B 48 _ rfl)) rfl ?_
    exact ih z_12
  refine Vw.iconst (v := 0) (de_iconst_0 (B 0 _ rfl)) rfl (n := 1) rfl ?_
  refine Vw.istore (lv2 := [(0, _), (1, _), (2, _), (3, _), (4, _)]) (de_istore (B 1 _ rfl) (B 2 _ rfl)) (by decide) [1, 2, 3, 4, 0] rfl (n := 3) rfl ?_
  refine Vw.iconst (v := 0) (de_iconst_0 (B 3 _ rfl)) rfl (n := 4) rfl ?_
  refine Vw.istore (lv2 := [(0, _), (1, _), (2, _), (3, _), (4, _), (5, _)]) (de_istore (B 4 _ rfl) (B 5 _ rfl)) (by decide) [1, 2, 3, 4, 5, 0] rfl (n := 6) rfl ?_
  refine Vw.iload_n (de_iload_2 (B 6 _ rfl)) 2 rfl (n := 7) rfl ?_
  refine Vw.istore (lv2 := [(0, _), (1, _), (2, _), (3, _), (4, _), (5, _), (6, _)]) (de_istore (B 7 _ rfl) (B 8 _ rfl)) (by decide) [1, 2, 3, 4, 5, 6, 0] rfl (n := 9) rfl ?_
  exact loop 0 (Nat.zero_le _)
