/-! To obey: pure -/
def smallP (v : Int64) : Int32 := if v < -1000000 then -1000000 else if 1000000 < v then -1000000 else v.toInt32
abbrev tOb : Type := Int32 × (Nat → Int32) × (Nat → Int32) × Nat
def feedO (K F : Nat → Int32) (u np : Nat) (a b : Int32) : tOb := if zLie b (-3) 3 = 0 then (-1, K, F, u) else if zLie a 0 (nI np - 1) = 0 then (-2, K, F, u) else (0, upK K (4 * a.toNatClampNeg + 3) b, F, u)
def letO (K F : Nat → Int32) (u nc : Nat) (c : Int32) (j : Nat) : tOb := if zLie c 0 (nI nc - 1) = 0 then (-2, K, F, u) else if K (32 + 8 * c.toNatClampNeg + 5 + j) = 0 then (-3, K, F, u)
  else (letK K c.toNatClampNeg j (32 + 8 * c.toNatClampNeg + j), letK K c.toNatClampNeg j, keepL F K u 1, keepN u)
def handO (W : tW) (K F : Nat → Int32) (u np nc : Nat) (c p : Int32) : tOb := if zLie c 0 (nI nc - 1) = 0 ∨ zLie p 0 (nI np - 1) = 0 then (-2, K, F, u) else if ¬ K (32 + 8 * c.toNatClampNeg + 4) = -1 then (-3, K, F, u)
  else if fitAt (handK K c.toNatClampNeg p.toNatClampNeg) c.toNatClampNeg = 0 then (payAt W (handK K c.toNatClampNeg p.toNatClampNeg) c.toNatClampNeg, payK W (handK K c.toNatClampNeg p.toNatClampNeg) c.toNatClampNeg, keepL F K u 3, keepN u)
  else (0, handK K c.toNatClampNeg p.toNatClampNeg, keepL F K u 3, keepN u)
def quarO (W : tW) (K F : Nat → Int32) (u np nc : Nat) : tOb := if K 121 = 999 then (-3, K, F, u) else ((quarterP W K np nc).2, (quarterP W K np nc).1, keepL F K u 2, keepN u)
def obeyP (W : tW) (np nc : Nat) (K F : Nat → Int32) (u : Nat) (v a b : Int32) : tOb := if v = 21 then feedO K F u np a b else if v = 25 then letO K F u nc a 0 else if v = 26 then letO K F u nc a 1 else if v = 23 then handO W K F u np nc a b else quarO W K F u np nc
def paidO (v is paid : Int32) : Int32 := if v = 21 ∨ v = 25 ∨ v = 26 then paid else paid + (if 0 ≤ is then is else 0)
theorem keepN_le {u : Nat} (h : u ≤ 16) : keepN u ≤ 16 := by unfold keepN; split <;> omega
theorem letK_o {K : Nat → Int32} {c j x : Nat} (h1 : x ≠ 32 + 8 * c + 5 + j) (h2 : x ≠ 32 + 8 * c + j) : letK K c j x = K x := by unfold letK; rw [upK_n h2, upK_n h1]
theorem TN.lt {K : Nat → Int32} {np nc c j : Nat} (h : TN K np nc) (hc : c < nc) (hj : j ≤ 1) : TN (letK K c j) np nc := by
  have h2 := h.2.1
  refine ⟨h.1, h.2.1, by rw [letK_o (by omega) (by omega)]; exact h.2.2.1, by rw [letK_o (by omega) (by omega)]; exact h.2.2.2.1, fun c2 hc2 => ?_⟩
  obtain ⟨a, b, e⟩ := h.2.2.2.2 c2 hc2
  exact ⟨by rw [letK_o (by omega) (by omega)]; exact a, by rw [letK_o (by omega) (by omega)]; exact b, by rw [letK_o (by omega) (by omega)]; exact e⟩
theorem quarterP_ok {W : tW} {K : Nat → Int32} {np nc : Nat} (hT : TN K np nc) : TN (quarterP W K np nc).1 np nc ∧ ∀ x, 122 ≤ x → (quarterP W K np nc).1 x = K x := by
  have h8 := hT.1
  have hT3 : TN (nowK (growK W K np)) np nc := hT.of (fun x h1 h2 => by unfold nowK; rw [upK_n (by omega), growK_o (by omega)])
  have e := setlK_ok (W := W) hT3 nc (Nat.le_refl _)
  refine ⟨e.1, fun x hx => ?_⟩
  unfold quarterP
  rw [e.2 x (by omega)]
  unfold nowK
  rw [upK_n (by omega), growK_o (by omega)]
theorem zl_j {c : Int32} {n : Nat} (hn : n ≤ 100000) (h : ¬ zLie c 0 (nI n - 1) = 0) : c.toNatClampNeg < n ∧ c = nI c.toNatClampNeg := by
  obtain ⟨j, h1, h2⟩ := lie_ex hn h
  rw [h2, nI_cl (by omega)]
  exact ⟨h1, rfl⟩
def ObOK (np nc : Nat) (K : Nat → Int32) (ob : tOb) : Prop := TN ob.2.1 np nc ∧ (∀ x, 122 ≤ x → ob.2.1 x = K x) ∧ ob.2.2.2 ≤ 16
theorem feedO_ok {K F : Nat → Int32} {u np nc : Nat} {a b : Int32} (hT : TN K np nc) (hu : u ≤ 16) : ObOK np nc K (feedO K F u np a b) := by
  have h8 := hT.1
  unfold feedO
  split
  · exact ⟨hT, fun _ _ => rfl, hu⟩
  · split
    · exact ⟨hT, fun _ _ => rfl, hu⟩
    · rename_i g
      have := zl_j (by omega) g
      exact ⟨hT.of (fun x h1 h2 => upK_n (by omega)), fun x hx => upK_n (by omega), hu⟩
theorem letO_ok {K F : Nat → Int32} {u np nc j : Nat} {c : Int32} (hT : TN K np nc) (hu : u ≤ 16) (hj : j ≤ 1) : ObOK np nc K (letO K F u nc c j) := by
  have h8 := hT.2.1
  unfold letO
  split
  · exact ⟨hT, fun _ _ => rfl, hu⟩
  · split
    · exact ⟨hT, fun _ _ => rfl, hu⟩
    · rename_i g _
      have := zl_j (by omega) g
      exact ⟨hT.lt this.1 hj, fun x hx => letK_o (by omega) (by omega), keepN_le hu⟩
theorem handO_ok {W : tW} {K F : Nat → Int32} {u np nc : Nat} {c p : Int32} (hT : TN K np nc) (hu : u ≤ 16) : ObOK np nc K (handO W K F u np nc c p) := by
  have h8 := hT.2.1
  have h81 := hT.1
  unfold handO
  split
  · exact ⟨hT, fun _ _ => rfl, hu⟩
  · rename_i g
    have g1 := zl_j (c := c) (by omega) (fun z => g (Or.inl z))
    have g2 := zl_j (c := p) (by omega) (fun z => g (Or.inr z))
    split
    · exact ⟨hT, fun _ _ => rfl, hu⟩
    · have hT2 := handK_T hT g1.1 g2.1
      have o2 : ∀ x, 122 ≤ x → handK K c.toNatClampNeg p.toNatClampNeg x = K x := fun x hx => upK_n (by omega)
      split
      · exact ⟨hT2.pay g1.1, fun x hx => (payK_o (hT2.2.2.2.2 _ g1.1) (by omega) (by omega) (by omega)).trans (o2 x hx), keepN_le hu⟩
      · exact ⟨hT2, o2, keepN_le hu⟩
theorem quarO_ok {W : tW} {K F : Nat → Int32} {u np nc : Nat} (hT : TN K np nc) (hu : u ≤ 16) : ObOK np nc K (quarO W K F u np nc) := by
  unfold quarO
  split
  · exact ⟨hT, fun _ _ => rfl, hu⟩
  · exact ⟨(quarterP_ok hT).1, (quarterP_ok hT).2, keepN_le hu⟩
theorem obeyP_ok {W : tW} {K F : Nat → Int32} {u np nc : Nat} {v a b : Int32} (hT : TN K np nc) (hu : u ≤ 16) : ObOK np nc K (obeyP W np nc K F u v a b) := by
  unfold obeyP
  split
  · exact feedO_ok hT hu
  · split
    · exact letO_ok hT hu (by omega)
    · split
      · exact letO_ok hT hu (by omega)
      · split
        · exact handO_ok hT hu
        · exact quarO_ok hT hu
theorem obeyP_c {W : tW} {K F : Nat → Int32} {u np nc : Nat} {v a b a2 b2 : Int32} (h1 : ¬ v = 16 → a = a2) (h2 : v = 21 ∨ v = 23 → b = b2) (hv : v = 21 ∨ v = 23 ∨ v = 25 ∨ v = 26 ∨ v = 16) : obeyP W np nc K F u v a b = obeyP W np nc K F u v a2 b2 := by
  rcases hv with rfl | rfl | rfl | rfl | rfl
  · rw [h1 (by decide), h2 (by decide)]
  · rw [h1 (by decide), h2 (by decide)]
  · rw [h1 (by decide)]; unfold obeyP; rw [if_neg (show ¬ (25 : Int32) = 21 by decide), if_neg (show ¬ (25 : Int32) = 21 by decide)]
    rw [if_pos (show (25 : Int32) = 25 from rfl), if_pos (show (25 : Int32) = 25 from rfl)]
  · rw [h1 (by decide)]; unfold obeyP; rw [if_neg (show ¬ (26 : Int32) = 21 by decide), if_neg (show ¬ (26 : Int32) = 21 by decide), if_neg (show ¬ (26 : Int32) = 25 by decide), if_neg (show ¬ (26 : Int32) = 25 by decide)]
    rw [if_pos (show (26 : Int32) = 26 from rfl), if_pos (show (26 : Int32) = 26 from rfl)]
  · unfold obeyP; rw [if_neg (show ¬ (16 : Int32) = 21 by decide), if_neg (show ¬ (16 : Int32) = 21 by decide), if_neg (show ¬ (16 : Int32) = 25 by decide), if_neg (show ¬ (16 : Int32) = 25 by decide), if_neg (show ¬ (16 : Int32) = 26 by decide), if_neg (show ¬ (16 : Int32) = 26 by decide), if_neg (show ¬ (16 : Int32) = 23 by decide), if_neg (show ¬ (16 : Int32) = 23 by decide)]
def Fq (r : Nat) (I I2 : vI) : Prop := ∀ a k, ¬ (a = r ∧ (20 ≤ k ∧ k ≤ 29 ∨ k = 32 ∨ k = 45 ∨ k = 55)) → a ≠ r + 2 → a ≠ r + 12 → a ≠ r + 14 → I2 a k = I a k
theorem Fq.rfl {r : Nat} {I : vI} : Fq r I I := fun _ _ _ _ _ _ => Eq.refl _
theorem FkK {r u : Nat} {I I2 : vI} {x : Int32} (h : Fk r (mKeeps I r u x) I2) : Fq r I I2 ∧ I2 (r + 14) = keepL (I (r + 14)) (I (r + 2)) u x ∧ I2 r 32 = nI (keepN u) ∧ I2 r 45 = I r 45 := by
  refine ⟨fun a k h1 h2 h3 h4 => ?_, ?_, ?_, ?_⟩
  · rw [h a k (by omega) h3 h2, mKeeps_a h4 (by omega)]
  · rw [← mKeeps_L]; funext k; exact h _ _ (by omega) (by omega) (by omega)
  · rw [h _ _ (by omega) (by omega) (by omega), mKeeps_n]
  · rw [h _ _ (by omega) (by omega) (by omega), mKeeps_a (by omega) (by omega)]
theorem Fq.pay {r : Nat} {I I2 : vI} {v : Int32} (h : Fq r I I2) : Fq r I (up2 I2 r 45 v) := fun a k h1 h2 h3 h4 => by rw [up2_n (by omega)]; exact h a k h1 h2 h3 h4
theorem nI_is0 {j : Nat} (h : j ≤ 1) (e : (0 : Int32) = nI j) : j = 0 := (nI_inj (a := 0) (b := j) (by decide) (by omega) e).symm
theorem nI_is1 {j : Nat} (h : j ≤ 1) (e : (1 : Int32) = nI j) : j = 1 := (nI_inj (a := 1) (b := j) (by decide) (by omega) e).symm
theorem c_X12_small {d : Nat} {S : vS} {I : vI} {L : vL} {Q : Int32 → vS → vI → vL → Prop} {v : Int64} (h : Q (smallP v) S I L) : Vc mX12_small d 0 0 [.long v] S I L (ViQ Q) := by
  refine Vc.of rfl (Nat.le_of_ble_eq_true rfl) ?_
  have B := bs_X12_small
  show Vw mX12_small d 0 0 0 0 (ViQ Q) 0 [(0, .long v)] [] S I L
  refine Vw.lload_n (de_lload_0 (B 0 _ rfl)) 0 rfl (n := 1) rfl ?_
  refine Vw.ldc2 (de_ldc2_w (B 1 _ rfl) (B 2 _ rfl) (B 3 _ rfl)) kc_X12_461 (n := 4) rfl ?_
  refine Vw.lcmp (de_lcmp (B 4 _ rfl)) (n := 5) rfl ?_
  refine Vw.if_lt (tgt := 16) (n := 8) (de_if_lt (B 5 _ rfl) (B 6 _ rfl) (B 7 _ rfl)) rfl rfl (fun c_5 => ?_) (fun c_5 => ?_)
  · refine Vw.ldcw (de_ldc_w (B 16 _ rfl) (B 17 _ rfl) (B 18 _ rfl)) kc_X12_465 (n := 19) rfl ?_
    refine Vw.goto_ (n := 24) (de_goto_ (B 19 _ rfl) (B 20 _ rfl) (B 21 _ rfl)) rfl ?_
    exact Vw.iret (de_ireturn (B 24 _ rfl)) rfl ⟨_, rfl, (by
    unfold smallP at h
    first
    | (rw [if_pos ((lg_cmp_lt _ _).mp c_5)] at h; exact h)
    | (rw [if_neg (fun z => c_5 ((lg_cmp_lt _ _).mpr z)), if_neg (Int64.not_lt.mpr ((lg_cmp_le _ _).mp c_13))] at h; exact h)
    | (rw [if_neg (fun z => c_5 ((lg_cmp_lt _ _).mpr z)), if_pos (Int64.not_le.mp (fun z => c_13 ((lg_cmp_le _ _).mpr z)))] at h; exact h))⟩
  refine Vw.lload_n (de_lload_0 (B 8 _ rfl)) 0 rfl (n := 9) rfl ?_
  refine Vw.ldc2 (de_ldc2_w (B 9 _ rfl) (B 10 _ rfl) (B 11 _ rfl)) kc_X12_463 (n := 12) rfl ?_
  refine Vw.lcmp (de_lcmp (B 12 _ rfl)) (n := 13) rfl ?_
  refine Vw.if_le (tgt := 22) (n := 16) (de_if_le (B 13 _ rfl) (B 14 _ rfl) (B 15 _ rfl)) rfl rfl (fun c_13 => ?_) (fun c_13 => ?_)
  · refine Vw.lload_n (de_lload_0 (B 22 _ rfl)) 0 rfl (n := 23) rfl ?_
    refine Vw.l2i (de_l2i (B 23 _ rfl)) (n := 24) rfl ?_
    exact Vw.iret (de_ireturn (B 24 _ rfl)) rfl ⟨_, rfl, (by
    unfold smallP at h
    first
    | (rw [if_pos ((lg_cmp_lt _ _).mp c_5)] at h; exact h)
    | (rw [if_neg (fun z => c_5 ((lg_cmp_lt _ _).mpr z)), if_neg (Int64.not_lt.mpr ((lg_cmp_le _ _).mp c_13))] at h; exact h)
    | (rw [if_neg (fun z => c_5 ((lg_cmp_lt _ _).mpr z)), if_pos (Int64.not_le.mp (fun z => c_13 ((lg_cmp_le _ _).mpr z)))] at h; exact h))⟩
  refine Vw.ldcw (de_ldc_w (B 16 _ rfl) (B 17 _ rfl) (B 18 _ rfl)) kc_X12_465 (n := 19) rfl ?_
  refine Vw.goto_ (n := 24) (de_goto_ (B 19 _ rfl) (B 20 _ rfl) (B 21 _ rfl)) rfl ?_
  exact Vw.iret (de_ireturn (B 24 _ rfl)) rfl ⟨_, rfl, (by
    unfold smallP at h
    first
    | (rw [if_pos ((lg_cmp_lt _ _).mp c_5)] at h; exact h)
    | (rw [if_neg (fun z => c_5 ((lg_cmp_lt _ _).mpr z)), if_neg (Int64.not_lt.mpr ((lg_cmp_le _ _).mp c_13))] at h; exact h)
    | (rw [if_neg (fun z => c_5 ((lg_cmp_lt _ _).mpr z)), if_pos (Int64.not_le.mp (fun z => c_13 ((lg_cmp_le _ _).mpr z)))] at h; exact h))⟩
theorem lie_n2 {j n : Nat} (hj : j < 10) (hn : n ≤ 10) : zLie (nI j) 0 (nI n - 1) = 0 ↔ ¬ j < n := by
  constructor
  · intro h q
    refine absurd h ((zLie_iff (nI j) 0 (nI n - 1)).mpr ?_)
    rw [i32_sub (by rw [nI_ti (by omega)]; show _ ≤ _ - (1 : Int); omega) (by rw [nI_ti (by omega)]; show _ - (1 : Int) < _; omega), nI_ti (by omega), nI_ti (by omega)]
    show (0 : Int) ≤ _ ∧ _ ≤ _ - (1 : Int)
    omega
  · intro q
    rcases zLie_01 (nI j) 0 (nI n - 1) with h | h
    · exact h
    · obtain ⟨i, h1, h2⟩ := lie_ex (p := nI j) (n := n) (by omega) (by rw [h]; decide)
      have := nI_inj (by omega) (by omega) h2
      omega
theorem c_X12_obeys {d : Nat} {S : vS} {I : vI} {L : vL} {Q : Int32 → vS → vI → vL → Prop} {r : Nat} {np nc u : Nat} {W : tW} (hM : MS S r) (hW : WD (I (r + 2)) W) (hT : TN (I (r + 2)) np nc) (hu : I r 32 = nI u) (h16 : u ≤ 16) (h : ∀ I2, Fq r I I2 → I2 (r + 2) = (obeyP W np nc (I (r + 2)) (I (r + 14)) u (I r 48) (smallP (L (r + 25) 0)) (smallP (L (r + 25) 1))).2.1 → I2 (r + 14) = (obeyP W np nc (I (r + 2)) (I (r + 14)) u (I r 48) (smallP (L (r + 25) 0)) (smallP (L (r + 25) 1))).2.2.1 → I2 r 32 = nI (obeyP W np nc (I (r + 2)) (I (r + 14)) u (I r 48) (smallP (L (r + 25) 0)) (smallP (L (r + 25) 1))).2.2.2 → I2 r 45 = paidO (I r 48) (obeyP W np nc (I (r + 2)) (I (r + 14)) u (I r 48) (smallP (L (r + 25) 0)) (smallP (L (r + 25) 1))).1 (I r 45) → Q (obeyP W np nc (I (r + 2)) (I (r + 14)) u (I r 48) (smallP (L (r + 25) 0)) (smallP (L (r + 25) 1))).1 S I2 L) : Vc mX12_obeys (d + 48) 0 0 [.ref r] S I L (ViQ Q) := by
  refine Vc.of rfl (Nat.le_of_ble_eq_true rfl) ?_
  have B := bs_X12_obeys
  show Vw mX12_obeys (d + 48) 0 0 0 0 (ViQ Q) 0 [(0, .ref r)] [] S I L
  have hnp := hT.1
  have hnc := hT.2.1
  have e142 := hT.2.2.1
  have e112 := hT.2.2.2.1
  have fin : ∀ ob, obeyP W np nc (I (r + 2)) (I (r + 14)) u (I r 48) (smallP (L (r + 25) 0)) (smallP (L (r + 25) 1)) = ob → ∀ I2, Fq r I I2 → I2 (r + 2) = ob.2.1 → I2 (r + 14) = ob.2.2.1 → I2 r 32 = nI ob.2.2.2 → I2 r 45 = paidO (I r 48) ob.1 (I r 45) → Q ob.1 S I2 L := by
    intro ob e
    rw [← e]
    exact h
  have pay : ¬ I r 48 = 21 → ¬ I r 48 = 25 → ¬ I r 48 = 26 → ∀ ob, obeyP W np nc (I (r + 2)) (I (r + 14)) u (I r 48) (smallP (L (r + 25) 0)) (smallP (L (r + 25) 1)) = ob → ∀ I2, Fq r I I2 → I2 (r + 2) = ob.2.1 → I2 (r + 14) = ob.2.2.1 → I2 r 32 = nI ob.2.2.2 → I2 r 45 = I r 45 → Vw mX12_obeys (d + 48) 0 0 0 0 (ViQ Q) 96 [(0, .ref r), (1, .int (smallP (L (r + 25) 0))), (2, .int (smallP (L (r + 25) 1)))] [.int ob.1] S I2 L := by
    intro v1 v2 v3 ob e I2 f2 k2 l2 n2 p2
    have hp : paidO (I r 48) ob.1 (I r 45) = I r 45 + (if 0 ≤ ob.1 then ob.1 else 0) := by unfold paidO; rw [if_neg (fun z => z.elim v1 (fun z => z.elim v2 v3))]
    have g := fin ob e
    rw [hp] at g
    refine Vw.istore_n (lv2 := [(0, _), (1, _), (2, _), (3, _)]) (de_istore_3 (B 96 _ rfl)) rfl (by decide) [1, 2, 3, 0] rfl (n := 97) rfl ?_
    refine Vw.aload_n (de_aload_0 (B 97 _ rfl)) 0 rfl (n := 98) rfl ?_
    refine Vw.dup (de_dup (B 98 _ rfl)) rfl (n := 99) rfl ?_
    refine Vw.getI (de_getfield (B 99 _ rfl) (B 100 _ rfl) (B 101 _ rfl)) fl_X12_437 rfl hM.k (n := 102) rfl ?_
    rw [p2]
    refine Vw.iload_n (de_iload_3 (B 102 _ rfl)) 3 rfl (n := 103) rfl ?_
    refine Vw.if_ge (tgt := 110) (n := 106) (de_if_ge (B 103 _ rfl) (B 104 _ rfl) (B 105 _ rfl)) rfl rfl (fun c_103 => ?_) (fun c_103 => ?_)
    · refine Vw.iload_n (de_iload_3 (B 110 _ rfl)) 3 rfl (n := 111) rfl ?_
      refine Vw.iadd (de_iadd (B 111 _ rfl)) (n := 112) rfl ?_
      refine Vw.putI (de_putfield (B 112 _ rfl) (B 113 _ rfl) (B 114 _ rfl)) fl_X12_437 hM.k rfl rfl (n := 115) rfl ?_
      refine Vw.iload_n (de_iload_3 (B 115 _ rfl)) 3 rfl (n := 116) rfl ?_
      exact Vw.iret (de_ireturn (B 116 _ rfl)) rfl ⟨_, rfl, (g _ f2.pay (by rw [up2_row (by omega)]; exact k2) (by rw [up2_row (by omega)]; exact l2) (by rw [up2_k (by decide)]; exact n2) (by rw [up2_s]; first | rw [if_pos c_103] | rw [if_neg c_103]))⟩
    refine Vw.iconst (v := 0) (de_iconst_0 (B 106 _ rfl)) rfl (n := 107) rfl ?_
    refine Vw.goto_ (n := 111) (de_goto_ (B 107 _ rfl) (B 108 _ rfl) (B 109 _ rfl)) rfl ?_
    refine Vw.iadd (de_iadd (B 111 _ rfl)) (n := 112) rfl ?_
    refine Vw.putI (de_putfield (B 112 _ rfl) (B 113 _ rfl) (B 114 _ rfl)) fl_X12_437 hM.k rfl rfl (n := 115) rfl ?_
    refine Vw.iload_n (de_iload_3 (B 115 _ rfl)) 3 rfl (n := 116) rfl ?_
    exact Vw.iret (de_ireturn (B 116 _ rfl)) rfl ⟨_, rfl, (g _ f2.pay (by rw [up2_row (by omega)]; exact k2) (by rw [up2_row (by omega)]; exact l2) (by rw [up2_k (by decide)]; exact n2) (by rw [up2_s]; first | rw [if_pos c_103] | rw [if_neg c_103]))⟩
  refine Vw.aload_n (de_aload_0 (B 0 _ rfl)) 0 rfl (n := 1) rfl ?_
  refine Vw.getR (de_getfield (B 1 _ rfl) (B 2 _ rfl) (B 3 _ rfl)) fl_X12_102 rfl hM.k (MS_sums hM).1 (n := 4) rfl ?_
  refine Vw.iconst (v := 0) (de_iconst_0 (B 4 _ rfl)) rfl (n := 5) rfl ?_
  refine Vw.lald (de_laload (B 5 _ rfl)) (MS_sums hM).2 (j := 0) ⟨rfl, by decide, by decide⟩ (n := 6) rfl ?_
  refine Vw.isi1 (mi' := mX12_small) (de_invokestatic (B 6 _ rfl) (B 7 _ rfl) (B 8 _ rfl)) ml_X12_466 ms_X12_small (Nat.le_of_ble_eq_true rfl) (n := 9) rfl (c_X12_small ?_)
  refine Vw.istore_n (lv2 := [(0, _), (1, _)]) (de_istore_1 (B 9 _ rfl)) rfl (by decide) [1, 0] rfl (n := 10) rfl ?_
  refine Vw.aload_n (de_aload_0 (B 10 _ rfl)) 0 rfl (n := 11) rfl ?_
  refine Vw.getR (de_getfield (B 11 _ rfl) (B 12 _ rfl) (B 13 _ rfl)) fl_X12_102 rfl hM.k (MS_sums hM).1 (n := 14) rfl ?_
  refine Vw.iconst (v := 1) (de_iconst_1 (B 14 _ rfl)) rfl (n := 15) rfl ?_
  refine Vw.lald (de_laload (B 15 _ rfl)) (MS_sums hM).2 (j := 1) ⟨rfl, by decide, by decide⟩ (n := 16) rfl ?_
  refine Vw.isi1 (mi' := mX12_small) (de_invokestatic (B 16 _ rfl) (B 17 _ rfl) (B 18 _ rfl)) ml_X12_466 ms_X12_small (Nat.le_of_ble_eq_true rfl) (n := 19) rfl (c_X12_small ?_)
  refine Vw.istore_n (lv2 := [(0, _), (1, _), (2, _)]) (de_istore_2 (B 19 _ rfl)) rfl (by decide) [1, 2, 0] rfl (n := 20) rfl ?_
  refine Vw.aload_n (de_aload_0 (B 20 _ rfl)) 0 rfl (n := 21) rfl ?_
  refine Vw.getI (de_getfield (B 21 _ rfl) (B 22 _ rfl) (B 23 _ rfl)) fl_X12_449 rfl hM.k (n := 24) rfl ?_
  refine Vw.bipush (v := 21) (de_bipush (B 24 _ rfl) (B 25 _ rfl)) rfl (n := 26) rfl ?_
  refine Vw.icmp_ne (tgt := 36) (n := 29) (de_icmp_ne (B 26 _ rfl) (B 27 _ rfl) (B 28 _ rfl)) rfl rfl (fun c_26 => ?_) (fun c_26 => ?_)
  · refine Vw.aload_n (de_aload_0 (B 36 _ rfl)) 0 rfl (n := 37) rfl ?_
    refine Vw.getI (de_getfield (B 37 _ rfl) (B 38 _ rfl) (B 39 _ rfl)) fl_X12_449 rfl hM.k (n := 40) rfl ?_
    refine Vw.bipush (v := 25) (de_bipush (B 40 _ rfl) (B 41 _ rfl)) rfl (n := 42) rfl ?_
    refine Vw.icmp_eq (tgt := 54) (n := 45) (de_icmp_eq (B 42 _ rfl) (B 43 _ rfl) (B 44 _ rfl)) rfl rfl (fun c_42 => ?_) (fun c_42 => ?_)
    · refine Vw.aload_n (de_aload_0 (B 54 _ rfl)) 0 rfl (n := 55) rfl ?_
      refine Vw.iload_n (de_iload_1 (B 55 _ rfl)) 1 rfl (n := 56) rfl ?_
      refine Vw.aload_n (de_aload_0 (B 56 _ rfl)) 0 rfl (n := 57) rfl ?_
      refine Vw.getI (de_getfield (B 57 _ rfl) (B 58 _ rfl) (B 59 _ rfl)) fl_X12_449 rfl hM.k (n := 60) rfl ?_
      refine Vw.bipush (v := 25) (de_bipush (B 60 _ rfl) (B 61 _ rfl)) rfl (n := 62) rfl ?_
      refine Vw.icmp_ne (tgt := 69) (n := 65) (de_icmp_ne (B 62 _ rfl) (B 63 _ rfl) (B 64 _ rfl)) rfl rfl (fun c_62 => ?_) (fun c_62 => ?_)
      · refine Vw.iconst (v := 1) (de_iconst_1 (B 69 _ rfl)) rfl (n := 70) rfl ?_
        refine Vw.ivi2 (mi' := mX12_letsKept) (de_invokevirtual (B 70 _ rfl) (B 71 _ rfl) (B 72 _ rfl)) ml_X12_372 mv_X12_letsKept hM.k (Nat.le_of_ble_eq_true rfl) (n := 73) rfl (c_X12_letsKept (np := np) (nc := nc) (u := u) hM hT hu h16 (fun a1 => absurd a1 (by decide)) (fun a1 a2 => ?_) (fun i j a1 a2 a3 a4 a5 => ?_) (fun i j I2 a1 a2 a3 a4 a5 a6 a7 => ?_))
        · have v26 : I r 48 = 26 := by first | exact c_51 | exact absurd c_42 c_62
          exact Vw.iret (de_ireturn (B 73 _ rfl)) rfl ⟨_, rfl, (fin (-2, I (r + 2), I (r + 14), u) (by unfold obeyP letO; rw [if_neg c_26, if_neg c_62, if_pos v26, if_pos a2]) I Fq.rfl rfl rfl hu (by unfold paidO; rw [if_pos (Or.inr (Or.inr v26))]))⟩
        · have v26 : I r 48 = 26 := by first | exact c_51 | exact absurd c_42 c_62
          obtain rfl := nI_is1 a1 a3
          exact Vw.iret (de_ireturn (B 73 _ rfl)) rfl ⟨_, rfl, (fin (-3, I (r + 2), I (r + 14), u) (by unfold obeyP letO; rw [if_neg c_26, if_neg c_62, if_pos v26, if_neg (by rw [a4]; exact fun z => absurd a2 ((lie_n2 (by omega) hnc).mp z)), a4, nI_cl (by omega), if_pos a5]) I Fq.rfl rfl rfl hu (by unfold paidO; rw [if_pos (Or.inr (Or.inr v26))]))⟩
        · have v26 : I r 48 = 26 := by first | exact c_51 | exact absurd c_42 c_62
          obtain rfl := nI_is1 a1 a3
          obtain ⟨b1, b2, b3, b4⟩ := FkK a6
          exact Vw.iret (de_ireturn (B 73 _ rfl)) rfl ⟨_, rfl, (fin (letK (I (r + 2)) i 1 (32 + 8 * i + 1), letK (I (r + 2)) i 1, keepL (I (r + 14)) (I (r + 2)) u 1, keepN u) (by unfold obeyP letO; rw [if_neg c_26, if_neg c_62, if_pos v26, if_neg (by rw [a4]; exact fun z => absurd a2 ((lie_n2 (by omega) hnc).mp z)), a4, nI_cl (by omega), if_neg a5]) I2 b1 a7 b2 b3 (by rw [b4]; exact (by unfold paidO; rw [if_pos (Or.inr (Or.inr v26))])))⟩
      refine Vw.iconst (v := 0) (de_iconst_0 (B 65 _ rfl)) rfl (n := 66) rfl ?_
      refine Vw.goto_ (n := 70) (de_goto_ (B 66 _ rfl) (B 67 _ rfl) (B 68 _ rfl)) rfl ?_
      refine Vw.ivi2 (mi' := mX12_letsKept) (de_invokevirtual (B 70 _ rfl) (B 71 _ rfl) (B 72 _ rfl)) ml_X12_372 mv_X12_letsKept hM.k (Nat.le_of_ble_eq_true rfl) (n := 73) rfl (c_X12_letsKept (np := np) (nc := nc) (u := u) hM hT hu h16 (fun a1 => absurd a1 (by decide)) (fun a1 a2 => ?_) (fun i j a1 a2 a3 a4 a5 => ?_) (fun i j I2 a1 a2 a3 a4 a5 a6 a7 => ?_))
      · exact Vw.iret (de_ireturn (B 73 _ rfl)) rfl ⟨_, rfl, (fin (-2, I (r + 2), I (r + 14), u) (by unfold obeyP letO; rw [if_neg c_26, if_pos c_62, if_pos a2]) I Fq.rfl rfl rfl hu (by unfold paidO; rw [if_pos (Or.inr (Or.inl c_62))]))⟩
      · obtain rfl := nI_is0 a1 a3
        exact Vw.iret (de_ireturn (B 73 _ rfl)) rfl ⟨_, rfl, (fin (-3, I (r + 2), I (r + 14), u) (by unfold obeyP letO; rw [if_neg c_26, if_pos c_62, if_neg (by rw [a4]; exact fun z => absurd a2 ((lie_n2 (by omega) hnc).mp z)), a4, nI_cl (by omega), if_pos a5]) I Fq.rfl rfl rfl hu (by unfold paidO; rw [if_pos (Or.inr (Or.inl c_62))]))⟩
      · obtain rfl := nI_is0 a1 a3
        obtain ⟨b1, b2, b3, b4⟩ := FkK a6
        exact Vw.iret (de_ireturn (B 73 _ rfl)) rfl ⟨_, rfl, (fin (letK (I (r + 2)) i 0 (32 + 8 * i + 0), letK (I (r + 2)) i 0, keepL (I (r + 14)) (I (r + 2)) u 1, keepN u) (by unfold obeyP letO; rw [if_neg c_26, if_pos c_62, if_neg (by rw [a4]; exact fun z => absurd a2 ((lie_n2 (by omega) hnc).mp z)), a4, nI_cl (by omega), if_neg a5]) I2 b1 a7 b2 b3 (by rw [b4]; exact (by unfold paidO; rw [if_pos (Or.inr (Or.inl c_62))])))⟩
    refine Vw.aload_n (de_aload_0 (B 45 _ rfl)) 0 rfl (n := 46) rfl ?_
    refine Vw.getI (de_getfield (B 46 _ rfl) (B 47 _ rfl) (B 48 _ rfl)) fl_X12_449 rfl hM.k (n := 49) rfl ?_
    refine Vw.bipush (v := 26) (de_bipush (B 49 _ rfl) (B 50 _ rfl)) rfl (n := 51) rfl ?_
    refine Vw.icmp_ne (tgt := 74) (n := 54) (de_icmp_ne (B 51 _ rfl) (B 52 _ rfl) (B 53 _ rfl)) rfl rfl (fun c_51 => ?_) (fun c_51 => ?_)
    · refine Vw.aload_n (de_aload_0 (B 74 _ rfl)) 0 rfl (n := 75) rfl ?_
      refine Vw.getI (de_getfield (B 75 _ rfl) (B 76 _ rfl) (B 77 _ rfl)) fl_X12_449 rfl hM.k (n := 78) rfl ?_
      refine Vw.bipush (v := 23) (de_bipush (B 78 _ rfl) (B 79 _ rfl)) rfl (n := 80) rfl ?_
      refine Vw.icmp_ne (tgt := 92) (n := 83) (de_icmp_ne (B 80 _ rfl) (B 81 _ rfl) (B 82 _ rfl)) rfl rfl (fun c_80 => ?_) (fun c_80 => ?_)
      · refine Vw.aload_n (de_aload_0 (B 92 _ rfl)) 0 rfl (n := 93) rfl ?_
        refine Vw.ivi0 (mi' := mX12_quarterKept) (de_invokevirtual (B 93 _ rfl) (B 94 _ rfl) (B 95 _ rfl)) ml_X12_397 mv_X12_quarterKept hM.k (Nat.le_of_ble_eq_true rfl) (n := 96) rfl (c_X12_quarterKept (W := W) (np := np) (nc := nc) (u := u) hM hW hT hu h16 (fun a1 => ?_) (fun a1 I2 a2 a3 => ?_))
        · exact pay (fun z => c_26 z) (fun z => c_42 z) (fun z => c_51 z) (-3, I (r + 2), I (r + 14), u) (by unfold obeyP quarO; rw [if_neg c_26, if_neg c_42, if_neg c_51, if_neg c_80, if_pos a1]) I Fq.rfl rfl rfl hu rfl
        · obtain ⟨b1, b2, b3, b4⟩ := FkK a2
          exact pay (fun z => c_26 z) (fun z => c_42 z) (fun z => c_51 z) ((quarterP W (I (r + 2)) np nc).2, (quarterP W (I (r + 2)) np nc).1, keepL (I (r + 14)) (I (r + 2)) u 2, keepN u) (by unfold obeyP quarO; rw [if_neg c_26, if_neg c_42, if_neg c_51, if_neg c_80, if_neg a1]) I2 b1 a3 b2 b3 b4
      refine Vw.aload_n (de_aload_0 (B 83 _ rfl)) 0 rfl (n := 84) rfl ?_
      refine Vw.iload_n (de_iload_1 (B 84 _ rfl)) 1 rfl (n := 85) rfl ?_
      refine Vw.iload_n (de_iload_2 (B 85 _ rfl)) 2 rfl (n := 86) rfl ?_
      refine Vw.ivi2 (mi' := mX12_handsKept) (de_invokevirtual (B 86 _ rfl) (B 87 _ rfl) (B 88 _ rfl)) ml_X12_400 mv_X12_handsKept hM.k (Nat.le_of_ble_eq_true rfl) (n := 89) rfl (c_X12_handsKept (W := W) (np := np) (nc := nc) (u := u) hM hW hT hu h16 (fun a1 => ?_) (fun i q a1 a2 a3 a4 a5 => ?_) (fun i q I2 a1 a2 a3 a4 a5 a6 a7 a8 => ?_) (fun i q I2 a1 a2 a3 a4 a5 a6 a7 a8 => ?_))
      · refine Vw.goto_ (n := 96) (de_goto_ (B 89 _ rfl) (B 90 _ rfl) (B 91 _ rfl)) rfl ?_
        exact pay (fun z => c_26 z) (fun z => c_42 z) (fun z => c_51 z) (-2, I (r + 2), I (r + 14), u) (by unfold obeyP handO; rw [if_neg c_26, if_neg c_42, if_neg c_51, if_pos c_80, if_pos a1]) I Fq.rfl rfl rfl hu rfl
      · refine Vw.goto_ (n := 96) (de_goto_ (B 89 _ rfl) (B 90 _ rfl) (B 91 _ rfl)) rfl ?_
        exact pay (fun z => c_26 z) (fun z => c_42 z) (fun z => c_51 z) (-3, I (r + 2), I (r + 14), u) (by unfold obeyP handO; rw [if_neg c_26, if_neg c_42, if_neg c_51, if_pos c_80, if_neg (fun z => z.elim (by rw [a3]; exact fun z => absurd a1 ((lie_n2 (by omega) hnc).mp z)) (by rw [a4]; exact fun z => absurd a2 ((lie_np (by omega) hnp).mp z))), a3, nI_cl (by omega), if_pos a5]) I Fq.rfl rfl rfl hu rfl
      · obtain ⟨b1, b2, b3, b4⟩ := FkK a7
        refine Vw.goto_ (n := 96) (de_goto_ (B 89 _ rfl) (B 90 _ rfl) (B 91 _ rfl)) rfl ?_
        exact pay (fun z => c_26 z) (fun z => c_42 z) (fun z => c_51 z) (0, handK (I (r + 2)) i q, keepL (I (r + 14)) (I (r + 2)) u 3, keepN u) (by unfold obeyP handO; rw [if_neg c_26, if_neg c_42, if_neg c_51, if_pos c_80, if_neg (fun z => z.elim (by rw [a3]; exact fun z => absurd a1 ((lie_n2 (by omega) hnc).mp z)) (by rw [a4]; exact fun z => absurd a2 ((lie_np (by omega) hnp).mp z))), a3, a4, nI_cl (by omega), nI_cl (by omega), if_neg (fun z => z a5), if_neg a6]) I2 b1 a8 b2 b3 b4
      · obtain ⟨b1, b2, b3, b4⟩ := FkK a7
        refine Vw.goto_ (n := 96) (de_goto_ (B 89 _ rfl) (B 90 _ rfl) (B 91 _ rfl)) rfl ?_
        exact pay (fun z => c_26 z) (fun z => c_42 z) (fun z => c_51 z) (payAt W (handK (I (r + 2)) i q) i, payK W (handK (I (r + 2)) i q) i, keepL (I (r + 14)) (I (r + 2)) u 3, keepN u) (by unfold obeyP handO; rw [if_neg c_26, if_neg c_42, if_neg c_51, if_pos c_80, if_neg (fun z => z.elim (by rw [a3]; exact fun z => absurd a1 ((lie_n2 (by omega) hnc).mp z)) (by rw [a4]; exact fun z => absurd a2 ((lie_np (by omega) hnp).mp z))), a3, a4, nI_cl (by omega), nI_cl (by omega), if_neg (fun z => z a5), if_pos a6]) I2 b1 a8 b2 b3 b4
    refine Vw.aload_n (de_aload_0 (B 54 _ rfl)) 0 rfl (n := 55) rfl ?_
    refine Vw.iload_n (de_iload_1 (B 55 _ rfl)) 1 rfl (n := 56) rfl ?_
    refine Vw.aload_n (de_aload_0 (B 56 _ rfl)) 0 rfl (n := 57) rfl ?_
    refine Vw.getI (de_getfield (B 57 _ rfl) (B 58 _ rfl) (B 59 _ rfl)) fl_X12_449 rfl hM.k (n := 60) rfl ?_
    refine Vw.bipush (v := 25) (de_bipush (B 60 _ rfl) (B 61 _ rfl)) rfl (n := 62) rfl ?_
    refine Vw.icmp_ne (tgt := 69) (n := 65) (de_icmp_ne (B 62 _ rfl) (B 63 _ rfl) (B 64 _ rfl)) rfl rfl (fun c_62 => ?_) (fun c_62 => ?_)
    · refine Vw.iconst (v := 1) (de_iconst_1 (B 69 _ rfl)) rfl (n := 70) rfl ?_
      refine Vw.ivi2 (mi' := mX12_letsKept) (de_invokevirtual (B 70 _ rfl) (B 71 _ rfl) (B 72 _ rfl)) ml_X12_372 mv_X12_letsKept hM.k (Nat.le_of_ble_eq_true rfl) (n := 73) rfl (c_X12_letsKept (np := np) (nc := nc) (u := u) hM hT hu h16 (fun a1 => absurd a1 (by decide)) (fun a1 a2 => ?_) (fun i j a1 a2 a3 a4 a5 => ?_) (fun i j I2 a1 a2 a3 a4 a5 a6 a7 => ?_))
      · have v26 : I r 48 = 26 := by first | exact c_51 | exact absurd c_42 c_62
        exact Vw.iret (de_ireturn (B 73 _ rfl)) rfl ⟨_, rfl, (fin (-2, I (r + 2), I (r + 14), u) (by unfold obeyP letO; rw [if_neg c_26, if_neg c_62, if_pos v26, if_pos a2]) I Fq.rfl rfl rfl hu (by unfold paidO; rw [if_pos (Or.inr (Or.inr v26))]))⟩
      · have v26 : I r 48 = 26 := by first | exact c_51 | exact absurd c_42 c_62
        obtain rfl := nI_is1 a1 a3
        exact Vw.iret (de_ireturn (B 73 _ rfl)) rfl ⟨_, rfl, (fin (-3, I (r + 2), I (r + 14), u) (by unfold obeyP letO; rw [if_neg c_26, if_neg c_62, if_pos v26, if_neg (by rw [a4]; exact fun z => absurd a2 ((lie_n2 (by omega) hnc).mp z)), a4, nI_cl (by omega), if_pos a5]) I Fq.rfl rfl rfl hu (by unfold paidO; rw [if_pos (Or.inr (Or.inr v26))]))⟩
      · have v26 : I r 48 = 26 := by first | exact c_51 | exact absurd c_42 c_62
        obtain rfl := nI_is1 a1 a3
        obtain ⟨b1, b2, b3, b4⟩ := FkK a6
        exact Vw.iret (de_ireturn (B 73 _ rfl)) rfl ⟨_, rfl, (fin (letK (I (r + 2)) i 1 (32 + 8 * i + 1), letK (I (r + 2)) i 1, keepL (I (r + 14)) (I (r + 2)) u 1, keepN u) (by unfold obeyP letO; rw [if_neg c_26, if_neg c_62, if_pos v26, if_neg (by rw [a4]; exact fun z => absurd a2 ((lie_n2 (by omega) hnc).mp z)), a4, nI_cl (by omega), if_neg a5]) I2 b1 a7 b2 b3 (by rw [b4]; exact (by unfold paidO; rw [if_pos (Or.inr (Or.inr v26))])))⟩
    refine Vw.iconst (v := 0) (de_iconst_0 (B 65 _ rfl)) rfl (n := 66) rfl ?_
    refine Vw.goto_ (n := 70) (de_goto_ (B 66 _ rfl) (B 67 _ rfl) (B 68 _ rfl)) rfl ?_
    refine Vw.ivi2 (mi' := mX12_letsKept) (de_invokevirtual (B 70 _ rfl) (B 71 _ rfl) (B 72 _ rfl)) ml_X12_372 mv_X12_letsKept hM.k (Nat.le_of_ble_eq_true rfl) (n := 73) rfl (c_X12_letsKept (np := np) (nc := nc) (u := u) hM hT hu h16 (fun a1 => absurd a1 (by decide)) (fun a1 a2 => ?_) (fun i j a1 a2 a3 a4 a5 => ?_) (fun i j I2 a1 a2 a3 a4 a5 a6 a7 => ?_))
    · exact Vw.iret (de_ireturn (B 73 _ rfl)) rfl ⟨_, rfl, (fin (-2, I (r + 2), I (r + 14), u) (by unfold obeyP letO; rw [if_neg c_26, if_pos c_62, if_pos a2]) I Fq.rfl rfl rfl hu (by unfold paidO; rw [if_pos (Or.inr (Or.inl c_62))]))⟩
    · obtain rfl := nI_is0 a1 a3
      exact Vw.iret (de_ireturn (B 73 _ rfl)) rfl ⟨_, rfl, (fin (-3, I (r + 2), I (r + 14), u) (by unfold obeyP letO; rw [if_neg c_26, if_pos c_62, if_neg (by rw [a4]; exact fun z => absurd a2 ((lie_n2 (by omega) hnc).mp z)), a4, nI_cl (by omega), if_pos a5]) I Fq.rfl rfl rfl hu (by unfold paidO; rw [if_pos (Or.inr (Or.inl c_62))]))⟩
    · obtain rfl := nI_is0 a1 a3
      obtain ⟨b1, b2, b3, b4⟩ := FkK a6
      exact Vw.iret (de_ireturn (B 73 _ rfl)) rfl ⟨_, rfl, (fin (letK (I (r + 2)) i 0 (32 + 8 * i + 0), letK (I (r + 2)) i 0, keepL (I (r + 14)) (I (r + 2)) u 1, keepN u) (by unfold obeyP letO; rw [if_neg c_26, if_pos c_62, if_neg (by rw [a4]; exact fun z => absurd a2 ((lie_n2 (by omega) hnc).mp z)), a4, nI_cl (by omega), if_neg a5]) I2 b1 a7 b2 b3 (by rw [b4]; exact (by unfold paidO; rw [if_pos (Or.inr (Or.inl c_62))])))⟩
  refine Vw.aload_n (de_aload_0 (B 29 _ rfl)) 0 rfl (n := 30) rfl ?_
  refine Vw.iload_n (de_iload_1 (B 30 _ rfl)) 1 rfl (n := 31) rfl ?_
  refine Vw.iload_n (de_iload_2 (B 31 _ rfl)) 2 rfl (n := 32) rfl ?_
  refine Vw.ivi2 (mi' := mX12_feeds) (de_invokevirtual (B 32 _ rfl) (B 33 _ rfl) (B 34 _ rfl)) ml_X12_153 mv_X12_feeds hM.k (Nat.le_of_ble_eq_true rfl) (n := 35) rfl (c_X12_feeds (n := np) hM e142 hnp (fun a1 => ?_) (fun a1 a2 => ?_) (fun j a1 a2 a3 => ?_))
  · exact Vw.iret (de_ireturn (B 35 _ rfl)) rfl ⟨_, rfl, (fin (-1, I (r + 2), I (r + 14), u) (by unfold obeyP feedO; rw [if_pos c_26, if_pos a1]) I Fq.rfl rfl rfl hu (by unfold paidO; rw [if_pos (Or.inl c_26)]))⟩
  · exact Vw.iret (de_ireturn (B 35 _ rfl)) rfl ⟨_, rfl, (fin (-2, I (r + 2), I (r + 14), u) (by unfold obeyP feedO; rw [if_pos c_26, if_neg a1, if_pos a2]) I Fq.rfl rfl rfl hu (by unfold paidO; rw [if_pos (Or.inl c_26)]))⟩
  · exact Vw.iret (de_ireturn (B 35 _ rfl)) rfl ⟨_, rfl, (fin (0, upK (I (r + 2)) (4 * j + 3) (smallP (L (r + 25) 1)), I (r + 14), u) (by unfold obeyP feedO; rw [if_pos c_26, if_neg a1, if_neg (by rw [a3]; exact fun z => absurd a2 ((lie_np (by omega) hnp).mp z)), a3, nI_cl (by omega)]) _ (fun a k h1 h2 h3 h4 => up2_a h2) (by unfold mFed; rw [up2_rs]) (by unfold mFed; rw [up2_row (by omega)]) (by unfold mFed; rw [up2_a (by omega)]; exact hu) (by unfold mFed; rw [up2_a (by omega)]; unfold paidO; rw [if_pos (Or.inl c_26)]))⟩
