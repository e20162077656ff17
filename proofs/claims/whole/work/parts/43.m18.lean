theorem c_X12_passes0 {d : Nat} {S : vS} {I : vI} {L : vL} {Q : Int32 → vS → vI → vL → Prop} {r : Nat} {c : Int32} {bs nt i : Nat} {cd vl : Nat → Int32} {b : Int32} (hM : MS S r) (hE : EV I r bs nt cd vl) (hi : i ≤ nt) (h1 : cd i = c → Q 1 S (em I r (nI (bs + (i + 1))) b) L) (h2 : ¬ cd i = c → Q 0 S (em I r (nI (bs + i)) b) L) : Vc mX12_passes0 (d + 1) 0 0 [.ref r, .int c] S (em I r (nI (bs + i)) b) L (ViQ Q) := by
  refine Vc.of rfl (Nat.le_of_ble_eq_true rfl) ?_
  have B := bs_X12_passes0
  show Vw mX12_passes0 (d + 1) 0 0 0 0 (ViQ Q) 0 [(0, .ref r), (1, .int c)] [] S (em I r (nI (bs + i)) b) L
  refine Vw.aload_n (de_aload_0 (B 0 _ rfl)) 0 rfl (n := 1) rfl ?_
  refine Vw.aload_n (de_aload_0 (B 1 _ rfl)) 0 rfl (n := 2) rfl ?_
  refine Vw.getI (de_getfield (B 2 _ rfl) (B 3 _ rfl) (B 4 _ rfl)) fl_X12_270 rfl hM.k (n := 5) rfl ?_
  rw [em_g]
  refine Vw.ivi1 (mi' := mX12_codeAt) (de_invokevirtual (B 5 _ rfl) (B 6 _ rfl) (B 7 _ rfl)) ml_X12_273 mv_X12_codeAt hM.k (Nat.le_of_ble_eq_true rfl) (n := 8) rfl (c_X12_codeAt hM hE hi ?_)
  refine Vw.iload_n (de_iload_1 (B 8 _ rfl)) 1 rfl (n := 9) rfl ?_
  refine Vw.icmp_ne (tgt := 16) (n := 12) (de_icmp_ne (B 9 _ rfl) (B 10 _ rfl) (B 11 _ rfl)) rfl rfl (fun c_9 => ?_) (fun c_9 => ?_)
  · refine Vw.iconst (v := 0) (de_iconst_0 (B 16 _ rfl)) rfl (n := 17) rfl ?_
    refine Vw.istore_n (lv2 := [(0, _), (1, _), (2, _)]) (de_istore_2 (B 17 _ rfl)) rfl (by decide) [1, 2, 0] rfl (n := 18) rfl ?_
    refine Vw.iload_n (de_iload_2 (B 18 _ rfl)) 2 rfl (n := 19) rfl ?_
    refine Vw.if_eq (tgt := 32) (n := 22) (de_if_eq (B 19 _ rfl) (B 20 _ rfl) (B 21 _ rfl)) rfl rfl (fun c_19 => ?_) (fun c_19 => ?_)
    · refine Vw.iload_n (de_iload_2 (B 32 _ rfl)) 2 rfl (n := 33) rfl ?_
      exact Vw.zret (de_ireturn (B 33 _ rfl)) rfl rfl ⟨_, rfl, (h2 c_9)⟩
    exact absurd rfl c_19
  refine Vw.iconst (v := 1) (de_iconst_1 (B 12 _ rfl)) rfl (n := 13) rfl ?_
  refine Vw.goto_ (n := 17) (de_goto_ (B 13 _ rfl) (B 14 _ rfl) (B 15 _ rfl)) rfl ?_
  refine Vw.istore_n (lv2 := [(0, _), (1, _), (2, _)]) (de_istore_2 (B 17 _ rfl)) rfl (by decide) [1, 2, 0] rfl (n := 18) rfl ?_
  refine Vw.iload_n (de_iload_2 (B 18 _ rfl)) 2 rfl (n := 19) rfl ?_
  refine Vw.if_eq (tgt := 32) (n := 22) (de_if_eq (B 19 _ rfl) (B 20 _ rfl) (B 21 _ rfl)) rfl rfl (fun c_19 => ?_) (fun c_19 => ?_)
  · exact absurd c_19 (by decide)
  refine Vw.aload_n (de_aload_0 (B 22 _ rfl)) 0 rfl (n := 23) rfl ?_
  refine Vw.dup (de_dup (B 23 _ rfl)) rfl (n := 24) rfl ?_
  refine Vw.getI (de_getfield (B 24 _ rfl) (B 25 _ rfl) (B 26 _ rfl)) fl_X12_270 rfl hM.k (n := 27) rfl ?_
  rw [em_g]
  refine Vw.iconst (v := 1) (de_iconst_1 (B 27 _ rfl)) rfl (n := 28) rfl ?_
  refine Vw.iadd (de_iadd (B 28 _ rfl)) (n := 29) rfl ?_
  refine Vw.putI (de_putfield (B 29 _ rfl) (B 30 _ rfl) (B 31 _ rfl)) fl_X12_270 hM.k rfl rfl (n := 32) rfl ?_
  refine Vw.iload_n (de_iload_2 (B 32 _ rfl)) 2 rfl (n := 33) rfl ?_
  exact Vw.zret (de_ireturn (B 33 _ rfl)) rfl rfl ⟨_, rfl, (by rw [em_inc]; exact h1 c_9)⟩
def zBnd (lv b : Int32) (v : Int64) : Int32 := if lv = 1 ∧ tBnd v = none then 1 else b
theorem tBnd_n {v : Int64} (h : 1000000000 < v ∨ v < -1000000000) : tBnd v = none := by
  unfold tBnd; rcases h with h | h
  · rw [if_pos h]
  · by_cases q : 1000000000 < v
    · rw [if_pos q]
    · rw [if_neg q, if_pos h]
theorem tBnd_s {v : Int64} (h1 : ¬ 1000000000 < v) (h2 : ¬ v < -1000000000) : tBnd v = some v := by unfold tBnd; rw [if_neg h1, if_neg h2]
theorem c_X12_bounded {d : Nat} {S : vS} {I : vI} {L : vL} {Q : Int64 → vS → vI → vL → Prop} {r : Nat} {v : Int64} {lv g b : Int32} (hM : MS S r) (hlv : lv = 0 ∨ lv = 1) (hb : b = 0 ∨ b = 1) (h : Q (if zBnd lv b v = 0 then v else 0) S (em I r g (zBnd lv b v)) L) : Vc mX12_bounded d 0 0 [.ref r, .long v, .int lv] S (em I r g b) L (VlQ Q) := by
  refine Vc.of rfl (Nat.le_of_ble_eq_true rfl) ?_
  have B := bs_X12_bounded
  show Vw mX12_bounded d 0 0 0 0 (VlQ Q) 0 [(0, .ref r), (1, .long v), (3, .int lv)] [] S (em I r g b) L
  have fin : ∀ b2 : Int32, b2 = zBnd lv b v → Vw mX12_bounded d 0 0 0 0 (VlQ Q) 25 [(0, .ref r), (1, .long v), (3, .int lv)] [] S (em I r g b2) L := by
    intro b2 e2
    rw [← e2] at h
    refine Vw.aload_n (de_aload_0 (B 25 _ rfl)) 0 rfl (n := 26) rfl ?_
    refine Vw.getI (de_getfield (B 26 _ rfl) (B 27 _ rfl) (B 28 _ rfl)) fl_X12_280 rfl hM.k (n := 29) rfl ?_
    rw [em_b]
    refine Vw.if_eq (tgt := 36) (n := 32) (de_if_eq (B 29 _ rfl) (B 30 _ rfl) (B 31 _ rfl)) rfl rfl (fun c_29 => ?_) (fun c_29 => ?_)
    · refine Vw.lload_n (de_lload_1 (B 36 _ rfl)) 1 rfl (n := 37) rfl ?_
      exact Vw.lret (de_lreturn (B 37 _ rfl)) rfl ⟨_, rfl, (by first | (rw [if_neg c_29] at h; exact h) | (rw [if_pos c_29] at h; exact h))⟩
    refine Vw.lconst (v := 0) (de_lconst_0 (B 32 _ rfl)) rfl (n := 33) rfl ?_
    refine Vw.goto_ (n := 37) (de_goto_ (B 33 _ rfl) (B 34 _ rfl) (B 35 _ rfl)) rfl ?_
    exact Vw.lret (de_lreturn (B 37 _ rfl)) rfl ⟨_, rfl, (by first | (rw [if_neg c_29] at h; exact h) | (rw [if_pos c_29] at h; exact h))⟩
  refine Vw.iload_n (de_iload_3 (B 0 _ rfl)) 2 rfl (n := 1) rfl ?_
  refine Vw.if_eq (tgt := 25) (n := 4) (de_if_eq (B 1 _ rfl) (B 2 _ rfl) (B 3 _ rfl)) rfl rfl (fun c_1 => ?_) (fun c_1 => ?_)
  · first
    | exact fin b (by unfold zBnd; rw [if_neg (fun q => absurd (q.1.symm.trans c_1) (by decide))])
    | exact fin b (by unfold zBnd; rw [tBnd_s (fun q => c_9 ((lg_cmp_gt _ _).mpr q)) (fun q => absurd ((lg_cmp_ge _ _).mp c_17) (by rw [Int64.not_le]; exact q)), if_neg (fun q => absurd q.2 (by simp))])
    | (rw [em_ub]; exact fin 1 (by unfold zBnd; rw [if_pos ⟨hlv.resolve_left c_1, tBnd_n (by first | exact Or.inl ((lg_cmp_gt _ _).mp c_9) | exact Or.inr (Int64.not_le.mp (fun q => c_17 ((lg_cmp_ge _ _).mpr q))))⟩]))
  refine Vw.lload_n (de_lload_1 (B 4 _ rfl)) 1 rfl (n := 5) rfl ?_
  refine Vw.ldc2 (de_ldc2_w (B 5 _ rfl) (B 6 _ rfl) (B 7 _ rfl)) kc_X12_276 (n := 8) rfl ?_
  refine Vw.lcmp (de_lcmp (B 8 _ rfl)) (n := 9) rfl ?_
  refine Vw.if_gt (tgt := 20) (n := 12) (de_if_gt (B 9 _ rfl) (B 10 _ rfl) (B 11 _ rfl)) rfl rfl (fun c_9 => ?_) (fun c_9 => ?_)
  · refine Vw.aload_n (de_aload_0 (B 20 _ rfl)) 0 rfl (n := 21) rfl ?_
    refine Vw.iconst (v := 1) (de_iconst_1 (B 21 _ rfl)) rfl (n := 22) rfl ?_
    refine Vw.putZ (de_putfield (B 22 _ rfl) (B 23 _ rfl) (B 24 _ rfl)) fl_X12_280 hM.k rfl rfl rfl rfl (n := 25) rfl ?_
    first
    | exact fin b (by unfold zBnd; rw [if_neg (fun q => absurd (q.1.symm.trans c_1) (by decide))])
    | exact fin b (by unfold zBnd; rw [tBnd_s (fun q => c_9 ((lg_cmp_gt _ _).mpr q)) (fun q => absurd ((lg_cmp_ge _ _).mp c_17) (by rw [Int64.not_le]; exact q)), if_neg (fun q => absurd q.2 (by simp))])
    | (rw [em_ub]; exact fin 1 (by unfold zBnd; rw [if_pos ⟨hlv.resolve_left c_1, tBnd_n (by first | exact Or.inl ((lg_cmp_gt _ _).mp c_9) | exact Or.inr (Int64.not_le.mp (fun q => c_17 ((lg_cmp_ge _ _).mpr q))))⟩]))
  refine Vw.lload_n (de_lload_1 (B 12 _ rfl)) 1 rfl (n := 13) rfl ?_
  refine Vw.ldc2 (de_ldc2_w (B 13 _ rfl) (B 14 _ rfl) (B 15 _ rfl)) kc_X12_278 (n := 16) rfl ?_
  refine Vw.lcmp (de_lcmp (B 16 _ rfl)) (n := 17) rfl ?_
  refine Vw.if_ge (tgt := 25) (n := 20) (de_if_ge (B 17 _ rfl) (B 18 _ rfl) (B 19 _ rfl)) rfl rfl (fun c_17 => ?_) (fun c_17 => ?_)
  · first
    | exact fin b (by unfold zBnd; rw [if_neg (fun q => absurd (q.1.symm.trans c_1) (by decide))])
    | exact fin b (by unfold zBnd; rw [tBnd_s (fun q => c_9 ((lg_cmp_gt _ _).mpr q)) (fun q => absurd ((lg_cmp_ge _ _).mp c_17) (by rw [Int64.not_le]; exact q)), if_neg (fun q => absurd q.2 (by simp))])
    | (rw [em_ub]; exact fin 1 (by unfold zBnd; rw [if_pos ⟨hlv.resolve_left c_1, tBnd_n (by first | exact Or.inl ((lg_cmp_gt _ _).mp c_9) | exact Or.inr (Int64.not_le.mp (fun q => c_17 ((lg_cmp_ge _ _).mpr q))))⟩]))
  refine Vw.aload_n (de_aload_0 (B 20 _ rfl)) 0 rfl (n := 21) rfl ?_
  refine Vw.iconst (v := 1) (de_iconst_1 (B 21 _ rfl)) rfl (n := 22) rfl ?_
  refine Vw.putZ (de_putfield (B 22 _ rfl) (B 23 _ rfl) (B 24 _ rfl)) fl_X12_280 hM.k rfl rfl rfl rfl (n := 25) rfl ?_
  first
  | exact fin b (by unfold zBnd; rw [if_neg (fun q => absurd (q.1.symm.trans c_1) (by decide))])
  | exact fin b (by unfold zBnd; rw [tBnd_s (fun q => c_9 ((lg_cmp_gt _ _).mpr q)) (fun q => absurd ((lg_cmp_ge _ _).mp c_17) (by rw [Int64.not_le]; exact q)), if_neg (fun q => absurd q.2 (by simp))])
  | (rw [em_ub]; exact fin 1 (by unfold zBnd; rw [if_pos ⟨hlv.resolve_left c_1, tBnd_n (by first | exact Or.inl ((lg_cmp_gt _ _).mp c_9) | exact Or.inr (Int64.not_le.mp (fun q => c_17 ((lg_cmp_ge _ _).mpr q))))⟩]))
