/-! What changes the town -/
theorem mKeep1_a {I : vI} {r u a k : Nat} {x : Int32} (h1 : a ≠ r + 14) (h2 : ¬ (a = r ∧ k = 32)) : mKeep1 I r u x a k = I a k := by
  unfold mKeep1
  by_cases h : a = r
  · rw [up2_k (fun q => h2 ⟨h, q⟩), up2_a h1, cpR_o h1]
  · rw [up2_a h, up2_a h1, cpR_o h1]
theorem mKeeps_a {I : vI} {r u a k : Nat} {x : Int32} (h1 : a ≠ r + 14) (h2 : ¬ (a = r ∧ k = 32)) : mKeeps I r u x a k = I a k := by
  unfold mKeeps
  split
  · rw [mKeep1_a h1 h2]
    by_cases h : a = r
    · rw [up2_k (fun q => h2 ⟨h, q⟩), cpR_o h1]
    · rw [up2_a h, cpR_o h1]
  · exact mKeep1_a h1 h2
theorem mKeeps_k {I : vI} {r u : Nat} {x : Int32} : mKeeps I r u x (r + 2) = I (r + 2) := funext fun k => mKeeps_a (by omega) (by omega)
def letK (K : Nat → Int32) (c x : Nat) : Nat → Int32 := upK (upK K (32 + 8 * c + 5 + x) (K (32 + 8 * c + 5 + x) - 1)) (32 + 8 * c + x) (K (32 + 8 * c + x) + (2 - nI x))
theorem FkU {r k : Nat} {I J : vI} {v : Int32} (h : Fk r I J) : Fk r I (up2 J (r + 2) k v) := fun a j h1 h2 h3 => by rw [up2_a h3]; exact h a j h1 h2 h3
theorem c_X12_letsKept {d : Nat} {S : vS} {I : vI} {L : vL} {Q : Int32 → vS → vI → vL → Prop} {r : Nat} {c x : Int32} {np nc u : Nat}  (hM : MS S r) (hT : TN (I (r + 2)) np nc) (hu : I r 32 = nI u) (h16 : u ≤ 16) (h1 : zLie x 0 1 = 0 → Q (-1) S I L) (h2 : ¬ zLie x 0 1 = 0 → zLie c 0 (nI nc - 1) = 0 → Q (-2) S I L) (h3 : ∀ i j, j ≤ 1 → i < nc → x = nI j → c = nI i → I (r + 2) (32 + 8 * i + 5 + j) = 0 → Q (-3) S I L) (h : ∀ i j I2, j ≤ 1 → i < nc → x = nI j → c = nI i → ¬ I (r + 2) (32 + 8 * i + 5 + j) = 0 → Fk r (mKeeps I r u 1) I2 → I2 (r + 2) = letK (I (r + 2)) i j → Q (letK (I (r + 2)) i j (32 + 8 * i + j)) S I2 L) : Vc mX12_letsKept (d + 2) 0 0 [.ref r, .int c, .int x] S I L (ViQ Q) := by
  refine Vc.of rfl (Nat.le_of_ble_eq_true rfl) ?_
  have B := bs_X12_letsKept
  show Vw mX12_letsKept (d + 2) 0 0 0 0 (ViQ Q) 0 [(0, .ref r), (1, .int c), (2, .int x)] [] S I L
  have hnp := hT.1
  have hnc := hT.2.1
  have e142 := hT.2.2.1
  have e112 := hT.2.2.2.1
  refine Vw.iload_n (de_iload_2 (B 0 _ rfl)) 2 rfl (n := 1) rfl ?_
  refine Vw.iconst (v := 0) (de_iconst_0 (B 1 _ rfl)) rfl (n := 2) rfl ?_
  refine Vw.iconst (v := 1) (de_iconst_1 (B 2 _ rfl)) rfl (n := 3) rfl ?_
  refine Vw.isi3 (mi' := mX12_lies) (de_invokestatic (B 3 _ rfl) (B 4 _ rfl) (B 5 _ rfl)) ml_X12_111 ms_X12_lies (Nat.le_of_ble_eq_true rfl) (n := 6) rfl (c_X12_lies ?_)
  refine Vw.if_ne (tgt := 11) (n := 9) (de_if_ne (B 6 _ rfl) (B 7 _ rfl) (B 8 _ rfl)) rfl rfl (fun c_6 => ?_) (fun c_6 => ?_)
  · obtain ⟨j, hj, ej⟩ := lie_n (N := 1) (by decide) c_6
    subst ej
    refine Vw.aload_n (de_aload_0 (B 11 _ rfl)) 0 rfl (n := 12) rfl ?_
    refine Vw.iload_n (de_iload_1 (B 12 _ rfl)) 1 rfl (n := 13) rfl ?_
    refine Vw.ivi1 (mi' := mX12_isCoat) (de_invokevirtual (B 13 _ rfl) (B 14 _ rfl) (B 15 _ rfl)) ml_X12_366 mv_X12_isCoat hM.k (Nat.le_of_ble_eq_true rfl) (n := 16) rfl (c_X12_isCoat hM ?_)
    rw [e112]
    refine Vw.if_ne (tgt := 22) (n := 19) (de_if_ne (B 16 _ rfl) (B 17 _ rfl) (B 18 _ rfl)) rfl rfl (fun c_16 => ?_) (fun c_16 => ?_)
    · obtain ⟨i, hi, ei⟩ := lie_ex (by omega) c_16
      subst ei
      refine Vw.aload_n (de_aload_0 (B 22 _ rfl)) 0 rfl (n := 23) rfl ?_
      refine Vw.iload_n (de_iload_1 (B 23 _ rfl)) 1 rfl (n := 24) rfl ?_
      refine Vw.iconst (v := 5) (de_iconst_5 (B 24 _ rfl)) rfl (n := 25) rfl ?_
      refine Vw.iload_n (de_iload_2 (B 25 _ rfl)) 2 rfl (n := 26) rfl ?_
      refine Vw.iadd (de_iadd (B 26 _ rfl)) (n := 27) rfl ?_
      refine Vw.ivi2 (mi' := mX12_part) (de_invokevirtual (B 27 _ rfl) (B 28 _ rfl) (B 29 _ rfl)) ml_X12_136 mv_X12_part hM.k (Nat.le_of_ble_eq_true rfl) (n := 30) rfl (c_X12_part hM (vIx_n (k := 32 + 8 * i + 5 + j) (by simp only [nI_A, nI_M, Int32.add_assoc, Int32.zero_add, Int32.add_zero] <;> rfl) (by omega)) ?_)
      refine Vw.if_ne (tgt := 36) (n := 33) (de_if_ne (B 30 _ rfl) (B 31 _ rfl) (B 32 _ rfl)) rfl rfl (fun c_30 => ?_) (fun c_30 => ?_)
      · refine Vw.aload_n (de_aload_0 (B 36 _ rfl)) 0 rfl (n := 37) rfl ?_
        refine Vw.iconst (v := 1) (de_iconst_1 (B 37 _ rfl)) rfl (n := 38) rfl ?_
        refine Vw.ivv1 (mi' := mX12_keeps) (de_invokevirtual (B 38 _ rfl) (B 39 _ rfl) (B 40 _ rfl)) ml_X12_369 mv_X12_keeps hM.k (Nat.le_of_ble_eq_true rfl) (n := 41) rfl (c_X12_keeps hM hu h16 ?_)
        refine Vw.aload_n (de_aload_0 (B 41 _ rfl)) 0 rfl (n := 42) rfl ?_
        refine Vw.getR (de_getfield (B 42 _ rfl) (B 43 _ rfl) (B 44 _ rfl)) fl_X12_24 rfl hM.k (MS_kept hM).1 (n := 45) rfl ?_
        refine Vw.bipush (v := 32) (de_bipush (B 45 _ rfl) (B 46 _ rfl)) rfl (n := 47) rfl ?_
        refine Vw.bipush (v := 8) (de_bipush (B 47 _ rfl) (B 48 _ rfl)) rfl (n := 49) rfl ?_
        refine Vw.iload_n (de_iload_1 (B 49 _ rfl)) 1 rfl (n := 50) rfl ?_
        refine Vw.imul (de_imul (B 50 _ rfl)) (n := 51) rfl ?_
        refine Vw.iadd (de_iadd (B 51 _ rfl)) (n := 52) rfl ?_
        refine Vw.iconst (v := 5) (de_iconst_5 (B 52 _ rfl)) rfl (n := 53) rfl ?_
        refine Vw.iadd (de_iadd (B 53 _ rfl)) (n := 54) rfl ?_
        refine Vw.iload_n (de_iload_2 (B 54 _ rfl)) 2 rfl (n := 55) rfl ?_
        refine Vw.iadd (de_iadd (B 55 _ rfl)) (n := 56) rfl ?_
        refine Vw.dup2 (de_dup2 (B 56 _ rfl)) rfl rfl (n := 57) rfl ?_
        refine Vw.iald (de_iaload (B 57 _ rfl)) (MS_kept hM).2 (vIx_n (k := 32 + 8 * i + 5 + j) (by simp only [nI_A, nI_M, Int32.zero_add, Int32.add_zero] <;> rfl) (by omega)) (n := 58) rfl ?_
        refine Vw.iconst (v := 1) (de_iconst_1 (B 58 _ rfl)) rfl (n := 59) rfl ?_
        refine Vw.isub (de_isub (B 59 _ rfl)) (n := 60) rfl ?_
        refine Vw.iast (de_iastore (B 60 _ rfl)) (MS_kept hM).2 (vIx_n (k := 32 + 8 * i + 5 + j) (by simp only [nI_A, nI_M, Int32.zero_add, Int32.add_zero] <;> rfl) (by omega)) (n := 61) rfl ?_
        refine Vw.aload_n (de_aload_0 (B 61 _ rfl)) 0 rfl (n := 62) rfl ?_
        refine Vw.getR (de_getfield (B 62 _ rfl) (B 63 _ rfl) (B 64 _ rfl)) fl_X12_24 rfl hM.k (MS_kept hM).1 (n := 65) rfl ?_
        refine Vw.bipush (v := 32) (de_bipush (B 65 _ rfl) (B 66 _ rfl)) rfl (n := 67) rfl ?_
        refine Vw.bipush (v := 8) (de_bipush (B 67 _ rfl) (B 68 _ rfl)) rfl (n := 69) rfl ?_
        refine Vw.iload_n (de_iload_1 (B 69 _ rfl)) 1 rfl (n := 70) rfl ?_
        refine Vw.imul (de_imul (B 70 _ rfl)) (n := 71) rfl ?_
        refine Vw.iadd (de_iadd (B 71 _ rfl)) (n := 72) rfl ?_
        refine Vw.iload_n (de_iload_2 (B 72 _ rfl)) 2 rfl (n := 73) rfl ?_
        refine Vw.iadd (de_iadd (B 73 _ rfl)) (n := 74) rfl ?_
        refine Vw.dup2 (de_dup2 (B 74 _ rfl)) rfl rfl (n := 75) rfl ?_
        refine Vw.iald (de_iaload (B 75 _ rfl)) (MS_kept hM).2 (vIx_n (k := 32 + 8 * i + j) (by simp only [nI_A, nI_M, Int32.zero_add, Int32.add_zero] <;> rfl) (by omega)) (n := 76) rfl ?_
        refine Vw.iconst (v := 2) (de_iconst_2 (B 76 _ rfl)) rfl (n := 77) rfl ?_
        refine Vw.iload_n (de_iload_2 (B 77 _ rfl)) 2 rfl (n := 78) rfl ?_
        refine Vw.isub (de_isub (B 78 _ rfl)) (n := 79) rfl ?_
        refine Vw.iadd (de_iadd (B 79 _ rfl)) (n := 80) rfl ?_
        refine Vw.iast (de_iastore (B 80 _ rfl)) (MS_kept hM).2 (vIx_n (k := 32 + 8 * i + j) (by simp only [nI_A, nI_M, Int32.zero_add, Int32.add_zero] <;> rfl) (by omega)) (n := 81) rfl ?_
        have eK : (up2 (up2 (mKeeps I r u 1) (r + 2) (32 + 8 * i + 5 + j) (mKeeps I r u 1 (r + 2) (32 + 8 * i + 5 + j) - 1)) (r + 2) (32 + 8 * i + j) (up2 (mKeeps I r u 1) (r + 2) (32 + 8 * i + 5 + j) (mKeeps I r u 1 (r + 2) (32 + 8 * i + 5 + j) - 1) (r + 2) (32 + 8 * i + j) + (2 - nI j))) (r + 2) = letK (I (r + 2)) i j := by
          unfold letK
          rw [up2_rs, up2_rs, upK_n (by omega), mKeeps_k]
        refine Vw.aload_n (de_aload_0 (B 81 _ rfl)) 0 rfl (n := 82) rfl ?_
        refine Vw.iload_n (de_iload_1 (B 82 _ rfl)) 1 rfl (n := 83) rfl ?_
        refine Vw.iload_n (de_iload_2 (B 83 _ rfl)) 2 rfl (n := 84) rfl ?_
        refine Vw.ivi2 (mi' := mX12_part) (de_invokevirtual (B 84 _ rfl) (B 85 _ rfl) (B 86 _ rfl)) ml_X12_136 mv_X12_part hM.k (Nat.le_of_ble_eq_true rfl) (n := 87) rfl (c_X12_part hM (vIx_n (k := 32 + 8 * i + j) (by simp only [nI_A, nI_M, Int32.zero_add, Int32.add_zero] <;> rfl) (by omega)) ?_)
        exact Vw.iret (de_ireturn (B 87 _ rfl)) rfl ⟨_, rfl, (by rw [eK]; exact h i j _ hj hi rfl rfl c_30 (FkU (FkU Fk.rfl)) eK)⟩
      refine Vw.bipush (v := -3) (de_bipush (B 33 _ rfl) (B 34 _ rfl)) rfl (n := 35) rfl ?_
      exact Vw.iret (de_ireturn (B 35 _ rfl)) rfl ⟨_, rfl, (h3 i j hj hi rfl rfl c_30)⟩
    refine Vw.bipush (v := -2) (de_bipush (B 19 _ rfl) (B 20 _ rfl)) rfl (n := 21) rfl ?_
    exact Vw.iret (de_ireturn (B 21 _ rfl)) rfl ⟨_, rfl, (h2 c_6 c_16)⟩
  refine Vw.iconst (v := -1) (de_iconst_m1 (B 9 _ rfl)) rfl (n := 10) rfl ?_
  exact Vw.iret (de_ireturn (B 10 _ rfl)) rfl ⟨_, rfl, (h1 c_6)⟩
theorem c_X12_quarterKept {d : Nat} {S : vS} {I : vI} {L : vL} {Q : Int32 → vS → vI → vL → Prop} {r : Nat} {np nc u : Nat} {W : tW}  (hM : MS S r) (hW : WD (I (r + 2)) W) (hT : TN (I (r + 2)) np nc) (hu : I r 32 = nI u) (h16 : u ≤ 16) (h1 : I (r + 2) 121 = 999 → Q (-3) S I L) (h : ¬ I (r + 2) 121 = 999 → ∀ I2, Fk r (mKeeps I r u 2) I2 → I2 (r + 2) = (quarterP W (I (r + 2)) np nc).1 → Q (quarterP W (I (r + 2)) np nc).2 S I2 L) : Vc mX12_quarterKept (d + 47) 0 0 [.ref r] S I L (ViQ Q) := by
  refine Vc.of rfl (Nat.le_of_ble_eq_true rfl) ?_
  have B := bs_X12_quarterKept
  show Vw mX12_quarterKept (d + 47) 0 0 0 0 (ViQ Q) 0 [(0, .ref r)] [] S I L
  refine Vw.aload_n (de_aload_0 (B 0 _ rfl)) 0 rfl (n := 1) rfl ?_
  refine Vw.getR (de_getfield (B 1 _ rfl) (B 2 _ rfl) (B 3 _ rfl)) fl_X12_24 rfl hM.k (MS_kept hM).1 (n := 4) rfl ?_
  refine Vw.bipush (v := 121) (de_bipush (B 4 _ rfl) (B 5 _ rfl)) rfl (n := 6) rfl ?_
  refine Vw.iald (de_iaload (B 6 _ rfl)) (MS_kept hM).2 (j := 121) ⟨rfl, by decide, by decide⟩ (n := 7) rfl ?_
  refine Vw.sipush (v := 999) (de_sipush (B 7 _ rfl) (B 8 _ rfl) (B 9 _ rfl)) rfl (n := 10) rfl ?_
  refine Vw.icmp_ne (tgt := 16) (n := 13) (de_icmp_ne (B 10 _ rfl) (B 11 _ rfl) (B 12 _ rfl)) rfl rfl (fun c_10 => ?_) (fun c_10 => ?_)
  · refine Vw.aload_n (de_aload_0 (B 16 _ rfl)) 0 rfl (n := 17) rfl ?_
    refine Vw.iconst (v := 2) (de_iconst_2 (B 17 _ rfl)) rfl (n := 18) rfl ?_
    refine Vw.ivv1 (mi' := mX12_keeps) (de_invokevirtual (B 18 _ rfl) (B 19 _ rfl) (B 20 _ rfl)) ml_X12_369 mv_X12_keeps hM.k (Nat.le_of_ble_eq_true rfl) (n := 21) rfl (c_X12_keeps hM hu h16 ?_)
    refine Vw.aload_n (de_aload_0 (B 21 _ rfl)) 0 rfl (n := 22) rfl ?_
    refine Vw.iconst (v := 0) (de_iconst_0 (B 22 _ rfl)) rfl (n := 23) rfl ?_
    refine Vw.ivi1 (mi' := mX12_quarters) (de_invokevirtual (B 23 _ rfl) (B 24 _ rfl) (B 25 _ rfl)) ml_X12_393 mv_X12_quarters hM.k (Nat.le_of_ble_eq_true rfl) (n := 26) rfl (c_X12_quarters_0 (W := W) (np := np) (nc := nc) hM (by rw [mKeeps_k]; exact hW) (by rw [mKeeps_k]; exact hT) (fun I2 f2 k2 => ?_))
    exact Vw.iret (de_ireturn (B 26 _ rfl)) rfl ⟨_, rfl, (by rw [mKeeps_k] at k2 ⊢; exact h c_10 I2 f2 k2)⟩
  refine Vw.bipush (v := -3) (de_bipush (B 13 _ rfl) (B 14 _ rfl)) rfl (n := 15) rfl ?_
  exact Vw.iret (de_ireturn (B 15 _ rfl)) rfl ⟨_, rfl, (h1 c_10)⟩
def handK (K : Nat → Int32) (c q : Nat) : Nat → Int32 := upK K (32 + 8 * c + 4) (nI q)
theorem handK_T {K : Nat → Int32} {np nc c q : Nat} (h : TN K np nc) (hc : c < nc) (hq : q < np) : TN (handK K c q) np nc := by
  have h2 := h.2.1
  unfold handK
  refine ⟨h.1, h.2.1, by rw [upK_n (by omega)]; exact h.2.2.1, by rw [upK_n (by omega)]; exact h.2.2.2.1, fun c2 hc2 => ?_⟩
  obtain ⟨a, b, e⟩ := h.2.2.2.2 c2 hc2
  refine ⟨by rw [upK_n (by omega)]; exact a, by rw [upK_n (by omega)]; exact b, ?_⟩
  by_cases z : c2 = c
  · subst z; rw [upK_s]; exact Or.inr ⟨q, hq, rfl⟩
  · rw [upK_n (by omega)]; exact e
theorem handK_fit {K : Nat → Int32} {c q : Nat} (hq : q < 8) : fitAt (handK K c q) c = fitP (handK K c q (32 + 8 * c)) (handK K c q (32 + 8 * c + 1)) (perP (handK K c q) q) := by
  unfold fitAt wrN
  rw [show handK K c q (32 + 8 * c + 4) = nI q from upK_s _ _ _, nI_cl (by omega)]
theorem c_X12_handsKept {d : Nat} {S : vS} {I : vI} {L : vL} {Q : Int32 → vS → vI → vL → Prop} {r : Nat} {c p : Int32} {np nc u : Nat} {W : tW}  (hM : MS S r) (hW : WD (I (r + 2)) W) (hT : TN (I (r + 2)) np nc) (hu : I r 32 = nI u) (h16 : u ≤ 16) (h1 : zLie c 0 (nI nc - 1) = 0 ∨ zLie p 0 (nI np - 1) = 0 → Q (-2) S I L) (h2 : ∀ i q, i < nc → q < np → c = nI i → p = nI q → ¬ I (r + 2) (32 + 8 * i + 4) = -1 → Q (-3) S I L) (h3 : ∀ i q I2, i < nc → q < np → c = nI i → p = nI q → I (r + 2) (32 + 8 * i + 4) = -1 → ¬ fitAt (handK (I (r + 2)) i q) i = 0 → Fk r (mKeeps I r u 3) I2 → I2 (r + 2) = handK (I (r + 2)) i q → Q 0 S I2 L) (h : ∀ i q I2, i < nc → q < np → c = nI i → p = nI q → I (r + 2) (32 + 8 * i + 4) = -1 → fitAt (handK (I (r + 2)) i q) i = 0 → Fk r (mKeeps I r u 3) I2 → I2 (r + 2) = payK W (handK (I (r + 2)) i q) i → Q (payAt W (handK (I (r + 2)) i q) i) S I2 L) : Vc mX12_handsKept (d + 46) 0 0 [.ref r, .int c, .int p] S I L (ViQ Q) := by
  refine Vc.of rfl (Nat.le_of_ble_eq_true rfl) ?_
  have B := bs_X12_handsKept
  show Vw mX12_handsKept (d + 46) 0 0 0 0 (ViQ Q) 0 [(0, .ref r), (1, .int c), (2, .int p)] [] S I L
  have hnp := hT.1
  have hnc := hT.2.1
  have e142 := hT.2.2.1
  have e112 := hT.2.2.2.1
  refine Vw.aload_n (de_aload_0 (B 0 _ rfl)) 0 rfl (n := 1) rfl ?_
  refine Vw.iload_n (de_iload_1 (B 1 _ rfl)) 1 rfl (n := 2) rfl ?_
  refine Vw.ivi1 (mi' := mX12_isCoat) (de_invokevirtual (B 2 _ rfl) (B 3 _ rfl) (B 4 _ rfl)) ml_X12_366 mv_X12_isCoat hM.k (Nat.le_of_ble_eq_true rfl) (n := 5) rfl (c_X12_isCoat hM ?_)
  rw [e112]
  refine Vw.if_eq (tgt := 16) (n := 8) (de_if_eq (B 5 _ rfl) (B 6 _ rfl) (B 7 _ rfl)) rfl rfl (fun c_5 => ?_) (fun c_5 => ?_)
  · refine Vw.bipush (v := -2) (de_bipush (B 16 _ rfl) (B 17 _ rfl)) rfl (n := 18) rfl ?_
    exact Vw.iret (de_ireturn (B 18 _ rfl)) rfl ⟨_, rfl, (h1 (by first | exact Or.inl c_5 | exact Or.inr c_13))⟩
  refine Vw.aload_n (de_aload_0 (B 8 _ rfl)) 0 rfl (n := 9) rfl ?_
  refine Vw.iload_n (de_iload_2 (B 9 _ rfl)) 2 rfl (n := 10) rfl ?_
  refine Vw.ivi1 (mi' := mX12_isPerson) (de_invokevirtual (B 10 _ rfl) (B 11 _ rfl) (B 12 _ rfl)) ml_X12_132 mv_X12_isPerson hM.k (Nat.le_of_ble_eq_true rfl) (n := 13) rfl (c_X12_isPerson hM ?_)
  rw [e142]
  refine Vw.if_ne (tgt := 19) (n := 16) (de_if_ne (B 13 _ rfl) (B 14 _ rfl) (B 15 _ rfl)) rfl rfl (fun c_13 => ?_) (fun c_13 => ?_)
  · obtain ⟨i, hi, ei⟩ := lie_ex (by omega) c_5
    subst ei
    obtain ⟨q, hq, eq⟩ := lie_ex (by omega) c_13
    subst eq
    refine Vw.aload_n (de_aload_0 (B 19 _ rfl)) 0 rfl (n := 20) rfl ?_
    refine Vw.iload_n (de_iload_1 (B 20 _ rfl)) 1 rfl (n := 21) rfl ?_
    refine Vw.iconst (v := 4) (de_iconst_4 (B 21 _ rfl)) rfl (n := 22) rfl ?_
    refine Vw.ivi2 (mi' := mX12_part) (de_invokevirtual (B 22 _ rfl) (B 23 _ rfl) (B 24 _ rfl)) ml_X12_136 mv_X12_part hM.k (Nat.le_of_ble_eq_true rfl) (n := 25) rfl (c_X12_part hM (vIx_n (k := 32 + 8 * i + 4) (by simp only [nI_A, nI_M, Int32.zero_add, Int32.add_zero] <;> rfl) (by omega)) ?_)
    refine Vw.iconst (v := -1) (de_iconst_m1 (B 25 _ rfl)) rfl (n := 26) rfl ?_
    refine Vw.icmp_eq (tgt := 32) (n := 29) (de_icmp_eq (B 26 _ rfl) (B 27 _ rfl) (B 28 _ rfl)) rfl rfl (fun c_26 => ?_) (fun c_26 => ?_)
    · refine Vw.aload_n (de_aload_0 (B 32 _ rfl)) 0 rfl (n := 33) rfl ?_
      refine Vw.iconst (v := 3) (de_iconst_3 (B 33 _ rfl)) rfl (n := 34) rfl ?_
      refine Vw.ivv1 (mi' := mX12_keeps) (de_invokevirtual (B 34 _ rfl) (B 35 _ rfl) (B 36 _ rfl)) ml_X12_369 mv_X12_keeps hM.k (Nat.le_of_ble_eq_true rfl) (n := 37) rfl (c_X12_keeps hM hu h16 ?_)
      refine Vw.aload_n (de_aload_0 (B 37 _ rfl)) 0 rfl (n := 38) rfl ?_
      refine Vw.getR (de_getfield (B 38 _ rfl) (B 39 _ rfl) (B 40 _ rfl)) fl_X12_24 rfl hM.k (MS_kept hM).1 (n := 41) rfl ?_
      refine Vw.bipush (v := 32) (de_bipush (B 41 _ rfl) (B 42 _ rfl)) rfl (n := 43) rfl ?_
      refine Vw.bipush (v := 8) (de_bipush (B 43 _ rfl) (B 44 _ rfl)) rfl (n := 45) rfl ?_
      refine Vw.iload_n (de_iload_1 (B 45 _ rfl)) 1 rfl (n := 46) rfl ?_
      refine Vw.imul (de_imul (B 46 _ rfl)) (n := 47) rfl ?_
      refine Vw.iadd (de_iadd (B 47 _ rfl)) (n := 48) rfl ?_
      refine Vw.iconst (v := 4) (de_iconst_4 (B 48 _ rfl)) rfl (n := 49) rfl ?_
      refine Vw.iadd (de_iadd (B 49 _ rfl)) (n := 50) rfl ?_
      refine Vw.iload_n (de_iload_2 (B 50 _ rfl)) 2 rfl (n := 51) rfl ?_
      refine Vw.iast (de_iastore (B 51 _ rfl)) (MS_kept hM).2 (vIx_n (k := 32 + 8 * i + 4) (by simp only [nI_A, nI_M, Int32.zero_add, Int32.add_zero] <;> rfl) (by omega)) (n := 52) rfl ?_
      have eK : (up2 (mKeeps I r u 3) (r + 2) (32 + 8 * i + 4) (nI q)) (r + 2) = handK (I (r + 2)) i q := by
        unfold handK
        rw [up2_rs, mKeeps_k]
      have eT := handK_T hT hi hq
      have eW : WD (handK (I (r + 2)) i q) W := hW.of (fun x hx => upK_n (by omega))
      have ef := handK_fit (K := I (r + 2)) (c := i) (q := q) (by omega)
      refine Vw.aload_n (de_aload_0 (B 52 _ rfl)) 0 rfl (n := 53) rfl ?_
      refine Vw.iload_n (de_iload_1 (B 53 _ rfl)) 1 rfl (n := 54) rfl ?_
      refine Vw.iload_n (de_iload_2 (B 54 _ rfl)) 2 rfl (n := 55) rfl ?_
      refine Vw.ivi2 (mi' := mX12_fitsNow) (de_invokevirtual (B 55 _ rfl) (B 56 _ rfl) (B 57 _ rfl)) ml_X12_387 mv_X12_fitsNow hM.k (Nat.le_of_ble_eq_true rfl) (n := 58) rfl (c_X12_fitsNow hM (by omega) (by omega) (fun I2 f2 => ?_))
      rw [eK, ← ef]
      refine Vw.if_eq (tgt := 65) (n := 61) (de_if_eq (B 58 _ rfl) (B 59 _ rfl) (B 60 _ rfl)) rfl rfl (fun c_58 => ?_) (fun c_58 => ?_)
      · refine Vw.aload_n (de_aload_0 (B 65 _ rfl)) 0 rfl (n := 66) rfl ?_
        refine Vw.iload_n (de_iload_1 (B 66 _ rfl)) 1 rfl (n := 67) rfl ?_
        refine Vw.ivi1 (mi' := mX12_pays) (de_invokevirtual (B 67 _ rfl) (B 68 _ rfl) (B 69 _ rfl)) ml_X12_390 mv_X12_pays hM.k (Nat.le_of_ble_eq_true rfl) (n := 70) rfl (c_X12_pays (W := W) hM (by rw [f2.k, eK]; exact eW) (by rw [f2.k, eK]; exact eT) hi (by rw [f2.k, eK]; unfold handK; rw [upK_s]; exact nI_m1 (by omega)) (fun I3 f3 k3 s3 => ?_))
        exact Vw.iret (de_ireturn (B 70 _ rfl)) rfl ⟨_, rfl, (by first | exact h3 i q _ hi hq rfl rfl c_26 c_58 ((FkU Fk.rfl).trans f2.fk) (f2.k.trans eK) | (rw [f2.k, eK] at k3 ⊢; exact h i q _ hi hq rfl rfl c_26 c_58 (((FkU Fk.rfl).trans f2.fk).trans f3) k3))⟩
      refine Vw.iconst (v := 0) (de_iconst_0 (B 61 _ rfl)) rfl (n := 62) rfl ?_
      refine Vw.goto_ (n := 70) (de_goto_ (B 62 _ rfl) (B 63 _ rfl) (B 64 _ rfl)) rfl ?_
      exact Vw.iret (de_ireturn (B 70 _ rfl)) rfl ⟨_, rfl, (by first | exact h3 i q _ hi hq rfl rfl c_26 c_58 ((FkU Fk.rfl).trans f2.fk) (f2.k.trans eK) | (rw [f2.k, eK] at k3 ⊢; exact h i q _ hi hq rfl rfl c_26 c_58 (((FkU Fk.rfl).trans f2.fk).trans f3) k3))⟩
    refine Vw.bipush (v := -3) (de_bipush (B 29 _ rfl) (B 30 _ rfl)) rfl (n := 31) rfl ?_
    exact Vw.iret (de_ireturn (B 31 _ rfl)) rfl ⟨_, rfl, (h2 i q hi hq rfl rfl c_26)⟩
  refine Vw.bipush (v := -2) (de_bipush (B 16 _ rfl) (B 17 _ rfl)) rfl (n := 18) rfl ?_
  exact Vw.iret (de_ireturn (B 18 _ rfl)) rfl ⟨_, rfl, (h1 (by first | exact Or.inl c_5 | exact Or.inr c_13))⟩
