/-! Copies by loops -/
def cpR (I : vI) (a b sp dp n : Nat) : vI := fun x j => if x = b ∧ dp ≤ j ∧ j < dp + n then I a (sp + (j - dp)) else I x j
theorem cpR_0 (I : vI) (a b sp dp : Nat) : cpR I a b sp dp 0 = I := by funext x j; exact if_neg (by omega)
theorem cpR_o {I : vI} {a b sp dp n x j : Nat} (h : x ≠ b) : cpR I a b sp dp n x j = I x j := if_neg (fun q => h q.1)
theorem cpR_u {I : vI} {a b sp dp n j : Nat} (h : j < dp ∨ dp + n ≤ j) : cpR I a b sp dp n b j = I b j := if_neg (by omega)
theorem cpR_i {I : vI} {a b sp dp n j : Nat} (h : dp ≤ j) (h2 : j < dp + n) : cpR I a b sp dp n b j = I a (sp + (j - dp)) := if_pos ⟨rfl, h, h2⟩
theorem cpR_step {I : vI} {a b sp dp n s2 d2 : Nat} (h : a ≠ b ∨ dp ≤ sp) (hs : s2 = sp + n) (hd : d2 = dp + n) : up2 (cpR I a b sp dp n) b d2 (cpR I a b sp dp n a s2) = cpR I a b sp dp (n + 1) := by
  subst hs; subst hd
  have e : cpR I a b sp dp n a (sp + n) = I a (sp + n) := if_neg (by omega)
  rw [e]
  funext x j
  unfold up2 cpR
  by_cases h1 : x = b ∧ j = dp + n
  · rw [if_pos h1, if_pos ⟨h1.1, by omega, by omega⟩, h1.2]
    congr 1; omega
  · rw [if_neg h1]
    by_cases h2 : x = b ∧ dp ≤ j ∧ j < dp + n
    · rw [if_pos h2, if_pos ⟨h2.1, by omega, by omega⟩]
    · rw [if_neg h2, if_neg (fun q => by omega)]
theorem loop_up {P : Nat → Prop} {N : Nat} (hs : ∀ j, j ≤ N → (j < N → P (j + 1)) → P j) : ∀ j, j ≤ N → P j := by
  refine loop_dn (hs N (Nat.le_refl N) (fun h => absurd h (Nat.lt_irrefl N))) (fun j hj ih => hs j (Nat.le_of_lt hj) (fun _ => ih))
theorem c_X12_laysAside {d : Nat} {S : vS} {I : vI} {L : vL} {Q : vS → vI → vL → Prop} {r : Nat} {k : Nat} (hM : MS S r) (hk : k < 2) (h : Q S (cpR I (r + 2) (r + 5) 0 (122 * k) (122)) L) : Vc mX12_laysAside d 0 0 [.ref r, .int (nI k)] S I L (VvQ Q) := by
  refine Vc.of rfl (Nat.le_of_ble_eq_true rfl) ?_
  have B := bs_X12_laysAside
  show Vw mX12_laysAside d 0 0 0 0 (VvQ Q) 0 [(0, .ref r), (1, .int (nI k))] [] S I L
  have loop : ∀ j, j ≤ 122 → Vw mX12_laysAside d 0 0 0 0 (VvQ Q) 2 [(0, .ref r), (1, .int (nI k)), (2, .int (nI j))] [] S (cpR I (r + 2) (r + 5) 0 (122 * k) (j)) L := by
    refine loop_up (fun j hj ih => ?_)
    refine Vw.iload_n (de_iload_2 (B 2 _ rfl)) 2 rfl (n := 3) rfl ?_
    refine Vw.bipush (v := 122) (de_bipush (B 3 _ rfl) (B 4 _ rfl)) rfl (n := 5) rfl ?_
    refine Vw.icmp_ge (tgt := 31) (n := 8) (de_icmp_ge (B 5 _ rfl) (B 6 _ rfl) (B 7 _ rfl)) rfl rfl (fun c_5 => ?_) (fun c_5 => ?_)
    · have z_5 : 122 ≤ j := ((nI_leI (a := 122) (b := j) (by omega) (by omega)).mp c_5)
      obtain rfl : j = 122 := by omega
      exact Vw.vret (de_return_ (B 31 _ rfl)) rfl ⟨rfl, (by first | exact h | simpa [c_5] using h)⟩
    have z_5 : j < 122 := by rcases Nat.lt_or_ge j 122 with z | z; exact z; exact absurd ((nI_leI (a := 122) (b := j) (by omega) (by omega)).mpr z) c_5
    refine Vw.aload_n (de_aload_0 (B 8 _ rfl)) 0 rfl (n := 9) rfl ?_
    refine Vw.getR (de_getfield (B 9 _ rfl) (B 10 _ rfl) (B 11 _ rfl)) fl_X12_34 rfl hM.k (MS_aside hM).1 (n := 12) rfl ?_
    refine Vw.bipush (v := 122) (de_bipush (B 12 _ rfl) (B 13 _ rfl)) rfl (n := 14) rfl ?_
    refine Vw.iload_n (de_iload_1 (B 14 _ rfl)) 1 rfl (n := 15) rfl ?_
    refine Vw.imul (de_imul (B 15 _ rfl)) (n := 16) rfl ?_
    refine Vw.iload_n (de_iload_2 (B 16 _ rfl)) 2 rfl (n := 17) rfl ?_
    refine Vw.iadd (de_iadd (B 17 _ rfl)) (n := 18) rfl ?_
    refine Vw.aload_n (de_aload_0 (B 18 _ rfl)) 0 rfl (n := 19) rfl ?_
    refine Vw.getR (de_getfield (B 19 _ rfl) (B 20 _ rfl) (B 21 _ rfl)) fl_X12_24 rfl hM.k (MS_kept hM).1 (n := 22) rfl ?_
    refine Vw.iload_n (de_iload_2 (B 22 _ rfl)) 2 rfl (n := 23) rfl ?_
    refine Vw.iald (de_iaload (B 23 _ rfl)) (MS_kept hM).2 (vIx_n (k := j) (by simp only [nI_A, nI_M, Int32.zero_add, Int32.add_zero] <;> rfl) (by omega)) (n := 24) rfl ?_
    refine Vw.iast (de_iastore (B 24 _ rfl)) (MS_aside hM).2 (vIx_n (k := 122 * k + j) (by simp only [nI_A, nI_M, Int32.zero_add, Int32.add_zero] <;> rfl) (by omega)) (n := 25) rfl ?_
    refine Vw.iinc (v := nI (j + 1)) (lv2 := [(0, _), (1, _), (2, _)]) (de_iinc (B 25 _ rfl) (B 26 _ rfl) (B 27 _ rfl)) 2 rfl (nI_1 j) (by decide) [1, 2, 0] rfl (n := 28) rfl ?_
    refine Vw.goto_ (n := 2) (de_goto_ (B 28 _ rfl) (B 29 _ rfl) (B 30 _ rfl)) rfl ?_
    rw [cpR_step (by omega) (by omega) (by omega)]
    exact ih z_5
  refine Vw.iconst (v := 0) (de_iconst_0 (B 0 _ rfl)) rfl (n := 1) rfl ?_
  refine Vw.istore_n (lv2 := [(0, _), (1, _), (2, _)]) (de_istore_2 (B 1 _ rfl)) rfl (by decide) [1, 2, 0] rfl (n := 2) rfl ?_
  have z := loop 0 (by omega)
  rw [cpR_0] at z
  exact z
theorem c_X12_takesBack {d : Nat} {S : vS} {I : vI} {L : vL} {Q : vS → vI → vL → Prop} {r : Nat} {k : Nat} (hM : MS S r) (hk : k < 2) (h : Q S (cpR I (r + 5) (r + 2) (122 * k) 0 (122)) L) : Vc mX12_takesBack d 0 0 [.ref r, .int (nI k)] S I L (VvQ Q) := by
  refine Vc.of rfl (Nat.le_of_ble_eq_true rfl) ?_
  have B := bs_X12_takesBack
  show Vw mX12_takesBack d 0 0 0 0 (VvQ Q) 0 [(0, .ref r), (1, .int (nI k))] [] S I L
  have loop : ∀ j, j ≤ 122 → Vw mX12_takesBack d 0 0 0 0 (VvQ Q) 2 [(0, .ref r), (1, .int (nI k)), (2, .int (nI j))] [] S (cpR I (r + 5) (r + 2) (122 * k) 0 (j)) L := by
    refine loop_up (fun j hj ih => ?_)
    refine Vw.iload_n (de_iload_2 (B 2 _ rfl)) 2 rfl (n := 3) rfl ?_
    refine Vw.bipush (v := 122) (de_bipush (B 3 _ rfl) (B 4 _ rfl)) rfl (n := 5) rfl ?_
    refine Vw.icmp_ge (tgt := 31) (n := 8) (de_icmp_ge (B 5 _ rfl) (B 6 _ rfl) (B 7 _ rfl)) rfl rfl (fun c_5 => ?_) (fun c_5 => ?_)
    · have z_5 : 122 ≤ j := ((nI_leI (a := 122) (b := j) (by omega) (by omega)).mp c_5)
      obtain rfl : j = 122 := by omega
      exact Vw.vret (de_return_ (B 31 _ rfl)) rfl ⟨rfl, (by first | exact h | simpa [c_5] using h)⟩
    have z_5 : j < 122 := by rcases Nat.lt_or_ge j 122 with z | z; exact z; exact absurd ((nI_leI (a := 122) (b := j) (by omega) (by omega)).mpr z) c_5
    refine Vw.aload_n (de_aload_0 (B 8 _ rfl)) 0 rfl (n := 9) rfl ?_
    refine Vw.getR (de_getfield (B 9 _ rfl) (B 10 _ rfl) (B 11 _ rfl)) fl_X12_24 rfl hM.k (MS_kept hM).1 (n := 12) rfl ?_
    refine Vw.iload_n (de_iload_2 (B 12 _ rfl)) 2 rfl (n := 13) rfl ?_
    refine Vw.aload_n (de_aload_0 (B 13 _ rfl)) 0 rfl (n := 14) rfl ?_
    refine Vw.getR (de_getfield (B 14 _ rfl) (B 15 _ rfl) (B 16 _ rfl)) fl_X12_34 rfl hM.k (MS_aside hM).1 (n := 17) rfl ?_
    refine Vw.bipush (v := 122) (de_bipush (B 17 _ rfl) (B 18 _ rfl)) rfl (n := 19) rfl ?_
    refine Vw.iload_n (de_iload_1 (B 19 _ rfl)) 1 rfl (n := 20) rfl ?_
    refine Vw.imul (de_imul (B 20 _ rfl)) (n := 21) rfl ?_
    refine Vw.iload_n (de_iload_2 (B 21 _ rfl)) 2 rfl (n := 22) rfl ?_
    refine Vw.iadd (de_iadd (B 22 _ rfl)) (n := 23) rfl ?_
    refine Vw.iald (de_iaload (B 23 _ rfl)) (MS_aside hM).2 (vIx_n (k := 122 * k + j) (by simp only [nI_A, nI_M, Int32.zero_add, Int32.add_zero] <;> rfl) (by omega)) (n := 24) rfl ?_
    refine Vw.iast (de_iastore (B 24 _ rfl)) (MS_kept hM).2 (vIx_n (k := j) (by simp only [nI_A, nI_M, Int32.zero_add, Int32.add_zero] <;> rfl) (by omega)) (n := 25) rfl ?_
    refine Vw.iinc (v := nI (j + 1)) (lv2 := [(0, _), (1, _), (2, _)]) (de_iinc (B 25 _ rfl) (B 26 _ rfl) (B 27 _ rfl)) 2 rfl (nI_1 j) (by decide) [1, 2, 0] rfl (n := 28) rfl ?_
    refine Vw.goto_ (n := 2) (de_goto_ (B 28 _ rfl) (B 29 _ rfl) (B 30 _ rfl)) rfl ?_
    rw [cpR_step (by omega) (by omega) (by omega)]
    exact ih z_5
  refine Vw.iconst (v := 0) (de_iconst_0 (B 0 _ rfl)) rfl (n := 1) rfl ?_
  refine Vw.istore_n (lv2 := [(0, _), (1, _), (2, _)]) (de_istore_2 (B 1 _ rfl)) rfl (by decide) [1, 2, 0] rfl (n := 2) rfl ?_
  have z := loop 0 (by omega)
  rw [cpR_0] at z
  exact z
def mImage (I : vI) (r k : Nat) : vI := mGood (up2 (cpR I (r + 2) (r + 3) 0 (5753 * k) 5753) (r + 4) k 1) r
theorem c_X12_image {d : Nat} {S : vS} {I : vI} {L : vL} {Q : Int32 → vS → vI → vL → Prop} {r : Nat} {x : Int32} (hM : MS S r) (h1 : zLie x 0 1 = 0 → Q (-1) S (mRef I r (-1) 1) L) (h : ∀ k, k < 2 → x = nI k → Q 0 S (mImage I r k) L) : Vc mX12_image (d + 1) 0 0 [.ref r, .int x] S I L (ViQ Q) := by
  refine Vc.of rfl (Nat.le_of_ble_eq_true rfl) ?_
  have B := bs_X12_image
  show Vw mX12_image (d + 1) 0 0 0 0 (ViQ Q) 0 [(0, .ref r), (1, .int x)] [] S I L
  have loop : ∀ k, k < 2 → x = nI k → ∀ j, j ≤ 5753 → Vw mX12_image (d + 1) 0 0 0 0 (ViQ Q) 17 [(0, .ref r), (1, .int (nI k)), (2, .int (nI j))] [] S (cpR I (r + 2) (r + 3) 0 (5753 * k) (j)) L := by
    intro k hk hx
    refine loop_up (fun j hj ih => ?_)
    refine Vw.iload_n (de_iload_2 (B 17 _ rfl)) 2 rfl (n := 18) rfl ?_
    refine Vw.sipush (v := 5753) (de_sipush (B 18 _ rfl) (B 19 _ rfl) (B 20 _ rfl)) rfl (n := 21) rfl ?_
    refine Vw.icmp_ge (tgt := 48) (n := 24) (de_icmp_ge (B 21 _ rfl) (B 22 _ rfl) (B 23 _ rfl)) rfl rfl (fun c_21 => ?_) (fun c_21 => ?_)
    · have z_21 : 5753 ≤ j := ((nI_leI (a := 5753) (b := j) (by omega) (by omega)).mp c_21)
      obtain rfl : j = 5753 := by omega
      refine Vw.aload_n (de_aload_0 (B 48 _ rfl)) 0 rfl (n := 49) rfl ?_
      refine Vw.getR (de_getfield (B 49 _ rfl) (B 50 _ rfl) (B 51 _ rfl)) fl_X12_30 rfl hM.k (MS_hasImage hM).1 (n := 52) rfl ?_
      refine Vw.iload_n (de_iload_1 (B 52 _ rfl)) 1 rfl (n := 53) rfl ?_
      refine Vw.iconst (v := 1) (de_iconst_1 (B 53 _ rfl)) rfl (n := 54) rfl ?_
      refine Vw.zast (de_bastore (B 54 _ rfl)) (MS_hasImage hM).2 (vIx_nI hk (by decide)) rfl (n := 55) rfl ?_
      refine Vw.aload_n (de_aload_0 (B 55 _ rfl)) 0 rfl (n := 56) rfl ?_
      refine Vw.iconst (v := 0) (de_iconst_0 (B 56 _ rfl)) rfl (n := 57) rfl ?_
      refine Vw.ivi1 (mi' := mX12_good) (de_invokevirtual (B 57 _ rfl) (B 58 _ rfl) (B 59 _ rfl)) ml_X12_14 mv_X12_good hM.k (Nat.le_of_ble_eq_true rfl) (n := 60) rfl (c_X12_good hM ?_)
      exact Vw.iret (de_ireturn (B 60 _ rfl)) rfl ⟨_, rfl, (h k hk hx)⟩
    have z_21 : j < 5753 := by rcases Nat.lt_or_ge j 5753 with z | z; exact z; exact absurd ((nI_leI (a := 5753) (b := j) (by omega) (by omega)).mpr z) c_21
    refine Vw.aload_n (de_aload_0 (B 24 _ rfl)) 0 rfl (n := 25) rfl ?_
    refine Vw.getR (de_getfield (B 25 _ rfl) (B 26 _ rfl) (B 27 _ rfl)) fl_X12_27 rfl hM.k (MS_images hM).1 (n := 28) rfl ?_
    refine Vw.sipush (v := 5753) (de_sipush (B 28 _ rfl) (B 29 _ rfl) (B 30 _ rfl)) rfl (n := 31) rfl ?_
    refine Vw.iload_n (de_iload_1 (B 31 _ rfl)) 1 rfl (n := 32) rfl ?_
    refine Vw.imul (de_imul (B 32 _ rfl)) (n := 33) rfl ?_
    refine Vw.iload_n (de_iload_2 (B 33 _ rfl)) 2 rfl (n := 34) rfl ?_
    refine Vw.iadd (de_iadd (B 34 _ rfl)) (n := 35) rfl ?_
    refine Vw.aload_n (de_aload_0 (B 35 _ rfl)) 0 rfl (n := 36) rfl ?_
    refine Vw.getR (de_getfield (B 36 _ rfl) (B 37 _ rfl) (B 38 _ rfl)) fl_X12_24 rfl hM.k (MS_kept hM).1 (n := 39) rfl ?_
    refine Vw.iload_n (de_iload_2 (B 39 _ rfl)) 2 rfl (n := 40) rfl ?_
    refine Vw.iald (de_iaload (B 40 _ rfl)) (MS_kept hM).2 (vIx_n (k := j) (by simp only [nI_A, nI_M, Int32.zero_add, Int32.add_zero] <;> rfl) (by omega)) (n := 41) rfl ?_
    refine Vw.iast (de_iastore (B 41 _ rfl)) (MS_images hM).2 (vIx_n (k := 5753 * k + j) (by simp only [nI_A, nI_M, Int32.zero_add, Int32.add_zero] <;> rfl) (by omega)) (n := 42) rfl ?_
    refine Vw.iinc (v := nI (j + 1)) (lv2 := [(0, _), (1, _), (2, _)]) (de_iinc (B 42 _ rfl) (B 43 _ rfl) (B 44 _ rfl)) 2 rfl (nI_1 j) (by decide) [1, 2, 0] rfl (n := 45) rfl ?_
    refine Vw.goto_ (n := 17) (de_goto_ (B 45 _ rfl) (B 46 _ rfl) (B 47 _ rfl)) rfl ?_
    rw [cpR_step (by omega) (by omega) (by omega)]
    exact ih z_21
  refine Vw.iload_n (de_iload_1 (B 0 _ rfl)) 1 rfl (n := 1) rfl ?_
  refine Vw.iconst (v := 0) (de_iconst_0 (B 1 _ rfl)) rfl (n := 2) rfl ?_
  refine Vw.iconst (v := 1) (de_iconst_1 (B 2 _ rfl)) rfl (n := 3) rfl ?_
  refine Vw.isi3 (mi' := mX12_lies) (de_invokestatic (B 3 _ rfl) (B 4 _ rfl) (B 5 _ rfl)) ml_X12_111 ms_X12_lies (Nat.le_of_ble_eq_true rfl) (n := 6) rfl (c_X12_lies ?_)
  refine Vw.if_ne (tgt := 15) (n := 9) (de_if_ne (B 6 _ rfl) (B 7 _ rfl) (B 8 _ rfl)) rfl rfl (fun c_6 => ?_) (fun c_6 => ?_)
  · obtain ⟨k, hk, rfl⟩ := lie_ex (n := 2) (by decide) c_6
    refine Vw.iconst (v := 0) (de_iconst_0 (B 15 _ rfl)) rfl (n := 16) rfl ?_
    refine Vw.istore_n (lv2 := [(0, _), (1, _), (2, _)]) (de_istore_2 (B 16 _ rfl)) rfl (by decide) [1, 2, 0] rfl (n := 17) rfl ?_
    have z := loop k hk rfl 0 (by omega)
    rw [cpR_0] at z
    exact z
  refine Vw.aload_n (de_aload_0 (B 9 _ rfl)) 0 rfl (n := 10) rfl ?_
  refine Vw.iconst (v := -1) (de_iconst_m1 (B 10 _ rfl)) rfl (n := 11) rfl ?_
  refine Vw.ivi1 (mi' := mX12_refuses) (de_invokevirtual (B 11 _ rfl) (B 12 _ rfl) (B 13 _ rfl)) ml_X12_115 mv_X12_refuses hM.k (Nat.le_of_ble_eq_true rfl) (n := 14) rfl (c_X12_refuses hM (j := 1) ⟨rfl, by decide, by decide⟩ ?_)
  exact Vw.iret (de_ireturn (B 14 _ rfl)) rfl ⟨_, rfl, (h1 c_6)⟩
def mBack (I : vI) (r k : Nat) : vI := mSet (cpR I (r + 3) (r + 2) (5753 * k) 0 5753) r
theorem c_X12_back {d : Nat} {S : vS} {I : vI} {L : vL} {Q : Int32 → vS → vI → vL → Prop} {r : Nat} {x : Int32} (hM : MS S r) (h1 : zLie x 0 1 = 0 → Q (-1) S (mRef I r (-1) 1) L) (h2 : ∀ k, k < 2 → x = nI k → I (r + 4) k = 0 → Q (-2) S (mRef I r (-2) 2) L) (h : ∀ k, k < 2 → x = nI k → ¬ I (r + 4) k = 0 → Q 0 S (mBack I r k) L) : Vc mX12_back (d + 2) 0 0 [.ref r, .int x] S I L (ViQ Q) := by
  refine Vc.of rfl (Nat.le_of_ble_eq_true rfl) ?_
  have B := bs_X12_back
  show Vw mX12_back (d + 2) 0 0 0 0 (ViQ Q) 0 [(0, .ref r), (1, .int x)] [] S I L
  have loop : ∀ k, k < 2 → x = nI k → ¬ I (r + 4) k = 0 → ∀ j, j ≤ 5753 → Vw mX12_back (d + 2) 0 0 0 0 (ViQ Q) 33 [(0, .ref r), (1, .int (nI k)), (2, .int (nI j))] [] S (cpR I (r + 3) (r + 2) (5753 * k) 0 (j)) L := by
    intro k hk hx hI
    refine loop_up (fun j hj ih => ?_)
    refine Vw.iload_n (de_iload_2 (B 33 _ rfl)) 2 rfl (n := 34) rfl ?_
    refine Vw.sipush (v := 5753) (de_sipush (B 34 _ rfl) (B 35 _ rfl) (B 36 _ rfl)) rfl (n := 37) rfl ?_
    refine Vw.icmp_ge (tgt := 64) (n := 40) (de_icmp_ge (B 37 _ rfl) (B 38 _ rfl) (B 39 _ rfl)) rfl rfl (fun c_37 => ?_) (fun c_37 => ?_)
    · have z_37 : 5753 ≤ j := ((nI_leI (a := 5753) (b := j) (by omega) (by omega)).mp c_37)
      obtain rfl : j = 5753 := by omega
      refine Vw.aload_n (de_aload_0 (B 64 _ rfl)) 0 rfl (n := 65) rfl ?_
      refine Vw.iconst (v := 0) (de_iconst_0 (B 65 _ rfl)) rfl (n := 66) rfl ?_
      refine Vw.ivi1 (mi' := mX12_settled) (de_invokevirtual (B 66 _ rfl) (B 67 _ rfl) (B 68 _ rfl)) ml_X12_118 mv_X12_settled hM.k (Nat.le_of_ble_eq_true rfl) (n := 69) rfl (c_X12_settled hM ?_)
      exact Vw.iret (de_ireturn (B 69 _ rfl)) rfl ⟨_, rfl, (h k hk hx hI)⟩
    have z_37 : j < 5753 := by rcases Nat.lt_or_ge j 5753 with z | z; exact z; exact absurd ((nI_leI (a := 5753) (b := j) (by omega) (by omega)).mpr z) c_37
    refine Vw.aload_n (de_aload_0 (B 40 _ rfl)) 0 rfl (n := 41) rfl ?_
    refine Vw.getR (de_getfield (B 41 _ rfl) (B 42 _ rfl) (B 43 _ rfl)) fl_X12_24 rfl hM.k (MS_kept hM).1 (n := 44) rfl ?_
    refine Vw.iload_n (de_iload_2 (B 44 _ rfl)) 2 rfl (n := 45) rfl ?_
    refine Vw.aload_n (de_aload_0 (B 45 _ rfl)) 0 rfl (n := 46) rfl ?_
    refine Vw.getR (de_getfield (B 46 _ rfl) (B 47 _ rfl) (B 48 _ rfl)) fl_X12_27 rfl hM.k (MS_images hM).1 (n := 49) rfl ?_
    refine Vw.sipush (v := 5753) (de_sipush (B 49 _ rfl) (B 50 _ rfl) (B 51 _ rfl)) rfl (n := 52) rfl ?_
    refine Vw.iload_n (de_iload_1 (B 52 _ rfl)) 1 rfl (n := 53) rfl ?_
    refine Vw.imul (de_imul (B 53 _ rfl)) (n := 54) rfl ?_
    refine Vw.iload_n (de_iload_2 (B 54 _ rfl)) 2 rfl (n := 55) rfl ?_
    refine Vw.iadd (de_iadd (B 55 _ rfl)) (n := 56) rfl ?_
    refine Vw.iald (de_iaload (B 56 _ rfl)) (MS_images hM).2 (vIx_n (k := 5753 * k + j) (by simp only [nI_A, nI_M, Int32.zero_add, Int32.add_zero] <;> rfl) (by omega)) (n := 57) rfl ?_
    refine Vw.iast (de_iastore (B 57 _ rfl)) (MS_kept hM).2 (vIx_n (k := j) (by simp only [nI_A, nI_M, Int32.zero_add, Int32.add_zero] <;> rfl) (by omega)) (n := 58) rfl ?_
    refine Vw.iinc (v := nI (j + 1)) (lv2 := [(0, _), (1, _), (2, _)]) (de_iinc (B 58 _ rfl) (B 59 _ rfl) (B 60 _ rfl)) 2 rfl (nI_1 j) (by decide) [1, 2, 0] rfl (n := 61) rfl ?_
    refine Vw.goto_ (n := 33) (de_goto_ (B 61 _ rfl) (B 62 _ rfl) (B 63 _ rfl)) rfl ?_
    rw [cpR_step (by omega) (by omega) (by omega)]
    exact ih z_37
  refine Vw.iload_n (de_iload_1 (B 0 _ rfl)) 1 rfl (n := 1) rfl ?_
  refine Vw.iconst (v := 0) (de_iconst_0 (B 1 _ rfl)) rfl (n := 2) rfl ?_
  refine Vw.iconst (v := 1) (de_iconst_1 (B 2 _ rfl)) rfl (n := 3) rfl ?_
  refine Vw.isi3 (mi' := mX12_lies) (de_invokestatic (B 3 _ rfl) (B 4 _ rfl) (B 5 _ rfl)) ml_X12_111 ms_X12_lies (Nat.le_of_ble_eq_true rfl) (n := 6) rfl (c_X12_lies ?_)
  refine Vw.if_ne (tgt := 15) (n := 9) (de_if_ne (B 6 _ rfl) (B 7 _ rfl) (B 8 _ rfl)) rfl rfl (fun c_6 => ?_) (fun c_6 => ?_)
  · obtain ⟨k, hk, rfl⟩ := lie_ex (n := 2) (by decide) c_6
    refine Vw.aload_n (de_aload_0 (B 15 _ rfl)) 0 rfl (n := 16) rfl ?_
    refine Vw.getR (de_getfield (B 16 _ rfl) (B 17 _ rfl) (B 18 _ rfl)) fl_X12_30 rfl hM.k (MS_hasImage hM).1 (n := 19) rfl ?_
    refine Vw.iload_n (de_iload_1 (B 19 _ rfl)) 1 rfl (n := 20) rfl ?_
    refine Vw.zald (de_baload (B 20 _ rfl)) (MS_hasImage hM).2 (vIx_nI hk (by decide)) (n := 21) rfl ?_
    refine Vw.if_ne (tgt := 31) (n := 24) (de_if_ne (B 21 _ rfl) (B 22 _ rfl) (B 23 _ rfl)) rfl rfl (fun c_21 => ?_) (fun c_21 => ?_)
    · refine Vw.iconst (v := 0) (de_iconst_0 (B 31 _ rfl)) rfl (n := 32) rfl ?_
      refine Vw.istore_n (lv2 := [(0, _), (1, _), (2, _)]) (de_istore_2 (B 32 _ rfl)) rfl (by decide) [1, 2, 0] rfl (n := 33) rfl ?_
      have z := loop k hk rfl c_21 0 (by omega)
      rw [cpR_0] at z
      exact z
    refine Vw.aload_n (de_aload_0 (B 24 _ rfl)) 0 rfl (n := 25) rfl ?_
    refine Vw.bipush (v := -2) (de_bipush (B 25 _ rfl) (B 26 _ rfl)) rfl (n := 27) rfl ?_
    refine Vw.ivi1 (mi' := mX12_refuses) (de_invokevirtual (B 27 _ rfl) (B 28 _ rfl) (B 29 _ rfl)) ml_X12_115 mv_X12_refuses hM.k (Nat.le_of_ble_eq_true rfl) (n := 30) rfl (c_X12_refuses hM (j := 2) ⟨rfl, by decide, by decide⟩ ?_)
    exact Vw.iret (de_ireturn (B 30 _ rfl)) rfl ⟨_, rfl, (h2 k hk rfl c_21)⟩
  refine Vw.aload_n (de_aload_0 (B 9 _ rfl)) 0 rfl (n := 10) rfl ?_
  refine Vw.iconst (v := -1) (de_iconst_m1 (B 10 _ rfl)) rfl (n := 11) rfl ?_
  refine Vw.ivi1 (mi' := mX12_refuses) (de_invokevirtual (B 11 _ rfl) (B 12 _ rfl) (B 13 _ rfl)) ml_X12_115 mv_X12_refuses hM.k (Nat.le_of_ble_eq_true rfl) (n := 14) rfl (c_X12_refuses hM (j := 1) ⟨rfl, by decide, by decide⟩ ?_)
  exact Vw.iret (de_ireturn (B 14 _ rfl)) rfl ⟨_, rfl, (h1 c_6)⟩
def mKeep1 (I : vI) (r u : Nat) (x : Int32) : vI := up2 (up2 (cpR I (r + 2) (r + 14) 0 (123 * u) 122) (r + 14) (123 * u + 122) x) r 32 (nI (u + 1))
def mKeeps (I : vI) (r u : Nat) (x : Int32) : vI := if u = 16 then mKeep1 (up2 (cpR I (r + 14) (r + 14) 123 0 1845) r 32 (nI 15)) r 15 x else mKeep1 I r u x
theorem c_X12_keeps {d : Nat} {S : vS} {I : vI} {L : vL} {Q : vS → vI → vL → Prop} {r : Nat} {x : Int32} {u : Nat} (hM : MS S r) (hu : I r 32 = nI u) (h16 : u ≤ 16) (h : Q S (mKeeps I r u x) L) : Vc mX12_keeps d 0 0 [.ref r, .int x] S I L (VvQ Q) := by
  refine Vc.of rfl (Nat.le_of_ble_eq_true rfl) ?_
  have B := bs_X12_keeps
  show Vw mX12_keeps d 0 0 0 0 (VvQ Q) 0 [(0, .ref r), (1, .int x)] [] S I L
  have second : ∀ (I0 : vI) (v : Nat), I0 r 32 = nI v → v ≤ 15 → Q S (mKeep1 I0 r v x) L → Vw mX12_keeps d 0 0 0 0 (VvQ Q) 52 [(0, .ref r), (1, .int x), (2, .int 123)] [] S I0 L := by
    intro I0 v hv h15 hq
    have loop : ∀ j, j ≤ 122 → Vw mX12_keeps d 0 0 0 0 (VvQ Q) 54 [(0, .ref r), (1, .int x), (2, .int 123), (3, .int (nI j))] [] S (cpR I0 (r + 2) (r + 14) 0 (123 * v) j) L := by
      refine loop_up (fun j hj ih => ?_)
      have ev : cpR I0 (r + 2) (r + 14) 0 (123 * v) j r 32 = nI v := by rw [cpR_o (by omega)]; exact hv
      refine Vw.iload_n (de_iload_3 (B 54 _ rfl)) 3 rfl (n := 55) rfl ?_
      refine Vw.bipush (v := 122) (de_bipush (B 55 _ rfl) (B 56 _ rfl)) rfl (n := 57) rfl ?_
      refine Vw.icmp_ge (tgt := 85) (n := 60) (de_icmp_ge (B 57 _ rfl) (B 58 _ rfl) (B 59 _ rfl)) rfl rfl (fun c_57 => ?_) (fun c_57 => ?_)
      · have z_57 : 122 ≤ j := ((nI_leI (a := 122) (b := j) (by omega) (by omega)).mp c_57)
        obtain rfl : j = 122 := by omega
        refine Vw.aload_n (de_aload_0 (B 85 _ rfl)) 0 rfl (n := 86) rfl ?_
        refine Vw.getR (de_getfield (B 86 _ rfl) (B 87 _ rfl) (B 88 _ rfl)) fl_X12_65 rfl hM.k (MS_left hM).1 (n := 89) rfl ?_
        refine Vw.iload_n (de_iload_2 (B 89 _ rfl)) 2 rfl (n := 90) rfl ?_
        refine Vw.aload_n (de_aload_0 (B 90 _ rfl)) 0 rfl (n := 91) rfl ?_
        refine Vw.getI (de_getfield (B 91 _ rfl) (B 92 _ rfl) (B 93 _ rfl)) fl_X12_11 rfl hM.k (n := 94) rfl ?_
        rw [ev]
        refine Vw.imul (de_imul (B 94 _ rfl)) (n := 95) rfl ?_
        refine Vw.bipush (v := 122) (de_bipush (B 95 _ rfl) (B 96 _ rfl)) rfl (n := 97) rfl ?_
        refine Vw.iadd (de_iadd (B 97 _ rfl)) (n := 98) rfl ?_
        refine Vw.iload_n (de_iload_1 (B 98 _ rfl)) 1 rfl (n := 99) rfl ?_
        refine Vw.iast (de_iastore (B 99 _ rfl)) (MS_left hM).2 (vIx_n (k := 123 * v + 122) (by simp only [nI_A, nI_M, Int32.zero_add, Int32.add_zero] <;> rfl) (by omega)) (n := 100) rfl ?_
        refine Vw.aload_n (de_aload_0 (B 100 _ rfl)) 0 rfl (n := 101) rfl ?_
        refine Vw.dup (de_dup (B 101 _ rfl)) rfl (n := 102) rfl ?_
        refine Vw.getI (de_getfield (B 102 _ rfl) (B 103 _ rfl) (B 104 _ rfl)) fl_X12_11 rfl hM.k (n := 105) rfl ?_
        refine Vw.iconst (v := 1) (de_iconst_1 (B 105 _ rfl)) rfl (n := 106) rfl ?_
        refine Vw.iadd (de_iadd (B 106 _ rfl)) (n := 107) rfl ?_
        refine Vw.putI (de_putfield (B 107 _ rfl) (B 108 _ rfl) (B 109 _ rfl)) fl_X12_11 hM.k rfl rfl (n := 110) rfl ?_
        exact Vw.vret (de_return_ (B 110 _ rfl)) rfl ⟨rfl, (by simpa (disch := omega) only [mKeep1, up2_a, up2_k, up2_s, ev, nI_A, nI_l1] using hq)⟩
      have z_57 : j < 122 := by rcases Nat.lt_or_ge j 122 with z | z; exact z; exact absurd ((nI_leI (a := 122) (b := j) (by omega) (by omega)).mpr z) c_57
      refine Vw.aload_n (de_aload_0 (B 60 _ rfl)) 0 rfl (n := 61) rfl ?_
      refine Vw.getR (de_getfield (B 61 _ rfl) (B 62 _ rfl) (B 63 _ rfl)) fl_X12_65 rfl hM.k (MS_left hM).1 (n := 64) rfl ?_
      refine Vw.iload_n (de_iload_2 (B 64 _ rfl)) 2 rfl (n := 65) rfl ?_
      refine Vw.aload_n (de_aload_0 (B 65 _ rfl)) 0 rfl (n := 66) rfl ?_
      refine Vw.getI (de_getfield (B 66 _ rfl) (B 67 _ rfl) (B 68 _ rfl)) fl_X12_11 rfl hM.k (n := 69) rfl ?_
      rw [ev]
      refine Vw.imul (de_imul (B 69 _ rfl)) (n := 70) rfl ?_
      refine Vw.iload_n (de_iload_3 (B 70 _ rfl)) 3 rfl (n := 71) rfl ?_
      refine Vw.iadd (de_iadd (B 71 _ rfl)) (n := 72) rfl ?_
      refine Vw.aload_n (de_aload_0 (B 72 _ rfl)) 0 rfl (n := 73) rfl ?_
      refine Vw.getR (de_getfield (B 73 _ rfl) (B 74 _ rfl) (B 75 _ rfl)) fl_X12_24 rfl hM.k (MS_kept hM).1 (n := 76) rfl ?_
      refine Vw.iload_n (de_iload_3 (B 76 _ rfl)) 3 rfl (n := 77) rfl ?_
      refine Vw.iald (de_iaload (B 77 _ rfl)) (MS_kept hM).2 (vIx_n (k := j) (by simp only [nI_A, nI_M, Int32.zero_add, Int32.add_zero] <;> rfl) (by omega)) (n := 78) rfl ?_
      refine Vw.iast (de_iastore (B 78 _ rfl)) (MS_left hM).2 (vIx_n (k := 123 * v + j) (by simp only [nI_A, nI_M, Int32.zero_add, Int32.add_zero] <;> rfl) (by omega)) (n := 79) rfl ?_
      refine Vw.iinc (v := nI (j + 1)) (lv2 := [(0, _), (1, _), (2, _), (3, _)]) (de_iinc (B 79 _ rfl) (B 80 _ rfl) (B 81 _ rfl)) 3 rfl (nI_1 j) (by decide) [1, 2, 3, 0] rfl (n := 82) rfl ?_
      refine Vw.goto_ (n := 54) (de_goto_ (B 82 _ rfl) (B 83 _ rfl) (B 84 _ rfl)) rfl ?_
      rw [cpR_step (by omega) (by omega) (by omega)]
      exact ih z_57
    refine Vw.iconst (v := 0) (de_iconst_0 (B 52 _ rfl)) rfl (n := 53) rfl ?_
    refine Vw.istore_n (lv2 := [(0, _), (1, _), (2, _), (3, _)]) (de_istore_3 (B 53 _ rfl)) rfl (by decide) [1, 2, 3, 0] rfl (n := 54) rfl ?_
    have z := loop 0 (by omega)
    rw [cpR_0] at z
    exact z
  have first : u = 16 → ∀ j, j ≤ 1845 → Vw mX12_keeps d 0 0 0 0 (VvQ Q) 14 [(0, .ref r), (1, .int x), (2, .int 123), (3, .int (nI j))] [] S (cpR I (r + 14) (r + 14) 123 0 j) L := by
    intro hu16
    refine loop_up (fun j hj ih => ?_)
    refine Vw.iload_n (de_iload_3 (B 14 _ rfl)) 3 rfl (n := 15) rfl ?_
    refine Vw.bipush (v := 15) (de_bipush (B 15 _ rfl) (B 16 _ rfl)) rfl (n := 17) rfl ?_
    refine Vw.iload_n (de_iload_2 (B 17 _ rfl)) 2 rfl (n := 18) rfl ?_
    refine Vw.imul (de_imul (B 18 _ rfl)) (n := 19) rfl ?_
    refine Vw.icmp_ge (tgt := 42) (n := 22) (de_icmp_ge (B 19 _ rfl) (B 20 _ rfl) (B 21 _ rfl)) rfl rfl (fun c_19 => ?_) (fun c_19 => ?_)
    · have z_19 : 1845 ≤ j := ((nI_leI (a := 1845) (b := j) (by omega) (by omega)).mp c_19)
      obtain rfl : j = 1845 := by omega
      refine Vw.aload_n (de_aload_0 (B 42 _ rfl)) 0 rfl (n := 43) rfl ?_
      refine Vw.dup (de_dup (B 43 _ rfl)) rfl (n := 44) rfl ?_
      refine Vw.getI (de_getfield (B 44 _ rfl) (B 45 _ rfl) (B 46 _ rfl)) fl_X12_11 rfl hM.k (n := 47) rfl ?_
      refine Vw.iconst (v := 1) (de_iconst_1 (B 47 _ rfl)) rfl (n := 48) rfl ?_
      refine Vw.isub (de_isub (B 48 _ rfl)) (n := 49) rfl ?_
      refine Vw.putI (de_putfield (B 49 _ rfl) (B 50 _ rfl) (B 51 _ rfl)) fl_X12_11 hM.k rfl rfl (n := 52) rfl ?_
      refine Vw.lvs (lv2 := [(0, _), (1, _), (2, _)]) [0, 1, 2] rfl ?_
      refine second _ 15 ?_ (by omega) ?_
      · rw [up2_s, cpR_o (by omega), hu, hu16]; rfl
      · have e : cpR I (r + 14) (r + 14) 123 0 1845 r 32 - 1 = nI 15 := by rw [cpR_o (by omega), hu, hu16]; rfl
        rw [e]; rw [mKeeps, if_pos hu16] at h; exact h
    have z_19 : j < 1845 := by rcases Nat.lt_or_ge j 1845 with z | z; exact z; exact absurd ((nI_leI (a := 1845) (b := j) (by omega) (by omega)).mpr z) c_19
    refine Vw.aload_n (de_aload_0 (B 22 _ rfl)) 0 rfl (n := 23) rfl ?_
    refine Vw.getR (de_getfield (B 23 _ rfl) (B 24 _ rfl) (B 25 _ rfl)) fl_X12_65 rfl hM.k (MS_left hM).1 (n := 26) rfl ?_
    refine Vw.iload_n (de_iload_3 (B 26 _ rfl)) 3 rfl (n := 27) rfl ?_
    refine Vw.aload_n (de_aload_0 (B 27 _ rfl)) 0 rfl (n := 28) rfl ?_
    refine Vw.getR (de_getfield (B 28 _ rfl) (B 29 _ rfl) (B 30 _ rfl)) fl_X12_65 rfl hM.k (MS_left hM).1 (n := 31) rfl ?_
    refine Vw.iload_n (de_iload_3 (B 31 _ rfl)) 3 rfl (n := 32) rfl ?_
    refine Vw.iload_n (de_iload_2 (B 32 _ rfl)) 2 rfl (n := 33) rfl ?_
    refine Vw.iadd (de_iadd (B 33 _ rfl)) (n := 34) rfl ?_
    refine Vw.iald (de_iaload (B 34 _ rfl)) (MS_left hM).2 (vIx_n (k := j + 123) (by simp only [nI_A, nI_M, Int32.zero_add, Int32.add_zero] <;> rfl) (by omega)) (n := 35) rfl ?_
    refine Vw.iast (de_iastore (B 35 _ rfl)) (MS_left hM).2 (vIx_n (k := j) (by simp only [nI_A, nI_M, Int32.zero_add, Int32.add_zero] <;> rfl) (by omega)) (n := 36) rfl ?_
    refine Vw.iinc (v := nI (j + 1)) (lv2 := [(0, _), (1, _), (2, _), (3, _)]) (de_iinc (B 36 _ rfl) (B 37 _ rfl) (B 38 _ rfl)) 3 rfl (nI_1 j) (by decide) [1, 2, 3, 0] rfl (n := 39) rfl ?_
    refine Vw.goto_ (n := 14) (de_goto_ (B 39 _ rfl) (B 40 _ rfl) (B 41 _ rfl)) rfl ?_
    rw [cpR_step (Or.inr (by omega)) (by omega) (by omega)]
    exact ih z_19
  refine Vw.bipush (v := 123) (de_bipush (B 0 _ rfl) (B 1 _ rfl)) rfl (n := 2) rfl ?_
  refine Vw.istore_n (lv2 := [(0, _), (1, _), (2, _)]) (de_istore_2 (B 2 _ rfl)) rfl (by decide) [1, 2, 0] rfl (n := 3) rfl ?_
  refine Vw.aload_n (de_aload_0 (B 3 _ rfl)) 0 rfl (n := 4) rfl ?_
  refine Vw.getI (de_getfield (B 4 _ rfl) (B 5 _ rfl) (B 6 _ rfl)) fl_X12_11 rfl hM.k (n := 7) rfl ?_
  refine Vw.bipush (v := 16) (de_bipush (B 7 _ rfl) (B 8 _ rfl)) rfl (n := 9) rfl ?_
  refine Vw.icmp_ne (tgt := 52) (n := 12) (de_icmp_ne (B 9 _ rfl) (B 10 _ rfl) (B 11 _ rfl)) rfl rfl (fun c_9 => ?_) (fun c_9 => ?_)
  · have h6 : u ≠ 16 := fun q => c_9 (by rw [hu, q]; rfl)
    refine second I u hu (by omega) ?_
    rw [mKeeps, if_neg h6] at h; exact h
  refine Vw.iconst (v := 0) (de_iconst_0 (B 12 _ rfl)) rfl (n := 13) rfl ?_
  refine Vw.istore_n (lv2 := [(0, _), (1, _), (2, _), (3, _)]) (de_istore_3 (B 13 _ rfl)) rfl (by decide) [1, 2, 3, 0] rfl (n := 14) rfl ?_
  have h6 : u = 16 := nI_inj (by omega) (by omega) (hu.symm.trans c_9)
  have z := first h6 0 (by omega)
  rw [cpR_0] at z
  exact z
