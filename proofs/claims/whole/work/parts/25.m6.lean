def mUndo (I : vI) (r v : Nat) : vI := mGood (cpR (up2 I r 32 (nI v)) (r + 14) (r + 2) (123 * v) 0 122) r
theorem c_X12_undo {d : Nat} {S : vS} {I : vI} {L : vL} {Q : Int32 → vS → vI → vL → Prop} {r : Nat} {u : Nat} (hM : MS S r) (hu : I r 32 = nI u) (h16 : u ≤ 16) (h1 : u = 0 → Q (-3) S (mRef I r (-3) 3) L) (h : ∀ v, u = v + 1 → Q (I (r + 14) (123 * v + 122)) S (mUndo I r v) L) : Vc mX12_undo (d + 1) 0 0 [.ref r] S I L (ViQ Q) := by
  refine Vc.of rfl (Nat.le_of_ble_eq_true rfl) ?_
  have B := bs_X12_undo
  show Vw mX12_undo (d + 1) 0 0 0 0 (ViQ Q) 0 [(0, .ref r)] [] S I L
  have loop : ∀ v, u = v + 1 → ∀ j, j ≤ 122 → Vw mX12_undo (d + 1) 0 0 0 0 (ViQ Q) 34 [(0, .ref r), (1, .int (nI (123 * v))), (2, .int (nI j))] [] S (cpR (up2 I r 32 (nI v)) (r + 14) (r + 2) (123 * v) 0 j) L := by
    intro v hv
    refine loop_up (fun j hj ih => ?_)
    refine Vw.iload_n (de_iload_2 (B 34 _ rfl)) 2 rfl (n := 35) rfl ?_
    refine Vw.bipush (v := 122) (de_bipush (B 35 _ rfl) (B 36 _ rfl)) rfl (n := 37) rfl ?_
    refine Vw.icmp_ge (tgt := 60) (n := 40) (de_icmp_ge (B 37 _ rfl) (B 38 _ rfl) (B 39 _ rfl)) rfl rfl (fun c_37 => ?_) (fun c_37 => ?_)
    · have z_37 : 122 ≤ j := ((nI_leI (a := 122) (b := j) (by omega) (by omega)).mp c_37)
      obtain rfl : j = 122 := by omega
      refine Vw.aload_n (de_aload_0 (B 60 _ rfl)) 0 rfl (n := 61) rfl ?_
      refine Vw.aload_n (de_aload_0 (B 61 _ rfl)) 0 rfl (n := 62) rfl ?_
      refine Vw.getR (de_getfield (B 62 _ rfl) (B 63 _ rfl) (B 64 _ rfl)) fl_X12_65 rfl hM.k (MS_left hM).1 (n := 65) rfl ?_
      refine Vw.iload_n (de_iload_1 (B 65 _ rfl)) 1 rfl (n := 66) rfl ?_
      refine Vw.bipush (v := 122) (de_bipush (B 66 _ rfl) (B 67 _ rfl)) rfl (n := 68) rfl ?_
      refine Vw.iadd (de_iadd (B 68 _ rfl)) (n := 69) rfl ?_
      refine Vw.iald (de_iaload (B 69 _ rfl)) (MS_left hM).2 (vIx_n (k := 123 * v + 122) (by simp only [nI_A, nI_M, Int32.zero_add, Int32.add_zero] <;> rfl) (by omega)) (n := 70) rfl ?_
      refine Vw.ivi1 (mi' := mX12_good) (de_invokevirtual (B 70 _ rfl) (B 71 _ rfl) (B 72 _ rfl)) ml_X12_14 mv_X12_good hM.k (Nat.le_of_ble_eq_true rfl) (n := 73) rfl (c_X12_good hM ?_)
      exact Vw.iret (de_ireturn (B 73 _ rfl)) rfl ⟨_, rfl, (by have z := h v hv; rw [cpR_o (by omega), up2_a (by omega)]; exact z)⟩
    have z_37 : j < 122 := by rcases Nat.lt_or_ge j 122 with z | z; exact z; exact absurd ((nI_leI (a := 122) (b := j) (by omega) (by omega)).mpr z) c_37
    refine Vw.aload_n (de_aload_0 (B 40 _ rfl)) 0 rfl (n := 41) rfl ?_
    refine Vw.getR (de_getfield (B 41 _ rfl) (B 42 _ rfl) (B 43 _ rfl)) fl_X12_24 rfl hM.k (MS_kept hM).1 (n := 44) rfl ?_
    refine Vw.iload_n (de_iload_2 (B 44 _ rfl)) 2 rfl (n := 45) rfl ?_
    refine Vw.aload_n (de_aload_0 (B 45 _ rfl)) 0 rfl (n := 46) rfl ?_
    refine Vw.getR (de_getfield (B 46 _ rfl) (B 47 _ rfl) (B 48 _ rfl)) fl_X12_65 rfl hM.k (MS_left hM).1 (n := 49) rfl ?_
    refine Vw.iload_n (de_iload_1 (B 49 _ rfl)) 1 rfl (n := 50) rfl ?_
    refine Vw.iload_n (de_iload_2 (B 50 _ rfl)) 2 rfl (n := 51) rfl ?_
    refine Vw.iadd (de_iadd (B 51 _ rfl)) (n := 52) rfl ?_
    refine Vw.iald (de_iaload (B 52 _ rfl)) (MS_left hM).2 (vIx_n (k := 123 * v + j) (by simp only [nI_A, nI_M, Int32.zero_add, Int32.add_zero] <;> rfl) (by omega)) (n := 53) rfl ?_
    refine Vw.iast (de_iastore (B 53 _ rfl)) (MS_kept hM).2 (vIx_n (k := j) (by simp only [nI_A, nI_M, Int32.zero_add, Int32.add_zero] <;> rfl) (by omega)) (n := 54) rfl ?_
    refine Vw.iinc (v := nI (j + 1)) (lv2 := [(0, _), (1, _), (2, _)]) (de_iinc (B 54 _ rfl) (B 55 _ rfl) (B 56 _ rfl)) 2 rfl (nI_1 j) (by decide) [1, 2, 0] rfl (n := 57) rfl ?_
    refine Vw.goto_ (n := 34) (de_goto_ (B 57 _ rfl) (B 58 _ rfl) (B 59 _ rfl)) rfl ?_
    rw [cpR_step (by omega) (by omega) (by omega)]
    exact ih z_37
  refine Vw.aload_n (de_aload_0 (B 0 _ rfl)) 0 rfl (n := 1) rfl ?_
  refine Vw.getI (de_getfield (B 1 _ rfl) (B 2 _ rfl) (B 3 _ rfl)) fl_X12_11 rfl hM.k (n := 4) rfl ?_
  refine Vw.if_ne (tgt := 14) (n := 7) (de_if_ne (B 4 _ rfl) (B 5 _ rfl) (B 6 _ rfl)) rfl rfl (fun c_4 => ?_) (fun c_4 => ?_)
  · have hu0 : u ≠ 0 := fun q => c_4 (by rw [hu, q]; rfl)
    obtain ⟨v, hv⟩ : ∃ v, u = v + 1 := ⟨u - 1, by omega⟩
    have ev : I r 32 - 1 = nI v := by rw [hu, hv]; exact nI_pred v
    refine Vw.aload_n (de_aload_0 (B 14 _ rfl)) 0 rfl (n := 15) rfl ?_
    refine Vw.dup (de_dup (B 15 _ rfl)) rfl (n := 16) rfl ?_
    refine Vw.getI (de_getfield (B 16 _ rfl) (B 17 _ rfl) (B 18 _ rfl)) fl_X12_11 rfl hM.k (n := 19) rfl ?_
    refine Vw.iconst (v := 1) (de_iconst_1 (B 19 _ rfl)) rfl (n := 20) rfl ?_
    refine Vw.isub (de_isub (B 20 _ rfl)) (n := 21) rfl ?_
    refine Vw.putI (de_putfield (B 21 _ rfl) (B 22 _ rfl) (B 23 _ rfl)) fl_X12_11 hM.k rfl rfl (n := 24) rfl ?_
    refine Vw.bipush (v := 123) (de_bipush (B 24 _ rfl) (B 25 _ rfl)) rfl (n := 26) rfl ?_
    refine Vw.aload_n (de_aload_0 (B 26 _ rfl)) 0 rfl (n := 27) rfl ?_
    refine Vw.getI (de_getfield (B 27 _ rfl) (B 28 _ rfl) (B 29 _ rfl)) fl_X12_11 rfl hM.k (n := 30) rfl ?_
    rw [ev, up2_s]
    refine Vw.imul (de_imul (B 30 _ rfl)) (n := 31) rfl ?_
    rw [show (123 : Int32) * nI v = nI (123 * v) from by rw [nI_M]; rfl]
    refine Vw.istore_n (lv2 := [(0, _), (1, _)]) (de_istore_1 (B 31 _ rfl)) rfl (by decide) [1, 0] rfl (n := 32) rfl ?_
    refine Vw.iconst (v := 0) (de_iconst_0 (B 32 _ rfl)) rfl (n := 33) rfl ?_
    refine Vw.istore_n (lv2 := [(0, _), (1, _), (2, _)]) (de_istore_2 (B 33 _ rfl)) rfl (by decide) [1, 2, 0] rfl (n := 34) rfl ?_
    have z := loop v hv 0 (by omega)
    rw [cpR_0] at z
    exact z
  refine Vw.aload_n (de_aload_0 (B 7 _ rfl)) 0 rfl (n := 8) rfl ?_
  refine Vw.bipush (v := -3) (de_bipush (B 8 _ rfl) (B 9 _ rfl)) rfl (n := 10) rfl ?_
  refine Vw.ivi1 (mi' := mX12_refuses) (de_invokevirtual (B 10 _ rfl) (B 11 _ rfl) (B 12 _ rfl)) ml_X12_115 mv_X12_refuses hM.k (Nat.le_of_ble_eq_true rfl) (n := 13) rfl (c_X12_refuses hM (j := 3) ⟨rfl, by decide, by decide⟩ ?_)
  exact Vw.iret (de_ireturn (B 13 _ rfl)) rfl ⟨_, rfl, (h1 (nI_inj (by omega) (by omega) (hu.symm.trans c_4)))⟩
theorem c_X12_nourish {d : Nat} {S : vS} {I : vI} {L : vL} {Q : Int32 → vS → vI → vL → Prop} {r : Nat} {q : Int32} {v : Int32} {n : Nat} (hM : MS S r) (hn : I (r + 2) 142 = nI n) (hn8 : n ≤ 8) (h1 : zLie v (-3) 3 = 0 → Q (-1) S (mRef I r (-1) 1) L) (h2 : ¬ zLie v (-3) 3 = 0 → zLie q 0 (nI n - 1) = 0 → Q (-2) S (mRef I r (-2) 2) L) (h : ∀ j, ¬ zLie v (-3) 3 = 0 → j < n → q = nI j → Q 0 S (mGood (mFed I r j v) r) L) : Vc mX12_nourish (d + 3) 0 0 [.ref r, .int q, .int v] S I L (ViQ Q) := by
  refine Vc.of rfl (Nat.le_of_ble_eq_true rfl) ?_
  have B := bs_X12_nourish
  show Vw mX12_nourish (d + 3) 0 0 0 0 (ViQ Q) 0 [(0, .ref r), (1, .int q), (2, .int v)] [] S I L
  refine Vw.aload_n (de_aload_0 (B 0 _ rfl)) 0 rfl (n := 1) rfl ?_
  refine Vw.aload_n (de_aload_0 (B 1 _ rfl)) 0 rfl (n := 2) rfl ?_
  refine Vw.iload_n (de_iload_1 (B 2 _ rfl)) 1 rfl (n := 3) rfl ?_
  refine Vw.iload_n (de_iload_2 (B 3 _ rfl)) 2 rfl (n := 4) rfl ?_
  refine Vw.ivi2 (mi' := mX12_feeds) (de_invokevirtual (B 4 _ rfl) (B 5 _ rfl) (B 6 _ rfl)) ml_X12_153 mv_X12_feeds hM.k (Nat.le_of_ble_eq_true rfl) (n := 7) rfl (c_X12_feeds hM hn hn8 (fun z1 => ?_) (fun z1 z2 => ?_) (fun j z1 z2 z3 => ?_))
  · refine Vw.ivi1 (mi' := mX12_goodOr) (de_invokevirtual (B 7 _ rfl) (B 8 _ rfl) (B 9 _ rfl)) ml_X12_156 mv_X12_goodOr hM.k (Nat.le_of_ble_eq_true rfl) (n := 10) rfl (c_X12_goodOr_n hM (by decide) (by decide) ?_)
    exact Vw.iret (de_ireturn (B 10 _ rfl)) rfl ⟨_, rfl, (h1 z1)⟩
  · refine Vw.ivi1 (mi' := mX12_goodOr) (de_invokevirtual (B 7 _ rfl) (B 8 _ rfl) (B 9 _ rfl)) ml_X12_156 mv_X12_goodOr hM.k (Nat.le_of_ble_eq_true rfl) (n := 10) rfl (c_X12_goodOr_n hM (by decide) (by decide) ?_)
    exact Vw.iret (de_ireturn (B 10 _ rfl)) rfl ⟨_, rfl, (h2 z1 z2)⟩
  · refine Vw.ivi1 (mi' := mX12_goodOr) (de_invokevirtual (B 7 _ rfl) (B 8 _ rfl) (B 9 _ rfl)) ml_X12_156 mv_X12_goodOr hM.k (Nat.le_of_ble_eq_true rfl) (n := 10) rfl (c_X12_goodOr_p hM (by decide) ?_)
    exact Vw.iret (de_ireturn (B 10 _ rfl)) rfl ⟨_, rfl, (h j z1 z2 z3)⟩
def tmAt (k : Nat) : Nat := if k = 0 then 121 else 139 + k
def tmMax (k : Nat) : Int32 := if k = 0 then 999 else if k = 1 then 10 else 9
theorem c_X12_terms {d : Nat} {S : vS} {I : vI} {L : vL} {Q : Int32 → vS → vI → vL → Prop} {r : Nat} {x v : Int32} (hM : MS S r) (h1 : (zLie x 0 2 = 0 ∨ ∃ k, k < 3 ∧ x = nI k ∧ zLie v 0 (tmMax k) = 0) → Q (-1) S (mRef I r (-1) 1) L) (h : ∀ k, k < 3 → x = nI k → ¬ zLie v 0 (tmMax k) = 0 → Q (I (r + 2) (tmAt k)) S (mSet (up2 I (r + 2) (tmAt k) v) r) L) : Vc mX12_terms (d + 2) 0 0 [.ref r, .int x, .int v] S I L (ViQ Q) := by
  refine Vc.of rfl (Nat.le_of_ble_eq_true rfl) ?_
  have B := bs_X12_terms
  show Vw mX12_terms (d + 2) 0 0 0 0 (ViQ Q) 0 [(0, .ref r), (1, .int x), (2, .int v)] [] S I L
  have fin : ∀ k, k < 3 → x = nI k → ¬ zLie v 0 (tmMax k) = 0 → Vw mX12_terms (d + 2) 0 0 0 0 (ViQ Q) 61 [(0, .ref r), (1, .int x), (2, .int v)] [.int (nI (tmAt k))] S I L := by
    intro k hk hx hv
    have hl : tmAt k < 5753 := by unfold tmAt; split <;> omega
    refine Vw.istore_n (lv2 := [(0, _), (1, _), (2, _), (3, _)]) (de_istore_3 (B 61 _ rfl)) rfl (by decide) [1, 2, 3, 0] rfl (n := 62) rfl ?_
    refine Vw.aload_n (de_aload_0 (B 62 _ rfl)) 0 rfl (n := 63) rfl ?_
    refine Vw.getR (de_getfield (B 63 _ rfl) (B 64 _ rfl) (B 65 _ rfl)) fl_X12_24 rfl hM.k (MS_kept hM).1 (n := 66) rfl ?_
    refine Vw.iload_n (de_iload_3 (B 66 _ rfl)) 3 rfl (n := 67) rfl ?_
    refine Vw.iald (de_iaload (B 67 _ rfl)) (MS_kept hM).2 (vIx_nI hl (by decide)) (n := 68) rfl ?_
    refine Vw.istore (lv2 := [(0, _), (1, _), (2, _), (3, _), (4, _)]) (de_istore (B 68 _ rfl) (B 69 _ rfl)) (by decide) [1, 2, 3, 4, 0] rfl (n := 70) rfl ?_
    refine Vw.aload_n (de_aload_0 (B 70 _ rfl)) 0 rfl (n := 71) rfl ?_
    refine Vw.getR (de_getfield (B 71 _ rfl) (B 72 _ rfl) (B 73 _ rfl)) fl_X12_24 rfl hM.k (MS_kept hM).1 (n := 74) rfl ?_
    refine Vw.iload_n (de_iload_3 (B 74 _ rfl)) 3 rfl (n := 75) rfl ?_
    refine Vw.iload_n (de_iload_2 (B 75 _ rfl)) 2 rfl (n := 76) rfl ?_
    refine Vw.iast (de_iastore (B 76 _ rfl)) (MS_kept hM).2 (vIx_nI hl (by decide)) (n := 77) rfl ?_
    refine Vw.aload_n (de_aload_0 (B 77 _ rfl)) 0 rfl (n := 78) rfl ?_
    refine Vw.iload (de_iload (B 78 _ rfl) (B 79 _ rfl)) 4 rfl (n := 80) rfl ?_
    refine Vw.ivi1 (mi' := mX12_settled) (de_invokevirtual (B 80 _ rfl) (B 81 _ rfl) (B 82 _ rfl)) ml_X12_118 mv_X12_settled hM.k (Nat.le_of_ble_eq_true rfl) (n := 83) rfl (c_X12_settled hM ?_)
    exact Vw.iret (de_ireturn (B 83 _ rfl)) rfl ⟨_, rfl, (h k hk hx hv)⟩
  have mid : ∀ k, k < 3 → x = nI k → Vw mX12_terms (d + 2) 0 0 0 0 (ViQ Q) 33 [(0, .ref r), (1, .int x), (2, .int v)] [.int (tmMax k), .int 0, .int v] S I L := by
    intro k hk hx
    refine Vw.isi3 (mi' := mX12_lies) (de_invokestatic (B 33 _ rfl) (B 34 _ rfl) (B 35 _ rfl)) ml_X12_111 ms_X12_lies (Nat.le_of_ble_eq_true rfl) (n := 36) rfl (c_X12_lies ?_)
    refine Vw.if_ne (tgt := 45) (n := 39) (de_if_ne (B 36 _ rfl) (B 37 _ rfl) (B 38 _ rfl)) rfl rfl (fun c_36 => ?_) (fun c_36 => ?_)
    · refine Vw.iload_n (de_iload_1 (B 45 _ rfl)) 1 rfl (n := 46) rfl ?_
      refine Vw.if_ne (tgt := 54) (n := 49) (de_if_ne (B 46 _ rfl) (B 47 _ rfl) (B 48 _ rfl)) rfl rfl (fun c_46 => ?_) (fun c_46 => ?_)
      · refine Vw.sipush (v := 140) (de_sipush (B 54 _ rfl) (B 55 _ rfl) (B 56 _ rfl)) rfl (n := 57) rfl ?_
        refine Vw.iload_n (de_iload_1 (B 57 _ rfl)) 1 rfl (n := 58) rfl ?_
        refine Vw.iadd (de_iadd (B 58 _ rfl)) (n := 59) rfl ?_
        refine Vw.iconst (v := 1) (de_iconst_1 (B 59 _ rfl)) rfl (n := 60) rfl ?_
        refine Vw.isub (de_isub (B 60 _ rfl)) (n := 61) rfl ?_
        rcases (show k = 0 ∨ k = 1 ∨ k = 2 by omega) with rfl | rfl | rfl
        · first | exact fin 0 hk hx c_36 | exact absurd hx c_46
        · first | (rw [show (140 + x - 1 : Int32) = nI (tmAt 1) from by rw [hx]; rfl]; exact fin 1 hk hx c_36) | exact absurd (hx.symm.trans c_46) (by decide)
        · first | (rw [show (140 + x - 1 : Int32) = nI (tmAt 2) from by rw [hx]; rfl]; exact fin 2 hk hx c_36) | exact absurd (hx.symm.trans c_46) (by decide)
      refine Vw.bipush (v := 121) (de_bipush (B 49 _ rfl) (B 50 _ rfl)) rfl (n := 51) rfl ?_
      refine Vw.goto_ (n := 61) (de_goto_ (B 51 _ rfl) (B 52 _ rfl) (B 53 _ rfl)) rfl ?_
      rcases (show k = 0 ∨ k = 1 ∨ k = 2 by omega) with rfl | rfl | rfl
      · first | exact fin 0 hk hx c_36 | exact absurd hx c_46
      · first | (rw [show (140 + x - 1 : Int32) = nI (tmAt 1) from by rw [hx]; rfl]; exact fin 1 hk hx c_36) | exact absurd (hx.symm.trans c_46) (by decide)
      · first | (rw [show (140 + x - 1 : Int32) = nI (tmAt 2) from by rw [hx]; rfl]; exact fin 2 hk hx c_36) | exact absurd (hx.symm.trans c_46) (by decide)
    refine Vw.aload_n (de_aload_0 (B 39 _ rfl)) 0 rfl (n := 40) rfl ?_
    refine Vw.iconst (v := -1) (de_iconst_m1 (B 40 _ rfl)) rfl (n := 41) rfl ?_
    refine Vw.ivi1 (mi' := mX12_refuses) (de_invokevirtual (B 41 _ rfl) (B 42 _ rfl) (B 43 _ rfl)) ml_X12_115 mv_X12_refuses hM.k (Nat.le_of_ble_eq_true rfl) (n := 44) rfl (c_X12_refuses hM (j := 1) ⟨rfl, by decide, by decide⟩ ?_)
    exact Vw.iret (de_ireturn (B 44 _ rfl)) rfl ⟨_, rfl, (h1 (Or.inr ⟨k, hk, hx, c_36⟩))⟩
  refine Vw.iload_n (de_iload_1 (B 0 _ rfl)) 1 rfl (n := 1) rfl ?_
  refine Vw.iconst (v := 0) (de_iconst_0 (B 1 _ rfl)) rfl (n := 2) rfl ?_
  refine Vw.iconst (v := 2) (de_iconst_2 (B 2 _ rfl)) rfl (n := 3) rfl ?_
  refine Vw.isi3 (mi' := mX12_lies) (de_invokestatic (B 3 _ rfl) (B 4 _ rfl) (B 5 _ rfl)) ml_X12_111 ms_X12_lies (Nat.le_of_ble_eq_true rfl) (n := 6) rfl (c_X12_lies ?_)
  refine Vw.if_eq (tgt := 39) (n := 9) (de_if_eq (B 6 _ rfl) (B 7 _ rfl) (B 8 _ rfl)) rfl rfl (fun c_6 => ?_) (fun c_6 => ?_)
  · refine Vw.aload_n (de_aload_0 (B 39 _ rfl)) 0 rfl (n := 40) rfl ?_
    refine Vw.iconst (v := -1) (de_iconst_m1 (B 40 _ rfl)) rfl (n := 41) rfl ?_
    refine Vw.ivi1 (mi' := mX12_refuses) (de_invokevirtual (B 41 _ rfl) (B 42 _ rfl) (B 43 _ rfl)) ml_X12_115 mv_X12_refuses hM.k (Nat.le_of_ble_eq_true rfl) (n := 44) rfl (c_X12_refuses hM (j := 1) ⟨rfl, by decide, by decide⟩ ?_)
    exact Vw.iret (de_ireturn (B 44 _ rfl)) rfl ⟨_, rfl, (h1 (Or.inl c_6))⟩
  obtain ⟨k, hk, hx⟩ := lie_ex (n := 3) (by decide) c_6
  refine Vw.iload_n (de_iload_2 (B 9 _ rfl)) 2 rfl (n := 10) rfl ?_
  refine Vw.iconst (v := 0) (de_iconst_0 (B 10 _ rfl)) rfl (n := 11) rfl ?_
  refine Vw.iload_n (de_iload_1 (B 11 _ rfl)) 1 rfl (n := 12) rfl ?_
  refine Vw.if_ne (tgt := 21) (n := 15) (de_if_ne (B 12 _ rfl) (B 13 _ rfl) (B 14 _ rfl)) rfl rfl (fun c_12 => ?_) (fun c_12 => ?_)
  · refine Vw.iload_n (de_iload_1 (B 21 _ rfl)) 1 rfl (n := 22) rfl ?_
    refine Vw.iconst (v := 1) (de_iconst_1 (B 22 _ rfl)) rfl (n := 23) rfl ?_
    refine Vw.icmp_ne (tgt := 31) (n := 26) (de_icmp_ne (B 23 _ rfl) (B 24 _ rfl) (B 25 _ rfl)) rfl rfl (fun c_23 => ?_) (fun c_23 => ?_)
    · refine Vw.bipush (v := 9) (de_bipush (B 31 _ rfl) (B 32 _ rfl)) rfl (n := 33) rfl ?_
      rcases (show k = 0 ∨ k = 1 ∨ k = 2 by omega) with rfl | rfl | rfl
      · first | exact mid 0 hk hx | exact absurd hx c_12
      · first | exact mid 1 hk hx | exact absurd hx c_23 | exact absurd (hx.symm.trans c_12) (by decide)
      · first | exact mid 2 hk hx | exact absurd (hx.symm.trans c_12) (by decide) | exact absurd (hx.symm.trans c_23) (by decide)
    refine Vw.bipush (v := 10) (de_bipush (B 26 _ rfl) (B 27 _ rfl)) rfl (n := 28) rfl ?_
    refine Vw.goto_ (n := 33) (de_goto_ (B 28 _ rfl) (B 29 _ rfl) (B 30 _ rfl)) rfl ?_
    rcases (show k = 0 ∨ k = 1 ∨ k = 2 by omega) with rfl | rfl | rfl
    · first | exact mid 0 hk hx | exact absurd hx c_12
    · first | exact mid 1 hk hx | exact absurd hx c_23 | exact absurd (hx.symm.trans c_12) (by decide)
    · first | exact mid 2 hk hx | exact absurd (hx.symm.trans c_12) (by decide) | exact absurd (hx.symm.trans c_23) (by decide)
  refine Vw.sipush (v := 999) (de_sipush (B 15 _ rfl) (B 16 _ rfl) (B 17 _ rfl)) rfl (n := 18) rfl ?_
  refine Vw.goto_ (n := 33) (de_goto_ (B 18 _ rfl) (B 19 _ rfl) (B 20 _ rfl)) rfl ?_
  rcases (show k = 0 ∨ k = 1 ∨ k = 2 by omega) with rfl | rfl | rfl
  · first | exact mid 0 hk hx | exact absurd hx c_12
  · first | exact mid 1 hk hx | exact absurd hx c_23 | exact absurd (hx.symm.trans c_12) (by decide)
  · first | exact mid 2 hk hx | exact absurd (hx.symm.trans c_12) (by decide) | exact absurd (hx.symm.trans c_23) (by decide)
