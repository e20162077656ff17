def mFed (I : vI) (r j : Nat) (v : Int32) : vI := up2 I (r + 2) (4 * j + 3) v
theorem rf_ix (k : Int32) (h : k = -1 ∨ k = -2 ∨ k = -3 ∨ k = -5 ∨ k = -6) : vIx (-k) (-k).toNatClampNeg 7 := by rcases h with rfl | rfl | rfl | rfl | rfl <;> exact ⟨rfl, by decide, by decide⟩
theorem nI_inj {a b : Nat} (ha : a < 2147483648) (hb : b < 2147483648) (h : nI a = nI b) : a = b := (nI_eq ha hb).mp h
theorem c_X12_feeds {d : Nat} {S : vS} {I : vI} {L : vL} {Q : Int32 → vS → vI → vL → Prop} {r : Nat} {q : Int32} {v : Int32} {n : Nat} (hM : MS S r) (hn : I (r + 2) 142 = nI n) (hn8 : n ≤ 8) (h1 : zLie v (-3) 3 = 0 → Q (-1) S I L) (h2 : ¬ zLie v (-3) 3 = 0 → zLie q 0 (nI n - 1) = 0 → Q (-2) S I L) (h : ∀ j, ¬ zLie v (-3) 3 = 0 → j < n → q = nI j → Q 0 S (mFed I r j v) L) : Vc mX12_feeds (d + 2) 0 0 [.ref r, .int q, .int v] S I L (ViQ Q) := by
  refine Vc.of rfl (Nat.le_of_ble_eq_true rfl) ?_
  have B := bs_X12_feeds
  show Vw mX12_feeds (d + 2) 0 0 0 0 (ViQ Q) 0 [(0, .ref r), (1, .int q), (2, .int v)] [] S I L
  refine Vw.iload_n (de_iload_2 (B 0 _ rfl)) 2 rfl (n := 1) rfl ?_
  refine Vw.bipush (v := -3) (de_bipush (B 1 _ rfl) (B 2 _ rfl)) rfl (n := 3) rfl ?_
  refine Vw.iconst (v := 3) (de_iconst_3 (B 3 _ rfl)) rfl (n := 4) rfl ?_
  refine Vw.isi3 (mi' := mX12_lies) (de_invokestatic (B 4 _ rfl) (B 5 _ rfl) (B 6 _ rfl)) ml_X12_111 ms_X12_lies (Nat.le_of_ble_eq_true rfl) (n := 7) rfl (c_X12_lies ?_)
  refine Vw.if_ne (tgt := 12) (n := 10) (de_if_ne (B 7 _ rfl) (B 8 _ rfl) (B 9 _ rfl)) rfl rfl (fun c_7 => ?_) (fun c_7 => ?_)
  · refine Vw.aload_n (de_aload_0 (B 12 _ rfl)) 0 rfl (n := 13) rfl ?_
    refine Vw.iload_n (de_iload_1 (B 13 _ rfl)) 1 rfl (n := 14) rfl ?_
    refine Vw.ivi1 (mi' := mX12_isPerson) (de_invokevirtual (B 14 _ rfl) (B 15 _ rfl) (B 16 _ rfl)) ml_X12_132 mv_X12_isPerson hM.k (Nat.le_of_ble_eq_true rfl) (n := 17) rfl (c_X12_isPerson hM ?_)
    rw [hn]
    refine Vw.if_ne (tgt := 23) (n := 20) (de_if_ne (B 17 _ rfl) (B 18 _ rfl) (B 19 _ rfl)) rfl rfl (fun c_17 => ?_) (fun c_17 => ?_)
    · obtain ⟨j, hj, rfl⟩ := lie_ex (by omega) c_17
      refine Vw.aload_n (de_aload_0 (B 23 _ rfl)) 0 rfl (n := 24) rfl ?_
      refine Vw.getR (de_getfield (B 24 _ rfl) (B 25 _ rfl) (B 26 _ rfl)) fl_X12_24 rfl hM.k (MS_kept hM).1 (n := 27) rfl ?_
      refine Vw.iconst (v := 0) (de_iconst_0 (B 27 _ rfl)) rfl (n := 28) rfl ?_
      refine Vw.iconst (v := 4) (de_iconst_4 (B 28 _ rfl)) rfl (n := 29) rfl ?_
      refine Vw.iload_n (de_iload_1 (B 29 _ rfl)) 1 rfl (n := 30) rfl ?_
      refine Vw.imul (de_imul (B 30 _ rfl)) (n := 31) rfl ?_
      refine Vw.iadd (de_iadd (B 31 _ rfl)) (n := 32) rfl ?_
      refine Vw.iconst (v := 3) (de_iconst_3 (B 32 _ rfl)) rfl (n := 33) rfl ?_
      refine Vw.iadd (de_iadd (B 33 _ rfl)) (n := 34) rfl ?_
      refine Vw.iload_n (de_iload_2 (B 34 _ rfl)) 2 rfl (n := 35) rfl ?_
      refine Vw.iast (de_iastore (B 35 _ rfl)) (MS_kept hM).2 (vIx_n (k := 4 * j + 3) (by simp only [nI_A, nI_M, Int32.zero_add, Int32.add_zero] <;> rfl) (by omega)) (n := 36) rfl ?_
      refine Vw.iconst (v := 0) (de_iconst_0 (B 36 _ rfl)) rfl (n := 37) rfl ?_
      exact Vw.iret (de_ireturn (B 37 _ rfl)) rfl ⟨_, rfl, (h j c_7 hj rfl)⟩
    refine Vw.bipush (v := -2) (de_bipush (B 20 _ rfl) (B 21 _ rfl)) rfl (n := 22) rfl ?_
    exact Vw.iret (de_ireturn (B 22 _ rfl)) rfl ⟨_, rfl, (h2 c_7 c_17)⟩
  refine Vw.iconst (v := -1) (de_iconst_m1 (B 10 _ rfl)) rfl (n := 11) rfl ?_
  exact Vw.iret (de_ireturn (B 11 _ rfl)) rfl ⟨_, rfl, (h1 c_7)⟩
theorem c_X12_goodOr {d : Nat} {S : vS} {I : vI} {L : vL} {Q : Int32 → vS → vI → vL → Prop} {r : Nat} {v : Int32}  (hM : MS S r) (h1 : 0 ≤ v → Q v S (mGood I r) L) (h : ¬ 0 ≤ v → (v = -1 ∨ v = -2 ∨ v = -3 ∨ v = -5 ∨ v = -6) ∧ Q v S (mRef I r v (-v).toNatClampNeg) L) : Vc mX12_goodOr (d + 1) 0 0 [.ref r, .int v] S I L (ViQ Q) := by
  refine Vc.of rfl (Nat.le_of_ble_eq_true rfl) ?_
  have B := bs_X12_goodOr
  show Vw mX12_goodOr (d + 1) 0 0 0 0 (ViQ Q) 0 [(0, .ref r), (1, .int v)] [] S I L
  refine Vw.iload_n (de_iload_1 (B 0 _ rfl)) 1 rfl (n := 1) rfl ?_
  refine Vw.if_ge (tgt := 12) (n := 4) (de_if_ge (B 1 _ rfl) (B 2 _ rfl) (B 3 _ rfl)) rfl rfl (fun c_1 => ?_) (fun c_1 => ?_)
  · refine Vw.aload_n (de_aload_0 (B 12 _ rfl)) 0 rfl (n := 13) rfl ?_
    refine Vw.iload_n (de_iload_1 (B 13 _ rfl)) 1 rfl (n := 14) rfl ?_
    refine Vw.ivi1 (mi' := mX12_good) (de_invokevirtual (B 14 _ rfl) (B 15 _ rfl) (B 16 _ rfl)) ml_X12_14 mv_X12_good hM.k (Nat.le_of_ble_eq_true rfl) (n := 17) rfl (c_X12_good hM ?_)
    exact Vw.iret (de_ireturn (B 17 _ rfl)) rfl ⟨_, rfl, (by first | exact h1 c_1 | exact (h c_1).2)⟩
  refine Vw.aload_n (de_aload_0 (B 4 _ rfl)) 0 rfl (n := 5) rfl ?_
  refine Vw.iload_n (de_iload_1 (B 5 _ rfl)) 1 rfl (n := 6) rfl ?_
  refine Vw.ivi1 (mi' := mX12_refuses) (de_invokevirtual (B 6 _ rfl) (B 7 _ rfl) (B 8 _ rfl)) ml_X12_115 mv_X12_refuses hM.k (Nat.le_of_ble_eq_true rfl) (n := 9) rfl (c_X12_refuses hM (rf_ix _ (h c_1).1) ?_)
  refine Vw.goto_ (n := 17) (de_goto_ (B 9 _ rfl) (B 10 _ rfl) (B 11 _ rfl)) rfl ?_
  exact Vw.iret (de_ireturn (B 17 _ rfl)) rfl ⟨_, rfl, (by first | exact h1 c_1 | exact (h c_1).2)⟩
theorem c_X12_goodOr_n {d : Nat} {S : vS} {I : vI} {L : vL} {Q : Int32 → vS → vI → vL → Prop} {r : Nat} {v : Int32} (hM : MS S r) (h0 : ¬ 0 ≤ v) (h1 : v = -1 ∨ v = -2 ∨ v = -3 ∨ v = -5 ∨ v = -6) (h : Q v S (mRef I r v (-v).toNatClampNeg) L) : Vc mX12_goodOr (d + 1) 0 0 [.ref r, .int v] S I L (ViQ Q) := c_X12_goodOr hM (fun q => absurd q h0) (fun _ => ⟨h1, h⟩)
theorem c_X12_goodOr_p {d : Nat} {S : vS} {I : vI} {L : vL} {Q : Int32 → vS → vI → vL → Prop} {r : Nat} {v : Int32} (hM : MS S r) (h0 : 0 ≤ v) (h : Q v S (mGood I r) L) : Vc mX12_goodOr (d + 1) 0 0 [.ref r, .int v] S I L (ViQ Q) := c_X12_goodOr hM (fun _ => h) (fun q => absurd h0 q)
theorem c_X12_bale {d : Nat} {S : vS} {I : vI} {L : vL} {Q : Int32 → vS → vI → vL → Prop} {r : Nat} {t : Int32} {v : Int32}  (hM : MS S r) (h1 : zLie t 0 3 = 0 ∨ zLie v 0 999 = 0 → Q (-1) S (mRef I r (-1) 1) L) (h : ∀ j, j < 4 → t = nI j → ¬ zLie v 0 999 = 0 → Q (I (r + 2) (113 + 2 * j)) S (mSet (up2 I (r + 2) (113 + 2 * j) v) r) L) : Vc mX12_bale (d + 2) 0 0 [.ref r, .int t, .int v] S I L (ViQ Q) := by
  refine Vc.of rfl (Nat.le_of_ble_eq_true rfl) ?_
  have B := bs_X12_bale
  show Vw mX12_bale (d + 2) 0 0 0 0 (ViQ Q) 0 [(0, .ref r), (1, .int t), (2, .int v)] [] S I L
  refine Vw.iload_n (de_iload_1 (B 0 _ rfl)) 1 rfl (n := 1) rfl ?_
  refine Vw.isi1 (mi' := mX12_isTailor) (de_invokestatic (B 1 _ rfl) (B 2 _ rfl) (B 3 _ rfl)) ml_X12_159 ms_X12_isTailor (Nat.le_of_ble_eq_true rfl) (n := 4) rfl (c_X12_isTailor ?_)
  refine Vw.if_eq (tgt := 18) (n := 7) (de_if_eq (B 4 _ rfl) (B 5 _ rfl) (B 6 _ rfl)) rfl rfl (fun c_4 => ?_) (fun c_4 => ?_)
  · refine Vw.aload_n (de_aload_0 (B 18 _ rfl)) 0 rfl (n := 19) rfl ?_
    refine Vw.iconst (v := -1) (de_iconst_m1 (B 19 _ rfl)) rfl (n := 20) rfl ?_
    refine Vw.ivi1 (mi' := mX12_refuses) (de_invokevirtual (B 20 _ rfl) (B 21 _ rfl) (B 22 _ rfl)) ml_X12_115 mv_X12_refuses hM.k (Nat.le_of_ble_eq_true rfl) (n := 23) rfl (c_X12_refuses hM (j := 1) ⟨rfl, by decide, by decide⟩ ?_)
    exact Vw.iret (de_ireturn (B 23 _ rfl)) rfl ⟨_, rfl, (h1 (by first | exact Or.inl c_4 | exact Or.inr c_15))⟩
  refine Vw.iload_n (de_iload_2 (B 7 _ rfl)) 2 rfl (n := 8) rfl ?_
  refine Vw.iconst (v := 0) (de_iconst_0 (B 8 _ rfl)) rfl (n := 9) rfl ?_
  refine Vw.sipush (v := 999) (de_sipush (B 9 _ rfl) (B 10 _ rfl) (B 11 _ rfl)) rfl (n := 12) rfl ?_
  refine Vw.isi3 (mi' := mX12_lies) (de_invokestatic (B 12 _ rfl) (B 13 _ rfl) (B 14 _ rfl)) ml_X12_111 ms_X12_lies (Nat.le_of_ble_eq_true rfl) (n := 15) rfl (c_X12_lies ?_)
  refine Vw.if_ne (tgt := 24) (n := 18) (de_if_ne (B 15 _ rfl) (B 16 _ rfl) (B 17 _ rfl)) rfl rfl (fun c_15 => ?_) (fun c_15 => ?_)
  · obtain ⟨j, hj, rfl⟩ := lie_ex (n := 4) (by decide) c_4
    refine Vw.aload_n (de_aload_0 (B 24 _ rfl)) 0 rfl (n := 25) rfl ?_
    refine Vw.getR (de_getfield (B 25 _ rfl) (B 26 _ rfl) (B 27 _ rfl)) fl_X12_24 rfl hM.k (MS_kept hM).1 (n := 28) rfl ?_
    refine Vw.bipush (v := 113) (de_bipush (B 28 _ rfl) (B 29 _ rfl)) rfl (n := 30) rfl ?_
    refine Vw.iconst (v := 2) (de_iconst_2 (B 30 _ rfl)) rfl (n := 31) rfl ?_
    refine Vw.iload_n (de_iload_1 (B 31 _ rfl)) 1 rfl (n := 32) rfl ?_
    refine Vw.imul (de_imul (B 32 _ rfl)) (n := 33) rfl ?_
    refine Vw.iadd (de_iadd (B 33 _ rfl)) (n := 34) rfl ?_
    refine Vw.iald (de_iaload (B 34 _ rfl)) (MS_kept hM).2 (vIx_n (k := 113 + 2 * j) (by simp only [nI_A, nI_M, Int32.zero_add, Int32.add_zero] <;> rfl) (by omega)) (n := 35) rfl ?_
    refine Vw.istore_n (lv2 := [(0, _), (1, _), (2, _), (3, _)]) (de_istore_3 (B 35 _ rfl)) rfl (by decide) [1, 2, 3, 0] rfl (n := 36) rfl ?_
    refine Vw.aload_n (de_aload_0 (B 36 _ rfl)) 0 rfl (n := 37) rfl ?_
    refine Vw.getR (de_getfield (B 37 _ rfl) (B 38 _ rfl) (B 39 _ rfl)) fl_X12_24 rfl hM.k (MS_kept hM).1 (n := 40) rfl ?_
    refine Vw.bipush (v := 113) (de_bipush (B 40 _ rfl) (B 41 _ rfl)) rfl (n := 42) rfl ?_
    refine Vw.iconst (v := 2) (de_iconst_2 (B 42 _ rfl)) rfl (n := 43) rfl ?_
    refine Vw.iload_n (de_iload_1 (B 43 _ rfl)) 1 rfl (n := 44) rfl ?_
    refine Vw.imul (de_imul (B 44 _ rfl)) (n := 45) rfl ?_
    refine Vw.iadd (de_iadd (B 45 _ rfl)) (n := 46) rfl ?_
    refine Vw.iload_n (de_iload_2 (B 46 _ rfl)) 2 rfl (n := 47) rfl ?_
    refine Vw.iast (de_iastore (B 47 _ rfl)) (MS_kept hM).2 (vIx_n (k := 113 + 2 * j) (by simp only [nI_A, nI_M, Int32.zero_add, Int32.add_zero] <;> rfl) (by omega)) (n := 48) rfl ?_
    refine Vw.aload_n (de_aload_0 (B 48 _ rfl)) 0 rfl (n := 49) rfl ?_
    refine Vw.iload_n (de_iload_3 (B 49 _ rfl)) 3 rfl (n := 50) rfl ?_
    refine Vw.ivi1 (mi' := mX12_settled) (de_invokevirtual (B 50 _ rfl) (B 51 _ rfl) (B 52 _ rfl)) ml_X12_118 mv_X12_settled hM.k (Nat.le_of_ble_eq_true rfl) (n := 53) rfl (c_X12_settled hM ?_)
    exact Vw.iret (de_ireturn (B 53 _ rfl)) rfl ⟨_, rfl, (h j hj rfl c_15)⟩
  refine Vw.aload_n (de_aload_0 (B 18 _ rfl)) 0 rfl (n := 19) rfl ?_
  refine Vw.iconst (v := -1) (de_iconst_m1 (B 19 _ rfl)) rfl (n := 20) rfl ?_
  refine Vw.ivi1 (mi' := mX12_refuses) (de_invokevirtual (B 20 _ rfl) (B 21 _ rfl) (B 22 _ rfl)) ml_X12_115 mv_X12_refuses hM.k (Nat.le_of_ble_eq_true rfl) (n := 23) rfl (c_X12_refuses hM (j := 1) ⟨rfl, by decide, by decide⟩ ?_)
  exact Vw.iret (de_ireturn (B 23 _ rfl)) rfl ⟨_, rfl, (h1 (by first | exact Or.inl c_4 | exact Or.inr c_15))⟩
theorem c_X12_end {d : Nat} {S : vS} {I : vI} {L : vL} {Q : Int32 → vS → vI → vL → Prop} {r : Nat} {x : Int32}  (hM : MS S r) (h1 : zLie x 0 (I r 11) = 0 → Q (-1) S I L) (h : ¬ zLie x 0 (I r 11) = 0 → Q x S (up2 I r 11 x) L) : Vc mX12_end (d + 1) 0 0 [.ref r, .int x] S I L (ViQ Q) := by
  refine Vc.of rfl (Nat.le_of_ble_eq_true rfl) ?_
  have B := bs_X12_end
  show Vw mX12_end (d + 1) 0 0 0 0 (ViQ Q) 0 [(0, .ref r), (1, .int x)] [] S I L
  refine Vw.iload_n (de_iload_1 (B 0 _ rfl)) 1 rfl (n := 1) rfl ?_
  refine Vw.iconst (v := 0) (de_iconst_0 (B 1 _ rfl)) rfl (n := 2) rfl ?_
  refine Vw.aload_n (de_aload_0 (B 2 _ rfl)) 0 rfl (n := 3) rfl ?_
  refine Vw.getI (de_getfield (B 3 _ rfl) (B 4 _ rfl) (B 5 _ rfl)) fl_X12_169 rfl hM.k (n := 6) rfl ?_
  refine Vw.isi3 (mi' := mX12_lies) (de_invokestatic (B 6 _ rfl) (B 7 _ rfl) (B 8 _ rfl)) ml_X12_111 ms_X12_lies (Nat.le_of_ble_eq_true rfl) (n := 9) rfl (c_X12_lies ?_)
  refine Vw.if_ne (tgt := 14) (n := 12) (de_if_ne (B 9 _ rfl) (B 10 _ rfl) (B 11 _ rfl)) rfl rfl (fun c_9 => ?_) (fun c_9 => ?_)
  · refine Vw.aload_n (de_aload_0 (B 14 _ rfl)) 0 rfl (n := 15) rfl ?_
    refine Vw.iload_n (de_iload_1 (B 15 _ rfl)) 1 rfl (n := 16) rfl ?_
    refine Vw.putI (de_putfield (B 16 _ rfl) (B 17 _ rfl) (B 18 _ rfl)) fl_X12_169 hM.k rfl rfl (n := 19) rfl ?_
    refine Vw.iload_n (de_iload_1 (B 19 _ rfl)) 1 rfl (n := 20) rfl ?_
    exact Vw.iret (de_ireturn (B 20 _ rfl)) rfl ⟨_, rfl, (h c_9)⟩
  refine Vw.iconst (v := -1) (de_iconst_m1 (B 12 _ rfl)) rfl (n := 13) rfl ?_
  exact Vw.iret (de_ireturn (B 13 _ rfl)) rfl ⟨_, rfl, (h1 c_9)⟩
theorem c_X12_moths {d : Nat} {S : vS} {I : vI} {L : vL} {Q : Int32 → vS → vI → vL → Prop} {r : Nat}   (hM : MS S r)  (h : Q (I r 6) S I L) : Vc mX12_moths d 0 0 [.ref r] S I L (ViQ Q) := by
  refine Vc.of rfl (Nat.le_of_ble_eq_true rfl) ?_
  have B := bs_X12_moths
  show Vw mX12_moths d 0 0 0 0 (ViQ Q) 0 [(0, .ref r)] [] S I L
  refine Vw.aload_n (de_aload_0 (B 0 _ rfl)) 0 rfl (n := 1) rfl ?_
  refine Vw.getI (de_getfield (B 1 _ rfl) (B 2 _ rfl) (B 3 _ rfl)) fl_X12_172 rfl hM.k (n := 4) rfl ?_
  exact Vw.iret (de_ireturn (B 4 _ rfl)) rfl ⟨_, rfl, h⟩
theorem c_X12_fault {d : Nat} {S : vS} {I : vI} {L : vL} {Q : Int32 → vS → vI → vL → Prop} {r : Nat}   (hM : MS S r)  (h : Q (I r 12) S I L) : Vc mX12_fault d 0 0 [.ref r] S I L (ViQ Q) := by
  refine Vc.of rfl (Nat.le_of_ble_eq_true rfl) ?_
  have B := bs_X12_fault
  show Vw mX12_fault d 0 0 0 0 (ViQ Q) 0 [(0, .ref r)] [] S I L
  refine Vw.aload_n (de_aload_0 (B 0 _ rfl)) 0 rfl (n := 1) rfl ?_
  refine Vw.getI (de_getfield (B 1 _ rfl) (B 2 _ rfl) (B 3 _ rfl)) fl_X12_47 rfl hM.k (n := 4) rfl ?_
  exact Vw.iret (de_ireturn (B 4 _ rfl)) rfl ⟨_, rfl, h⟩
theorem c_X12_stopped {d : Nat} {S : vS} {I : vI} {L : vL} {Q : Int32 → vS → vI → vL → Prop} {r : Nat}   (hM : MS S r)  (h : Q (I r 43) S I L) : Vc mX12_stopped d 0 0 [.ref r] S I L (ViQ Q) := by
  refine Vc.of rfl (Nat.le_of_ble_eq_true rfl) ?_
  have B := bs_X12_stopped
  show Vw mX12_stopped d 0 0 0 0 (ViQ Q) 0 [(0, .ref r)] [] S I L
  refine Vw.aload_n (de_aload_0 (B 0 _ rfl)) 0 rfl (n := 1) rfl ?_
  refine Vw.getI (de_getfield (B 1 _ rfl) (B 2 _ rfl) (B 3 _ rfl)) fl_X12_99 rfl hM.k (n := 4) rfl ?_
  exact Vw.iret (de_ireturn (B 4 _ rfl)) rfl ⟨_, rfl, h⟩
theorem c_X12_status {d : Nat} {S : vS} {I : vI} {L : vL} {Q : Int32 → vS → vI → vL → Prop} {r : Nat}   (hM : MS S r)  (h : Q (I r 0) S I L) : Vc mX12_status d 0 0 [.ref r] S I L (ViQ Q) := by
  refine Vc.of rfl (Nat.le_of_ble_eq_true rfl) ?_
  have B := bs_X12_status
  show Vw mX12_status d 0 0 0 0 (ViQ Q) 0 [(0, .ref r)] [] S I L
  refine Vw.aload_n (de_aload_0 (B 0 _ rfl)) 0 rfl (n := 1) rfl ?_
  refine Vw.getI (de_getfield (B 1 _ rfl) (B 2 _ rfl) (B 3 _ rfl)) fl_X12_3 rfl hM.k (n := 4) rfl ?_
  exact Vw.iret (de_ireturn (B 4 _ rfl)) rfl ⟨_, rfl, h⟩
theorem c_X12_force {d : Nat} {S : vS} {I : vI} {L : vL} {Q : Int32 → vS → vI → vL → Prop} {r : Nat} {x : Int32}  (hM : MS S r) (h1 : zLie x (-1) (I (r + 2) 144 - 1) = 0 → Q (-2) S (mRef I r (-2) 2) L) (h : ¬ zLie x (-1) (I (r + 2) 144 - 1) = 0 → Q (I (r + 2) 145) S (mGood (up2 I (r + 2) 145 x) r) L) : Vc mX12_force (d + 1) 0 0 [.ref r, .int x] S I L (ViQ Q) := by
  refine Vc.of rfl (Nat.le_of_ble_eq_true rfl) ?_
  have B := bs_X12_force
  show Vw mX12_force (d + 1) 0 0 0 0 (ViQ Q) 0 [(0, .ref r), (1, .int x)] [] S I L
  refine Vw.iload_n (de_iload_1 (B 0 _ rfl)) 1 rfl (n := 1) rfl ?_
  refine Vw.iconst (v := -1) (de_iconst_m1 (B 1 _ rfl)) rfl (n := 2) rfl ?_
  refine Vw.aload_n (de_aload_0 (B 2 _ rfl)) 0 rfl (n := 3) rfl ?_
  refine Vw.getR (de_getfield (B 3 _ rfl) (B 4 _ rfl) (B 5 _ rfl)) fl_X12_24 rfl hM.k (MS_kept hM).1 (n := 6) rfl ?_
  refine Vw.sipush (v := 144) (de_sipush (B 6 _ rfl) (B 7 _ rfl) (B 8 _ rfl)) rfl (n := 9) rfl ?_
  refine Vw.iald (de_iaload (B 9 _ rfl)) (MS_kept hM).2 (j := 144) ⟨rfl, by decide, by decide⟩ (n := 10) rfl ?_
  refine Vw.iconst (v := 1) (de_iconst_1 (B 10 _ rfl)) rfl (n := 11) rfl ?_
  refine Vw.isub (de_isub (B 11 _ rfl)) (n := 12) rfl ?_
  refine Vw.isi3 (mi' := mX12_lies) (de_invokestatic (B 12 _ rfl) (B 13 _ rfl) (B 14 _ rfl)) ml_X12_111 ms_X12_lies (Nat.le_of_ble_eq_true rfl) (n := 15) rfl (c_X12_lies ?_)
  refine Vw.if_ne (tgt := 25) (n := 18) (de_if_ne (B 15 _ rfl) (B 16 _ rfl) (B 17 _ rfl)) rfl rfl (fun c_15 => ?_) (fun c_15 => ?_)
  · refine Vw.aload_n (de_aload_0 (B 25 _ rfl)) 0 rfl (n := 26) rfl ?_
    refine Vw.getR (de_getfield (B 26 _ rfl) (B 27 _ rfl) (B 28 _ rfl)) fl_X12_24 rfl hM.k (MS_kept hM).1 (n := 29) rfl ?_
    refine Vw.sipush (v := 145) (de_sipush (B 29 _ rfl) (B 30 _ rfl) (B 31 _ rfl)) rfl (n := 32) rfl ?_
    refine Vw.iald (de_iaload (B 32 _ rfl)) (MS_kept hM).2 (j := 145) ⟨rfl, by decide, by decide⟩ (n := 33) rfl ?_
    refine Vw.istore_n (lv2 := [(0, _), (1, _), (2, _)]) (de_istore_2 (B 33 _ rfl)) rfl (by decide) [1, 2, 0] rfl (n := 34) rfl ?_
    refine Vw.aload_n (de_aload_0 (B 34 _ rfl)) 0 rfl (n := 35) rfl ?_
    refine Vw.getR (de_getfield (B 35 _ rfl) (B 36 _ rfl) (B 37 _ rfl)) fl_X12_24 rfl hM.k (MS_kept hM).1 (n := 38) rfl ?_
    refine Vw.sipush (v := 145) (de_sipush (B 38 _ rfl) (B 39 _ rfl) (B 40 _ rfl)) rfl (n := 41) rfl ?_
    refine Vw.iload_n (de_iload_1 (B 41 _ rfl)) 1 rfl (n := 42) rfl ?_
    refine Vw.iast (de_iastore (B 42 _ rfl)) (MS_kept hM).2 (j := 145) ⟨rfl, by decide, by decide⟩ (n := 43) rfl ?_
    refine Vw.aload_n (de_aload_0 (B 43 _ rfl)) 0 rfl (n := 44) rfl ?_
    refine Vw.iload_n (de_iload_2 (B 44 _ rfl)) 2 rfl (n := 45) rfl ?_
    refine Vw.ivi1 (mi' := mX12_good) (de_invokevirtual (B 45 _ rfl) (B 46 _ rfl) (B 47 _ rfl)) ml_X12_14 mv_X12_good hM.k (Nat.le_of_ble_eq_true rfl) (n := 48) rfl (c_X12_good hM ?_)
    exact Vw.iret (de_ireturn (B 48 _ rfl)) rfl ⟨_, rfl, (h c_15)⟩
  refine Vw.aload_n (de_aload_0 (B 18 _ rfl)) 0 rfl (n := 19) rfl ?_
  refine Vw.bipush (v := -2) (de_bipush (B 19 _ rfl) (B 20 _ rfl)) rfl (n := 21) rfl ?_
  refine Vw.ivi1 (mi' := mX12_refuses) (de_invokevirtual (B 21 _ rfl) (B 22 _ rfl) (B 23 _ rfl)) ml_X12_115 mv_X12_refuses hM.k (Nat.le_of_ble_eq_true rfl) (n := 24) rfl (c_X12_refuses hM (j := 2) ⟨rfl, by decide, by decide⟩ ?_)
  exact Vw.iret (de_ireturn (B 24 _ rfl)) rfl ⟨_, rfl, (h1 c_15)⟩
theorem c_X12_forget {d : Nat} {S : vS} {I : vI} {L : vL} {Q : Int32 → vS → vI → vL → Prop} {r : Nat}   (hM : MS S r)  (h : Q (I (r + 2) 143) S (up2 I (r + 2) 143 0) L) : Vc mX12_forget d 0 0 [.ref r] S I L (ViQ Q) := by
  refine Vc.of rfl (Nat.le_of_ble_eq_true rfl) ?_
  have B := bs_X12_forget
  show Vw mX12_forget d 0 0 0 0 (ViQ Q) 0 [(0, .ref r)] [] S I L
  refine Vw.aload_n (de_aload_0 (B 0 _ rfl)) 0 rfl (n := 1) rfl ?_
  refine Vw.getR (de_getfield (B 1 _ rfl) (B 2 _ rfl) (B 3 _ rfl)) fl_X12_24 rfl hM.k (MS_kept hM).1 (n := 4) rfl ?_
  refine Vw.sipush (v := 143) (de_sipush (B 4 _ rfl) (B 5 _ rfl) (B 6 _ rfl)) rfl (n := 7) rfl ?_
  refine Vw.iald (de_iaload (B 7 _ rfl)) (MS_kept hM).2 (j := 143) ⟨rfl, by decide, by decide⟩ (n := 8) rfl ?_
  refine Vw.istore_n (lv2 := [(0, _), (1, _)]) (de_istore_1 (B 8 _ rfl)) rfl (by decide) [1, 0] rfl (n := 9) rfl ?_
  refine Vw.aload_n (de_aload_0 (B 9 _ rfl)) 0 rfl (n := 10) rfl ?_
  refine Vw.getR (de_getfield (B 10 _ rfl) (B 11 _ rfl) (B 12 _ rfl)) fl_X12_24 rfl hM.k (MS_kept hM).1 (n := 13) rfl ?_
  refine Vw.sipush (v := 143) (de_sipush (B 13 _ rfl) (B 14 _ rfl) (B 15 _ rfl)) rfl (n := 16) rfl ?_
  refine Vw.iconst (v := 0) (de_iconst_0 (B 16 _ rfl)) rfl (n := 17) rfl ?_
  refine Vw.iast (de_iastore (B 17 _ rfl)) (MS_kept hM).2 (j := 143) ⟨rfl, by decide, by decide⟩ (n := 18) rfl ?_
  refine Vw.iload_n (de_iload_1 (B 18 _ rfl)) 1 rfl (n := 19) rfl ?_
  exact Vw.iret (de_ireturn (B 19 _ rfl)) rfl ⟨_, rfl, h⟩
theorem c_X12_sight {d : Nat} {S : vS} {I : vI} {L : vL} {Q : Int32 → vS → vI → vL → Prop} {r : Nat} {k : Int32} {q : Int32} {w : Int32} {n m : Nat} (hM : MS S r) (hn : I (r + 2) 142 = nI n) (hn8 : n ≤ 8) (hs : I (r + 2) 143 = nI m) (hm : m ≤ 6) (h1 : zLie k 1 40 = 0 ∨ zLie w 5 200 = 0 → Q (-1) S (mRef I r (-1) 1) L) (h2 : ¬ zLie k 1 40 = 0 → ¬ zLie w 5 200 = 0 → zLie q 0 (nI n - 1) = 0 → Q (-2) S (mRef I r (-2) 2) L) (h3 : ¬ zLie k 1 40 = 0 → ¬ zLie w 5 200 = 0 → ¬ zLie q 0 (nI n - 1) = 0 → m = 6 → Q (-5) S (mRef I r (-5) 5) L) (h : ¬ zLie k 1 40 = 0 → ¬ zLie w 5 200 = 0 → ¬ zLie q 0 (nI n - 1) = 0 → m < 6 → Q (nI m + 1) S (mGood (up2 (up2 (up2 (up2 I (r + 2) (122 + 3 * m) k) (r + 2) (122 + 3 * m + 1) q) (r + 2) (122 + 3 * m + 2) w) (r + 2) 143 (nI m + 1)) r) L) : Vc mX12_sight (d + 2) 0 0 [.ref r, .int k, .int q, .int w] S I L (ViQ Q) := by
  refine Vc.of rfl (Nat.le_of_ble_eq_true rfl) ?_
  have B := bs_X12_sight
  show Vw mX12_sight (d + 2) 0 0 0 0 (ViQ Q) 0 [(0, .ref r), (1, .int k), (2, .int q), (3, .int w)] [] S I L
  refine Vw.iload_n (de_iload_1 (B 0 _ rfl)) 1 rfl (n := 1) rfl ?_
  refine Vw.iconst (v := 1) (de_iconst_1 (B 1 _ rfl)) rfl (n := 2) rfl ?_
  refine Vw.bipush (v := 40) (de_bipush (B 2 _ rfl) (B 3 _ rfl)) rfl (n := 4) rfl ?_
  refine Vw.isi3 (mi' := mX12_lies) (de_invokestatic (B 4 _ rfl) (B 5 _ rfl) (B 6 _ rfl)) ml_X12_111 ms_X12_lies (Nat.le_of_ble_eq_true rfl) (n := 7) rfl (c_X12_lies ?_)
  refine Vw.if_eq (tgt := 21) (n := 10) (de_if_eq (B 7 _ rfl) (B 8 _ rfl) (B 9 _ rfl)) rfl rfl (fun c_7 => ?_) (fun c_7 => ?_)
  · refine Vw.aload_n (de_aload_0 (B 21 _ rfl)) 0 rfl (n := 22) rfl ?_
    refine Vw.iconst (v := -1) (de_iconst_m1 (B 22 _ rfl)) rfl (n := 23) rfl ?_
    refine Vw.ivi1 (mi' := mX12_refuses) (de_invokevirtual (B 23 _ rfl) (B 24 _ rfl) (B 25 _ rfl)) ml_X12_115 mv_X12_refuses hM.k (Nat.le_of_ble_eq_true rfl) (n := 26) rfl (c_X12_refuses hM (j := 1) ⟨rfl, by decide, by decide⟩ ?_)
    exact Vw.iret (de_ireturn (B 26 _ rfl)) rfl ⟨_, rfl, (h1 (by first | exact Or.inl c_7 | exact Or.inr c_18))⟩
  refine Vw.iload_n (de_iload_3 (B 10 _ rfl)) 3 rfl (n := 11) rfl ?_
  refine Vw.iconst (v := 5) (de_iconst_5 (B 11 _ rfl)) rfl (n := 12) rfl ?_
  refine Vw.sipush (v := 200) (de_sipush (B 12 _ rfl) (B 13 _ rfl) (B 14 _ rfl)) rfl (n := 15) rfl ?_
  refine Vw.isi3 (mi' := mX12_lies) (de_invokestatic (B 15 _ rfl) (B 16 _ rfl) (B 17 _ rfl)) ml_X12_111 ms_X12_lies (Nat.le_of_ble_eq_true rfl) (n := 18) rfl (c_X12_lies ?_)
  refine Vw.if_ne (tgt := 27) (n := 21) (de_if_ne (B 18 _ rfl) (B 19 _ rfl) (B 20 _ rfl)) rfl rfl (fun c_18 => ?_) (fun c_18 => ?_)
  · refine Vw.aload_n (de_aload_0 (B 27 _ rfl)) 0 rfl (n := 28) rfl ?_
    refine Vw.iload_n (de_iload_2 (B 28 _ rfl)) 2 rfl (n := 29) rfl ?_
    refine Vw.ivi1 (mi' := mX12_isPerson) (de_invokevirtual (B 29 _ rfl) (B 30 _ rfl) (B 31 _ rfl)) ml_X12_132 mv_X12_isPerson hM.k (Nat.le_of_ble_eq_true rfl) (n := 32) rfl (c_X12_isPerson hM ?_)
    rw [hn]
    refine Vw.if_ne (tgt := 42) (n := 35) (de_if_ne (B 32 _ rfl) (B 33 _ rfl) (B 34 _ rfl)) rfl rfl (fun c_32 => ?_) (fun c_32 => ?_)
    · refine Vw.aload_n (de_aload_0 (B 42 _ rfl)) 0 rfl (n := 43) rfl ?_
      refine Vw.getR (de_getfield (B 43 _ rfl) (B 44 _ rfl) (B 45 _ rfl)) fl_X12_24 rfl hM.k (MS_kept hM).1 (n := 46) rfl ?_
      refine Vw.sipush (v := 143) (de_sipush (B 46 _ rfl) (B 47 _ rfl) (B 48 _ rfl)) rfl (n := 49) rfl ?_
      refine Vw.iald (de_iaload (B 49 _ rfl)) (MS_kept hM).2 (j := 143) ⟨rfl, by decide, by decide⟩ (n := 50) rfl ?_
      rw [hs]
      refine Vw.istore (lv2 := [(0, _), (1, _), (2, _), (3, _), (4, _)]) (de_istore (B 50 _ rfl) (B 51 _ rfl)) (by decide) [1, 2, 3, 4, 0] rfl (n := 52) rfl ?_
      refine Vw.iload (de_iload (B 52 _ rfl) (B 53 _ rfl)) 4 rfl (n := 54) rfl ?_
      refine Vw.bipush (v := 6) (de_bipush (B 54 _ rfl) (B 55 _ rfl)) rfl (n := 56) rfl ?_
      refine Vw.icmp_ne (tgt := 66) (n := 59) (de_icmp_ne (B 56 _ rfl) (B 57 _ rfl) (B 58 _ rfl)) rfl rfl (fun c_56 => ?_) (fun c_56 => ?_)
      · have hm6 : m < 6 := by rcases Nat.lt_or_ge m 6 with z | z; exact z; exact absurd (by rw [show m = 6 by omega]; rfl) c_56
        refine Vw.aload_n (de_aload_0 (B 66 _ rfl)) 0 rfl (n := 67) rfl ?_
        refine Vw.getR (de_getfield (B 67 _ rfl) (B 68 _ rfl) (B 69 _ rfl)) fl_X12_24 rfl hM.k (MS_kept hM).1 (n := 70) rfl ?_
        refine Vw.bipush (v := 122) (de_bipush (B 70 _ rfl) (B 71 _ rfl)) rfl (n := 72) rfl ?_
        refine Vw.iconst (v := 3) (de_iconst_3 (B 72 _ rfl)) rfl (n := 73) rfl ?_
        refine Vw.iload (de_iload (B 73 _ rfl) (B 74 _ rfl)) 4 rfl (n := 75) rfl ?_
        refine Vw.imul (de_imul (B 75 _ rfl)) (n := 76) rfl ?_
        refine Vw.iadd (de_iadd (B 76 _ rfl)) (n := 77) rfl ?_
        refine Vw.iload_n (de_iload_1 (B 77 _ rfl)) 1 rfl (n := 78) rfl ?_
        refine Vw.iast (de_iastore (B 78 _ rfl)) (MS_kept hM).2 (vIx_n (k := 122 + 3 * m) (by simp only [nI_A, nI_M, Int32.zero_add, Int32.add_zero] <;> rfl) (by omega)) (n := 79) rfl ?_
        refine Vw.aload_n (de_aload_0 (B 79 _ rfl)) 0 rfl (n := 80) rfl ?_
        refine Vw.getR (de_getfield (B 80 _ rfl) (B 81 _ rfl) (B 82 _ rfl)) fl_X12_24 rfl hM.k (MS_kept hM).1 (n := 83) rfl ?_
        refine Vw.bipush (v := 122) (de_bipush (B 83 _ rfl) (B 84 _ rfl)) rfl (n := 85) rfl ?_
        refine Vw.iconst (v := 3) (de_iconst_3 (B 85 _ rfl)) rfl (n := 86) rfl ?_
        refine Vw.iload (de_iload (B 86 _ rfl) (B 87 _ rfl)) 4 rfl (n := 88) rfl ?_
        refine Vw.imul (de_imul (B 88 _ rfl)) (n := 89) rfl ?_
        refine Vw.iadd (de_iadd (B 89 _ rfl)) (n := 90) rfl ?_
        refine Vw.iconst (v := 1) (de_iconst_1 (B 90 _ rfl)) rfl (n := 91) rfl ?_
        refine Vw.iadd (de_iadd (B 91 _ rfl)) (n := 92) rfl ?_
        refine Vw.iload_n (de_iload_2 (B 92 _ rfl)) 2 rfl (n := 93) rfl ?_
        refine Vw.iast (de_iastore (B 93 _ rfl)) (MS_kept hM).2 (vIx_n (k := 122 + 3 * m + 1) (by simp only [nI_A, nI_M, Int32.zero_add, Int32.add_zero] <;> rfl) (by omega)) (n := 94) rfl ?_
        refine Vw.aload_n (de_aload_0 (B 94 _ rfl)) 0 rfl (n := 95) rfl ?_
        refine Vw.getR (de_getfield (B 95 _ rfl) (B 96 _ rfl) (B 97 _ rfl)) fl_X12_24 rfl hM.k (MS_kept hM).1 (n := 98) rfl ?_
        refine Vw.bipush (v := 122) (de_bipush (B 98 _ rfl) (B 99 _ rfl)) rfl (n := 100) rfl ?_
        refine Vw.iconst (v := 3) (de_iconst_3 (B 100 _ rfl)) rfl (n := 101) rfl ?_
        refine Vw.iload (de_iload (B 101 _ rfl) (B 102 _ rfl)) 4 rfl (n := 103) rfl ?_
        refine Vw.imul (de_imul (B 103 _ rfl)) (n := 104) rfl ?_
        refine Vw.iadd (de_iadd (B 104 _ rfl)) (n := 105) rfl ?_
        refine Vw.iconst (v := 2) (de_iconst_2 (B 105 _ rfl)) rfl (n := 106) rfl ?_
        refine Vw.iadd (de_iadd (B 106 _ rfl)) (n := 107) rfl ?_
        refine Vw.iload_n (de_iload_3 (B 107 _ rfl)) 3 rfl (n := 108) rfl ?_
        refine Vw.iast (de_iastore (B 108 _ rfl)) (MS_kept hM).2 (vIx_n (k := 122 + 3 * m + 2) (by simp only [nI_A, nI_M, Int32.zero_add, Int32.add_zero] <;> rfl) (by omega)) (n := 109) rfl ?_
        refine Vw.aload_n (de_aload_0 (B 109 _ rfl)) 0 rfl (n := 110) rfl ?_
        refine Vw.getR (de_getfield (B 110 _ rfl) (B 111 _ rfl) (B 112 _ rfl)) fl_X12_24 rfl hM.k (MS_kept hM).1 (n := 113) rfl ?_
        refine Vw.sipush (v := 143) (de_sipush (B 113 _ rfl) (B 114 _ rfl) (B 115 _ rfl)) rfl (n := 116) rfl ?_
        refine Vw.dup2 (de_dup2 (B 116 _ rfl)) rfl rfl (n := 117) rfl ?_
        refine Vw.iald (de_iaload (B 117 _ rfl)) (MS_kept hM).2 (j := 143) ⟨rfl, by decide, by decide⟩ (n := 118) rfl ?_
        refine Vw.iconst (v := 1) (de_iconst_1 (B 118 _ rfl)) rfl (n := 119) rfl ?_
        refine Vw.iadd (de_iadd (B 119 _ rfl)) (n := 120) rfl ?_
        refine Vw.iast (de_iastore (B 120 _ rfl)) (MS_kept hM).2 (j := 143) ⟨rfl, by decide, by decide⟩ (n := 121) rfl ?_
        refine Vw.aload_n (de_aload_0 (B 121 _ rfl)) 0 rfl (n := 122) rfl ?_
        refine Vw.iload (de_iload (B 122 _ rfl) (B 123 _ rfl)) 4 rfl (n := 124) rfl ?_
        refine Vw.iconst (v := 1) (de_iconst_1 (B 124 _ rfl)) rfl (n := 125) rfl ?_
        refine Vw.iadd (de_iadd (B 125 _ rfl)) (n := 126) rfl ?_
        refine Vw.ivi1 (mi' := mX12_good) (de_invokevirtual (B 126 _ rfl) (B 127 _ rfl) (B 128 _ rfl)) ml_X12_14 mv_X12_good hM.k (Nat.le_of_ble_eq_true rfl) (n := 129) rfl (c_X12_good hM ?_)
        exact Vw.iret (de_ireturn (B 129 _ rfl)) rfl ⟨_, rfl, (by have z := h c_7 c_18 c_32 hm6; simpa (disch := omega) only [up2_a, up2_k, up2_s, hs] using z)⟩
      refine Vw.aload_n (de_aload_0 (B 59 _ rfl)) 0 rfl (n := 60) rfl ?_
      refine Vw.bipush (v := -5) (de_bipush (B 60 _ rfl) (B 61 _ rfl)) rfl (n := 62) rfl ?_
      refine Vw.ivi1 (mi' := mX12_refuses) (de_invokevirtual (B 62 _ rfl) (B 63 _ rfl) (B 64 _ rfl)) ml_X12_115 mv_X12_refuses hM.k (Nat.le_of_ble_eq_true rfl) (n := 65) rfl (c_X12_refuses hM (j := 5) ⟨rfl, by decide, by decide⟩ ?_)
      exact Vw.iret (de_ireturn (B 65 _ rfl)) rfl ⟨_, rfl, (h3 c_7 c_18 c_32 (nI_inj (by omega) (by omega) c_56))⟩
    refine Vw.aload_n (de_aload_0 (B 35 _ rfl)) 0 rfl (n := 36) rfl ?_
    refine Vw.bipush (v := -2) (de_bipush (B 36 _ rfl) (B 37 _ rfl)) rfl (n := 38) rfl ?_
    refine Vw.ivi1 (mi' := mX12_refuses) (de_invokevirtual (B 38 _ rfl) (B 39 _ rfl) (B 40 _ rfl)) ml_X12_115 mv_X12_refuses hM.k (Nat.le_of_ble_eq_true rfl) (n := 41) rfl (c_X12_refuses hM (j := 2) ⟨rfl, by decide, by decide⟩ ?_)
    exact Vw.iret (de_ireturn (B 41 _ rfl)) rfl ⟨_, rfl, (h2 c_7 c_18 c_32)⟩
  refine Vw.aload_n (de_aload_0 (B 21 _ rfl)) 0 rfl (n := 22) rfl ?_
  refine Vw.iconst (v := -1) (de_iconst_m1 (B 22 _ rfl)) rfl (n := 23) rfl ?_
  refine Vw.ivi1 (mi' := mX12_refuses) (de_invokevirtual (B 23 _ rfl) (B 24 _ rfl) (B 25 _ rfl)) ml_X12_115 mv_X12_refuses hM.k (Nat.le_of_ble_eq_true rfl) (n := 26) rfl (c_X12_refuses hM (j := 1) ⟨rfl, by decide, by decide⟩ ?_)
  exact Vw.iret (de_ireturn (B 26 _ rfl)) rfl ⟨_, rfl, (h1 (by first | exact Or.inl c_7 | exact Or.inr c_18))⟩
theorem c_X12_count {d : Nat} {S : vS} {I : vI} {L : vL} {Q : Int32 → vS → vI → vL → Prop} {r : Nat} {x : Int32}  (hM : MS S r)  (h : ∀ v, (x = 0 → v = I (r + 2) 142) → (x = 1 → v = I (r + 2) 112) → (x = 2 → v = I (r + 2) 143) → (x = 3 → v = I (r + 2) 144) → (x = 4 → v = I r 32) → (x = 5 → v = I r 11) → (x = 6 → v = I (r + 1) 1) → (x = 7 → v = I (r + 1) 2) → (x = 8 → v = I (r + 1) 3) → (x = 9 → v = I (r + 1) 5) → (x = 10 → v = I (r + 1) 6) → (x = 11 → v = I (r + 2) 145) → (x = 12 → v = I (r + 2) 121) → (x = 13 → v = I (r + 2) 140) → (x = 14 → v = I (r + 2) 141) → (x.toInt < 0 ∨ 14 < x.toInt → v = -1) → Q v S I L) : Vc mX12_count (d + 1) 0 0 [.ref r, .int x] S I L (ViQ Q) := by
  refine Vc.of rfl (Nat.le_of_ble_eq_true rfl) ?_
  have B := bs_X12_count
  show Vw mX12_count (d + 1) 0 0 0 0 (ViQ Q) 0 [(0, .ref r), (1, .int x)] [] S I L
  refine Vw.iload_n (de_iload_1 (B 0 _ rfl)) 1 rfl (n := 1) rfl ?_
  have hts_1 : decode mX12_count.2.1 1 = .ok (.tableswitch 171 0 14 #[75, 80, 88, 97, 106, 111, 116, 116, 116, 125, 132, 140, 149, 157, 157], 75) := by decide +kernel
  by_cases e_1_0 : x = (0 : Int32)
  · subst e_1_0
    refine Vw.tsIn (n := 76) hts_1 (by decide) (by decide) rfl rfl ?_
    refine Vw.aload_n (de_aload_0 (B 76 _ rfl)) 0 rfl (n := 77) rfl ?_
    refine Vw.ivi0 (mi' := mX12_people) (de_invokevirtual (B 77 _ rfl) (B 78 _ rfl) (B 79 _ rfl)) ml_X12_121 mv_X12_people hM.k (Nat.le_of_ble_eq_true rfl) (n := 80) rfl (c_X12_people hM ?_)
    exact Vw.iret (de_ireturn (B 80 _ rfl)) rfl ⟨_, rfl, (by apply h <;> (intro q; first | rfl | (exact absurd q (by decide)) | (simp_all; done)))⟩
  by_cases e_1_1 : x = (1 : Int32)
  · subst e_1_1
    refine Vw.tsIn (n := 81) hts_1 (by decide) (by decide) rfl rfl ?_
    refine Vw.aload_n (de_aload_0 (B 81 _ rfl)) 0 rfl (n := 82) rfl ?_
    refine Vw.getR (de_getfield (B 82 _ rfl) (B 83 _ rfl) (B 84 _ rfl)) fl_X12_24 rfl hM.k (MS_kept hM).1 (n := 85) rfl ?_
    refine Vw.bipush (v := 112) (de_bipush (B 85 _ rfl) (B 86 _ rfl)) rfl (n := 87) rfl ?_
    refine Vw.iald (de_iaload (B 87 _ rfl)) (MS_kept hM).2 (j := 112) ⟨rfl, by decide, by decide⟩ (n := 88) rfl ?_
    exact Vw.iret (de_ireturn (B 88 _ rfl)) rfl ⟨_, rfl, (by apply h <;> (intro q; first | rfl | (exact absurd q (by decide)) | (simp_all; done)))⟩
  by_cases e_1_2 : x = (2 : Int32)
  · subst e_1_2
    refine Vw.tsIn (n := 89) hts_1 (by decide) (by decide) rfl rfl ?_
    refine Vw.aload_n (de_aload_0 (B 89 _ rfl)) 0 rfl (n := 90) rfl ?_
    refine Vw.getR (de_getfield (B 90 _ rfl) (B 91 _ rfl) (B 92 _ rfl)) fl_X12_24 rfl hM.k (MS_kept hM).1 (n := 93) rfl ?_
    refine Vw.sipush (v := 143) (de_sipush (B 93 _ rfl) (B 94 _ rfl) (B 95 _ rfl)) rfl (n := 96) rfl ?_
    refine Vw.iald (de_iaload (B 96 _ rfl)) (MS_kept hM).2 (j := 143) ⟨rfl, by decide, by decide⟩ (n := 97) rfl ?_
    exact Vw.iret (de_ireturn (B 97 _ rfl)) rfl ⟨_, rfl, (by apply h <;> (intro q; first | rfl | (exact absurd q (by decide)) | (simp_all; done)))⟩
  by_cases e_1_3 : x = (3 : Int32)
  · subst e_1_3
    refine Vw.tsIn (n := 98) hts_1 (by decide) (by decide) rfl rfl ?_
    refine Vw.aload_n (de_aload_0 (B 98 _ rfl)) 0 rfl (n := 99) rfl ?_
    refine Vw.getR (de_getfield (B 99 _ rfl) (B 100 _ rfl) (B 101 _ rfl)) fl_X12_24 rfl hM.k (MS_kept hM).1 (n := 102) rfl ?_
    refine Vw.sipush (v := 144) (de_sipush (B 102 _ rfl) (B 103 _ rfl) (B 104 _ rfl)) rfl (n := 105) rfl ?_
    refine Vw.iald (de_iaload (B 105 _ rfl)) (MS_kept hM).2 (j := 144) ⟨rfl, by decide, by decide⟩ (n := 106) rfl ?_
    exact Vw.iret (de_ireturn (B 106 _ rfl)) rfl ⟨_, rfl, (by apply h <;> (intro q; first | rfl | (exact absurd q (by decide)) | (simp_all; done)))⟩
  by_cases e_1_4 : x = (4 : Int32)
  · subst e_1_4
    refine Vw.tsIn (n := 107) hts_1 (by decide) (by decide) rfl rfl ?_
    refine Vw.aload_n (de_aload_0 (B 107 _ rfl)) 0 rfl (n := 108) rfl ?_
    refine Vw.getI (de_getfield (B 108 _ rfl) (B 109 _ rfl) (B 110 _ rfl)) fl_X12_11 rfl hM.k (n := 111) rfl ?_
    exact Vw.iret (de_ireturn (B 111 _ rfl)) rfl ⟨_, rfl, (by apply h <;> (intro q; first | rfl | (exact absurd q (by decide)) | (simp_all; done)))⟩
  by_cases e_1_5 : x = (5 : Int32)
  · subst e_1_5
    refine Vw.tsIn (n := 112) hts_1 (by decide) (by decide) rfl rfl ?_
    refine Vw.aload_n (de_aload_0 (B 112 _ rfl)) 0 rfl (n := 113) rfl ?_
    refine Vw.getI (de_getfield (B 113 _ rfl) (B 114 _ rfl) (B 115 _ rfl)) fl_X12_169 rfl hM.k (n := 116) rfl ?_
    exact Vw.iret (de_ireturn (B 116 _ rfl)) rfl ⟨_, rfl, (by apply h <;> (intro q; first | rfl | (exact absurd q (by decide)) | (simp_all; done)))⟩
  by_cases e_1_6 : x = (6 : Int32)
  · subst e_1_6
    refine Vw.tsIn (n := 117) hts_1 (by decide) (by decide) rfl rfl ?_
    refine Vw.aload_n (de_aload_0 (B 117 _ rfl)) 0 rfl (n := 118) rfl ?_
    refine Vw.getR (de_getfield (B 118 _ rfl) (B 119 _ rfl) (B 120 _ rfl)) fl_X12_7 rfl hM.k (MS_refused hM).1 (n := 121) rfl ?_
    refine Vw.iload_n (de_iload_1 (B 121 _ rfl)) 1 rfl (n := 122) rfl ?_
    refine Vw.iconst (v := 5) (de_iconst_5 (B 122 _ rfl)) rfl (n := 123) rfl ?_
    refine Vw.isub (de_isub (B 123 _ rfl)) (n := 124) rfl ?_
    refine Vw.iald (de_iaload (B 124 _ rfl)) (MS_refused hM).2 ⟨rfl, by decide, by decide⟩ (n := 125) rfl ?_
    exact Vw.iret (de_ireturn (B 125 _ rfl)) rfl ⟨_, rfl, (by apply h <;> (intro q; first | rfl | (exact absurd q (by decide)) | (simp_all; done)))⟩
  by_cases e_1_7 : x = (7 : Int32)
  · subst e_1_7
    refine Vw.tsIn (n := 117) hts_1 (by decide) (by decide) rfl rfl ?_
    refine Vw.aload_n (de_aload_0 (B 117 _ rfl)) 0 rfl (n := 118) rfl ?_
    refine Vw.getR (de_getfield (B 118 _ rfl) (B 119 _ rfl) (B 120 _ rfl)) fl_X12_7 rfl hM.k (MS_refused hM).1 (n := 121) rfl ?_
    refine Vw.iload_n (de_iload_1 (B 121 _ rfl)) 1 rfl (n := 122) rfl ?_
    refine Vw.iconst (v := 5) (de_iconst_5 (B 122 _ rfl)) rfl (n := 123) rfl ?_
    refine Vw.isub (de_isub (B 123 _ rfl)) (n := 124) rfl ?_
    refine Vw.iald (de_iaload (B 124 _ rfl)) (MS_refused hM).2 ⟨rfl, by decide, by decide⟩ (n := 125) rfl ?_
    exact Vw.iret (de_ireturn (B 125 _ rfl)) rfl ⟨_, rfl, (by apply h <;> (intro q; first | rfl | (exact absurd q (by decide)) | (simp_all; done)))⟩
  by_cases e_1_8 : x = (8 : Int32)
  · subst e_1_8
    refine Vw.tsIn (n := 117) hts_1 (by decide) (by decide) rfl rfl ?_
    refine Vw.aload_n (de_aload_0 (B 117 _ rfl)) 0 rfl (n := 118) rfl ?_
    refine Vw.getR (de_getfield (B 118 _ rfl) (B 119 _ rfl) (B 120 _ rfl)) fl_X12_7 rfl hM.k (MS_refused hM).1 (n := 121) rfl ?_
    refine Vw.iload_n (de_iload_1 (B 121 _ rfl)) 1 rfl (n := 122) rfl ?_
    refine Vw.iconst (v := 5) (de_iconst_5 (B 122 _ rfl)) rfl (n := 123) rfl ?_
    refine Vw.isub (de_isub (B 123 _ rfl)) (n := 124) rfl ?_
    refine Vw.iald (de_iaload (B 124 _ rfl)) (MS_refused hM).2 ⟨rfl, by decide, by decide⟩ (n := 125) rfl ?_
    exact Vw.iret (de_ireturn (B 125 _ rfl)) rfl ⟨_, rfl, (by apply h <;> (intro q; first | rfl | (exact absurd q (by decide)) | (simp_all; done)))⟩
  by_cases e_1_9 : x = (9 : Int32)
  · subst e_1_9
    refine Vw.tsIn (n := 126) hts_1 (by decide) (by decide) rfl rfl ?_
    refine Vw.aload_n (de_aload_0 (B 126 _ rfl)) 0 rfl (n := 127) rfl ?_
    refine Vw.getR (de_getfield (B 127 _ rfl) (B 128 _ rfl) (B 129 _ rfl)) fl_X12_7 rfl hM.k (MS_refused hM).1 (n := 130) rfl ?_
    refine Vw.iconst (v := 5) (de_iconst_5 (B 130 _ rfl)) rfl (n := 131) rfl ?_
    refine Vw.iald (de_iaload (B 131 _ rfl)) (MS_refused hM).2 (j := 5) ⟨rfl, by decide, by decide⟩ (n := 132) rfl ?_
    exact Vw.iret (de_ireturn (B 132 _ rfl)) rfl ⟨_, rfl, (by apply h <;> (intro q; first | rfl | (exact absurd q (by decide)) | (simp_all; done)))⟩
  by_cases e_1_10 : x = (10 : Int32)
  · subst e_1_10
    refine Vw.tsIn (n := 133) hts_1 (by decide) (by decide) rfl rfl ?_
    refine Vw.aload_n (de_aload_0 (B 133 _ rfl)) 0 rfl (n := 134) rfl ?_
    refine Vw.getR (de_getfield (B 134 _ rfl) (B 135 _ rfl) (B 136 _ rfl)) fl_X12_7 rfl hM.k (MS_refused hM).1 (n := 137) rfl ?_
    refine Vw.bipush (v := 6) (de_bipush (B 137 _ rfl) (B 138 _ rfl)) rfl (n := 139) rfl ?_
    refine Vw.iald (de_iaload (B 139 _ rfl)) (MS_refused hM).2 (j := 6) ⟨rfl, by decide, by decide⟩ (n := 140) rfl ?_
    exact Vw.iret (de_ireturn (B 140 _ rfl)) rfl ⟨_, rfl, (by apply h <;> (intro q; first | rfl | (exact absurd q (by decide)) | (simp_all; done)))⟩
  by_cases e_1_11 : x = (11 : Int32)
  · subst e_1_11
    refine Vw.tsIn (n := 141) hts_1 (by decide) (by decide) rfl rfl ?_
    refine Vw.aload_n (de_aload_0 (B 141 _ rfl)) 0 rfl (n := 142) rfl ?_
    refine Vw.getR (de_getfield (B 142 _ rfl) (B 143 _ rfl) (B 144 _ rfl)) fl_X12_24 rfl hM.k (MS_kept hM).1 (n := 145) rfl ?_
    refine Vw.sipush (v := 145) (de_sipush (B 145 _ rfl) (B 146 _ rfl) (B 147 _ rfl)) rfl (n := 148) rfl ?_
    refine Vw.iald (de_iaload (B 148 _ rfl)) (MS_kept hM).2 (j := 145) ⟨rfl, by decide, by decide⟩ (n := 149) rfl ?_
    exact Vw.iret (de_ireturn (B 149 _ rfl)) rfl ⟨_, rfl, (by apply h <;> (intro q; first | rfl | (exact absurd q (by decide)) | (simp_all; done)))⟩
  by_cases e_1_12 : x = (12 : Int32)
  · subst e_1_12
    refine Vw.tsIn (n := 150) hts_1 (by decide) (by decide) rfl rfl ?_
    refine Vw.aload_n (de_aload_0 (B 150 _ rfl)) 0 rfl (n := 151) rfl ?_
    refine Vw.getR (de_getfield (B 151 _ rfl) (B 152 _ rfl) (B 153 _ rfl)) fl_X12_24 rfl hM.k (MS_kept hM).1 (n := 154) rfl ?_
    refine Vw.bipush (v := 121) (de_bipush (B 154 _ rfl) (B 155 _ rfl)) rfl (n := 156) rfl ?_
    refine Vw.iald (de_iaload (B 156 _ rfl)) (MS_kept hM).2 (j := 121) ⟨rfl, by decide, by decide⟩ (n := 157) rfl ?_
    exact Vw.iret (de_ireturn (B 157 _ rfl)) rfl ⟨_, rfl, (by apply h <;> (intro q; first | rfl | (exact absurd q (by decide)) | (simp_all; done)))⟩
  by_cases e_1_13 : x = (13 : Int32)
  · subst e_1_13
    refine Vw.tsIn (n := 158) hts_1 (by decide) (by decide) rfl rfl ?_
    refine Vw.aload_n (de_aload_0 (B 158 _ rfl)) 0 rfl (n := 159) rfl ?_
    refine Vw.getR (de_getfield (B 159 _ rfl) (B 160 _ rfl) (B 161 _ rfl)) fl_X12_24 rfl hM.k (MS_kept hM).1 (n := 162) rfl ?_
    refine Vw.sipush (v := 140) (de_sipush (B 162 _ rfl) (B 163 _ rfl) (B 164 _ rfl)) rfl (n := 165) rfl ?_
    refine Vw.iload_n (de_iload_1 (B 165 _ rfl)) 1 rfl (n := 166) rfl ?_
    refine Vw.iadd (de_iadd (B 166 _ rfl)) (n := 167) rfl ?_
    refine Vw.bipush (v := 13) (de_bipush (B 167 _ rfl) (B 168 _ rfl)) rfl (n := 169) rfl ?_
    refine Vw.isub (de_isub (B 169 _ rfl)) (n := 170) rfl ?_
    refine Vw.iald (de_iaload (B 170 _ rfl)) (MS_kept hM).2 ⟨rfl, by decide, by decide⟩ (n := 171) rfl ?_
    exact Vw.iret (de_ireturn (B 171 _ rfl)) rfl ⟨_, rfl, (by apply h <;> (intro q; first | rfl | (exact absurd q (by decide)) | (simp_all; done)))⟩
  by_cases e_1_14 : x = (14 : Int32)
  · subst e_1_14
    refine Vw.tsIn (n := 158) hts_1 (by decide) (by decide) rfl rfl ?_
    refine Vw.aload_n (de_aload_0 (B 158 _ rfl)) 0 rfl (n := 159) rfl ?_
    refine Vw.getR (de_getfield (B 159 _ rfl) (B 160 _ rfl) (B 161 _ rfl)) fl_X12_24 rfl hM.k (MS_kept hM).1 (n := 162) rfl ?_
    refine Vw.sipush (v := 140) (de_sipush (B 162 _ rfl) (B 163 _ rfl) (B 164 _ rfl)) rfl (n := 165) rfl ?_
    refine Vw.iload_n (de_iload_1 (B 165 _ rfl)) 1 rfl (n := 166) rfl ?_
    refine Vw.iadd (de_iadd (B 166 _ rfl)) (n := 167) rfl ?_
    refine Vw.bipush (v := 13) (de_bipush (B 167 _ rfl) (B 168 _ rfl)) rfl (n := 169) rfl ?_
    refine Vw.isub (de_isub (B 169 _ rfl)) (n := 170) rfl ?_
    refine Vw.iald (de_iaload (B 170 _ rfl)) (MS_kept hM).2 ⟨rfl, by decide, by decide⟩ (n := 171) rfl ?_
    exact Vw.iret (de_ireturn (B 171 _ rfl)) rfl ⟨_, rfl, (by apply h <;> (intro q; first | rfl | (exact absurd q (by decide)) | (simp_all; done)))⟩
  refine Vw.tsOut (n := 172) hts_1 (by have q0 := ne_ti e_1_0 0 rfl ; have q1 := ne_ti e_1_1 1 rfl ; have q2 := ne_ti e_1_2 2 rfl ; have q3 := ne_ti e_1_3 3 rfl ; have q4 := ne_ti e_1_4 4 rfl ; have q5 := ne_ti e_1_5 5 rfl ; have q6 := ne_ti e_1_6 6 rfl ; have q7 := ne_ti e_1_7 7 rfl ; have q8 := ne_ti e_1_8 8 rfl ; have q9 := ne_ti e_1_9 9 rfl ; have q10 := ne_ti e_1_10 10 rfl ; have q11 := ne_ti e_1_11 11 rfl ; have q12 := ne_ti e_1_12 12 rfl ; have q13 := ne_ti e_1_13 13 rfl ; have q14 := ne_ti e_1_14 14 rfl; omega) rfl ?_
  refine Vw.iconst (v := -1) (de_iconst_m1 (B 172 _ rfl)) rfl (n := 173) rfl ?_
  exact Vw.iret (de_ireturn (B 173 _ rfl)) rfl ⟨_, rfl, (by apply h <;> (intro q; first | rfl | (simp_all; done)))⟩
