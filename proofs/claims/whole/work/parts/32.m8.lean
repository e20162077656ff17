theorem c_X12_sign {d : Nat} {S : vS} {I : vI} {L : vL} {Q : Int32 → vS → vI → vL → Prop} {c : Int32} (h : Q (100 + c) S I L) : Vc mX12_sign d 0 0 [.int c] S I L (ViQ Q) := by
  refine Vc.of rfl (Nat.le_of_ble_eq_true rfl) ?_
  have B := bs_X12_sign
  show Vw mX12_sign d 0 0 0 0 (ViQ Q) 0 [(0, .int c)] [] S I L
  refine Vw.bipush (v := 100) (de_bipush (B 0 _ rfl) (B 1 _ rfl)) rfl (n := 2) rfl ?_
  refine Vw.iload_n (de_iload_0 (B 2 _ rfl)) 0 rfl (n := 3) rfl ?_
  refine Vw.iadd (de_iadd (B 3 _ rfl)) (n := 4) rfl ?_
  exact Vw.iret (de_ireturn (B 4 _ rfl)) rfl ⟨_, rfl, h⟩
theorem c_X12_must {d : Nat} {S : vS} {I : vI} {L : vL} {Q : vS → vI → vL → Prop} {r : Nat} {c : Int32} {l b : Int32} {nt i : Nat} (hM : MS S r) (hp : pOk I r nt) (hi : i ≤ nt) (h1 : b = -1 → I (r + 9) i = c → Q S (pm I r (nI (i + 1)) l b) L) (h2 : b = -1 → ¬ I (r + 9) i = c → Q S (pm I r (nI i) l (I (r + 11) i)) L) (h3 : ¬ b = -1 → Q S (pm I r (nI i) l b) L) : Vc mX12_must (d + 2) 0 0 [.ref r, .int c] S (pm I r (nI i) l b) L (VvQ Q) := by
  refine Vc.of rfl (Nat.le_of_ble_eq_true rfl) ?_
  have B := bs_X12_must
  show Vw mX12_must (d + 2) 0 0 0 0 (VvQ Q) 0 [(0, .ref r), (1, .int c)] [] S (pm I r (nI i) l b) L
  refine Vw.aload_n (de_aload_0 (B 0 _ rfl)) 0 rfl (n := 1) rfl ?_
  refine Vw.iload_n (de_iload_1 (B 1 _ rfl)) 1 rfl (n := 2) rfl ?_
  refine Vw.ivi1 (mi' := mX12_takes0) (de_invokevirtual (B 2 _ rfl) (B 3 _ rfl) (B 4 _ rfl)) ml_X12_198 mv_X12_takes0 hM.k (Nat.le_of_ble_eq_true rfl) (n := 5) rfl (c_X12_takes0 hM hp hi (fun z1 z2 => ?_) (fun z => ?_))
  · refine Vw.if_ne (tgt := 12) (n := 8) (de_if_ne (B 5 _ rfl) (B 6 _ rfl) (B 7 _ rfl)) rfl rfl (fun c_5 => ?_) (fun c_5 => ?_)
    · exact Vw.vret (de_return_ (B 12 _ rfl)) rfl ⟨rfl, (h1 z1 z2)⟩
    exact absurd c_5 (by decide)
  · refine Vw.if_ne (tgt := 12) (n := 8) (de_if_ne (B 5 _ rfl) (B 6 _ rfl) (B 7 _ rfl)) rfl rfl (fun c_5 => ?_) (fun c_5 => ?_)
    · exact absurd rfl c_5
    refine Vw.aload_n (de_aload_0 (B 8 _ rfl)) 0 rfl (n := 9) rfl ?_
    refine Vw.ivv0 (mi' := mX12_faults) (de_invokevirtual (B 9 _ rfl) (B 10 _ rfl) (B 11 _ rfl)) ml_X12_201 mv_X12_faults hM.k (Nat.le_of_ble_eq_true rfl) (n := 12) rfl (c_X12_faults hM hp hi (fun q => ?_) (fun q => ?_))
    · exact Vw.vret (de_return_ (B 12 _ rfl)) rfl ⟨rfl, (h2 q (z q))⟩
    · exact Vw.vret (de_return_ (B 12 _ rfl)) rfl ⟨rfl, (h3 q)⟩
theorem c_X12_leaf {d : Nat} {S : vS} {I : vI} {L : vL} {Q : vS → vI → vL → Prop} {r : Nat}  {nt i ll : Nat} (hM : MS S r) (hp : pOk I r nt) (hi : i ≤ nt) (hl : ll ≤ 50) (h1 : ll = 50 → Q S (pm I r (nI i) (nI 51) (I (r + 11) i)) L) (h2 : ¬ ll = 50 → Q S (pm I r (nI (i + 1)) (nI (ll + 1)) (-1)) L) : Vc mX12_leaf (d + 2) 0 0 [.ref r] S (pm I r (nI i) (nI ll) (-1)) L (VvQ Q) := by
  refine Vc.of rfl (Nat.le_of_ble_eq_true rfl) ?_
  have B := bs_X12_leaf
  show Vw mX12_leaf (d + 2) 0 0 0 0 (VvQ Q) 0 [(0, .ref r)] [] S (pm I r (nI i) (nI ll) (-1)) L
  have two : ∀ b : Int32, Vw mX12_leaf (d + 2) 0 0 0 0 (VvQ Q) 23 [(0, .ref r)] [] S (pm I r (nI i) (nI (ll + 1)) b) L → Vw mX12_leaf (d + 2) 0 0 0 0 (VvQ Q) 13 [(0, .ref r)] [] S (pm I r (nI i) (nI ll) b) L := by
    intro b hk
    refine Vw.aload_n (de_aload_0 (B 13 _ rfl)) 0 rfl (n := 14) rfl ?_
    refine Vw.dup (de_dup (B 14 _ rfl)) rfl (n := 15) rfl ?_
    refine Vw.getI (de_getfield (B 15 _ rfl) (B 16 _ rfl) (B 17 _ rfl)) fl_X12_204 rfl hM.k (n := 18) rfl ?_
    rw [pm_l]
    refine Vw.iconst (v := 1) (de_iconst_1 (B 18 _ rfl)) rfl (n := 19) rfl ?_
    refine Vw.iadd (de_iadd (B 19 _ rfl)) (n := 20) rfl ?_
    rw [nI_1]
    refine Vw.putI (de_putfield (B 20 _ rfl) (B 21 _ rfl) (B 22 _ rfl)) fl_X12_204 hM.k rfl rfl (n := 23) rfl ?_
    rw [pm_ul]
    exact hk
  refine Vw.aload_n (de_aload_0 (B 0 _ rfl)) 0 rfl (n := 1) rfl ?_
  refine Vw.getI (de_getfield (B 1 _ rfl) (B 2 _ rfl) (B 3 _ rfl)) fl_X12_204 rfl hM.k (n := 4) rfl ?_
  rw [pm_l]
  refine Vw.bipush (v := 50) (de_bipush (B 4 _ rfl) (B 5 _ rfl)) rfl (n := 6) rfl ?_
  refine Vw.icmp_ne (tgt := 13) (n := 9) (de_icmp_ne (B 6 _ rfl) (B 7 _ rfl) (B 8 _ rfl)) rfl rfl (fun c_6 => ?_) (fun c_6 => ?_)
  · refine two _ ?_
    have hne : ¬ ll = 50 := fun q => c_6 (by rw [q]; rfl)
    refine Vw.aload_n (de_aload_0 (B 23 _ rfl)) 0 rfl (n := 24) rfl ?_
    refine Vw.ivi0 (mi' := mX12_fine) (de_invokevirtual (B 24 _ rfl) (B 25 _ rfl) (B 26 _ rfl)) ml_X12_191 mv_X12_fine hM.k (Nat.le_of_ble_eq_true rfl) (n := 27) rfl (c_X12_fine hM ?_)
    refine Vw.if_eq (tgt := 40) (n := 30) (de_if_eq (B 27 _ rfl) (B 28 _ rfl) (B 29 _ rfl)) rfl rfl (fun c_27 => ?_) (fun c_27 => ?_)
    · exact absurd c_27 (by decide)
    refine Vw.aload_n (de_aload_0 (B 30 _ rfl)) 0 rfl (n := 31) rfl ?_
    refine Vw.dup (de_dup (B 31 _ rfl)) rfl (n := 32) rfl ?_
    refine Vw.getI (de_getfield (B 32 _ rfl) (B 33 _ rfl) (B 34 _ rfl)) fl_X12_195 rfl hM.k (n := 35) rfl ?_
    rw [pm_t]
    refine Vw.iconst (v := 1) (de_iconst_1 (B 35 _ rfl)) rfl (n := 36) rfl ?_
    refine Vw.iadd (de_iadd (B 36 _ rfl)) (n := 37) rfl ?_
    rw [nI_1]
    refine Vw.putI (de_putfield (B 37 _ rfl) (B 38 _ rfl) (B 39 _ rfl)) fl_X12_195 hM.k rfl rfl (n := 40) rfl ?_
    rw [pm_ut]
    exact Vw.vret (de_return_ (B 40 _ rfl)) rfl ⟨rfl, (h2 hne)⟩
  refine Vw.aload_n (de_aload_0 (B 9 _ rfl)) 0 rfl (n := 10) rfl ?_
  refine Vw.ivv0 (mi' := mX12_faults) (de_invokevirtual (B 10 _ rfl) (B 11 _ rfl) (B 12 _ rfl)) ml_X12_201 mv_X12_faults hM.k (Nat.le_of_ble_eq_true rfl) (n := 13) rfl (c_X12_faults hM hp hi (fun q => ?_) (fun q => absurd rfl q))
  · have z50 : ll = 50 := nI_inj (by omega) (by omega) c_6
    refine two _ ?_
    refine Vw.aload_n (de_aload_0 (B 23 _ rfl)) 0 rfl (n := 24) rfl ?_
    refine Vw.ivi0 (mi' := mX12_fine) (de_invokevirtual (B 24 _ rfl) (B 25 _ rfl) (B 26 _ rfl)) ml_X12_191 mv_X12_fine hM.k (Nat.le_of_ble_eq_true rfl) (n := 27) rfl (c_X12_fine hM ?_)
    refine Vw.if_eq (tgt := 40) (n := 30) (de_if_eq (B 27 _ rfl) (B 28 _ rfl) (B 29 _ rfl)) rfl rfl (fun c_27 => ?_) (fun c_27 => ?_)
    · exact Vw.vret (de_return_ (B 40 _ rfl)) rfl ⟨rfl, (by rw [show ll = 50 from z50]; exact h1 z50)⟩
    exact absurd (by simp [zFine, hp.2.2 i hi]) c_27
def zVal (I : vI) (r : Nat) (c : Int32) : Int32 := if isVal (decide (¬ I r 8 = 0)) c = true then 1 else 0
theorem zVal_z (I : vI) (r : Nat) (c : Int32) : narrow .boolean (.int (zVal I r c)) = .int (zVal I r c) := by unfold zVal; split <;> rfl
theorem c_X12_isValue {d : Nat} {S : vS} {I : vI} {L : vL} {Q : Int32 → vS → vI → vL → Prop} {r : Nat} {c : Int32}  (hM : MS S r)  (h : Q (zVal I r c) S I L) : Vc mX12_isValue (d + 1) 0 0 [.ref r, .int c] S I L (ViQ Q) := by
  refine Vc.of rfl (Nat.le_of_ble_eq_true rfl) ?_
  have B := bs_X12_isValue
  show Vw mX12_isValue (d + 1) 0 0 0 0 (ViQ Q) 0 [(0, .ref r), (1, .int c)] [] S I L
  refine Vw.aload_n (de_aload_0 (B 0 _ rfl)) 0 rfl (n := 1) rfl ?_
  refine Vw.getI (de_getfield (B 1 _ rfl) (B 2 _ rfl) (B 3 _ rfl)) fl_X12_207 rfl hM.k (n := 4) rfl ?_
  refine Vw.if_eq (tgt := 38) (n := 7) (de_if_eq (B 4 _ rfl) (B 5 _ rfl) (B 6 _ rfl)) rfl rfl (fun c_4 => ?_) (fun c_4 => ?_)
  · refine Vw.iload_n (de_iload_1 (B 38 _ rfl)) 1 rfl (n := 39) rfl ?_
    refine Vw.bipush (v := 10) (de_bipush (B 39 _ rfl) (B 40 _ rfl)) rfl (n := 41) rfl ?_
    refine Vw.bipush (v := 17) (de_bipush (B 41 _ rfl) (B 42 _ rfl)) rfl (n := 43) rfl ?_
    refine Vw.isi3 (mi' := mX12_lies) (de_invokestatic (B 43 _ rfl) (B 44 _ rfl) (B 45 _ rfl)) ml_X12_111 ms_X12_lies (Nat.le_of_ble_eq_true rfl) (n := 46) rfl (c_X12_lies ?_)
    exact Vw.zret (de_ireturn (B 46 _ rfl)) rfl (zLie_z _ _ _) ⟨_, rfl, (by have z := zLie_01 c 10 17; rcases z with z | z <;> simpa [zVal, isVal, z, c_4] using h)⟩
  refine Vw.iload_n (de_iload_1 (B 7 _ rfl)) 1 rfl (n := 8) rfl ?_
  refine Vw.bipush (v := 13) (de_bipush (B 8 _ rfl) (B 9 _ rfl)) rfl (n := 10) rfl ?_
  refine Vw.icmp_eq (tgt := 30) (n := 13) (de_icmp_eq (B 10 _ rfl) (B 11 _ rfl) (B 12 _ rfl)) rfl rfl (fun c_10 => ?_) (fun c_10 => ?_)
  · refine Vw.iconst (v := 1) (de_iconst_1 (B 30 _ rfl)) rfl (n := 31) rfl ?_
    refine Vw.goto_ (n := 46) (de_goto_ (B 31 _ rfl) (B 32 _ rfl) (B 33 _ rfl)) rfl ?_
    exact Vw.zret (de_ireturn (B 46 _ rfl)) rfl rfl ⟨_, rfl, (by have z := zLie_01 c 10 17; rcases z with z | z <;> simpa [zVal, isVal, z, c_4, c_10] using h)⟩
  refine Vw.iload_n (de_iload_1 (B 13 _ rfl)) 1 rfl (n := 14) rfl ?_
  refine Vw.bipush (v := 14) (de_bipush (B 14 _ rfl) (B 15 _ rfl)) rfl (n := 16) rfl ?_
  refine Vw.icmp_eq (tgt := 30) (n := 19) (de_icmp_eq (B 16 _ rfl) (B 17 _ rfl) (B 18 _ rfl)) rfl rfl (fun c_16 => ?_) (fun c_16 => ?_)
  · refine Vw.iconst (v := 1) (de_iconst_1 (B 30 _ rfl)) rfl (n := 31) rfl ?_
    refine Vw.goto_ (n := 46) (de_goto_ (B 31 _ rfl) (B 32 _ rfl) (B 33 _ rfl)) rfl ?_
    exact Vw.zret (de_ireturn (B 46 _ rfl)) rfl rfl ⟨_, rfl, (by have z := zLie_01 c 10 17; rcases z with z | z <;> simpa [zVal, isVal, z, c_4, c_10, c_16] using h)⟩
  refine Vw.iload_n (de_iload_1 (B 19 _ rfl)) 1 rfl (n := 20) rfl ?_
  refine Vw.bipush (v := 18) (de_bipush (B 20 _ rfl) (B 21 _ rfl)) rfl (n := 22) rfl ?_
  refine Vw.bipush (v := 20) (de_bipush (B 22 _ rfl) (B 23 _ rfl)) rfl (n := 24) rfl ?_
  refine Vw.isi3 (mi' := mX12_lies) (de_invokestatic (B 24 _ rfl) (B 25 _ rfl) (B 26 _ rfl)) ml_X12_111 ms_X12_lies (Nat.le_of_ble_eq_true rfl) (n := 27) rfl (c_X12_lies ?_)
  refine Vw.if_eq (tgt := 34) (n := 30) (de_if_eq (B 27 _ rfl) (B 28 _ rfl) (B 29 _ rfl)) rfl rfl (fun c_27 => ?_) (fun c_27 => ?_)
  · refine Vw.iconst (v := 0) (de_iconst_0 (B 34 _ rfl)) rfl (n := 35) rfl ?_
    refine Vw.goto_ (n := 46) (de_goto_ (B 35 _ rfl) (B 36 _ rfl) (B 37 _ rfl)) rfl ?_
    exact Vw.zret (de_ireturn (B 46 _ rfl)) rfl rfl ⟨_, rfl, (by have z := zLie_01 c 10 17; rcases z with z | z <;> simpa [zVal, isVal, z, c_4, c_10, c_16, c_27] using h)⟩
  refine Vw.iconst (v := 1) (de_iconst_1 (B 30 _ rfl)) rfl (n := 31) rfl ?_
  refine Vw.goto_ (n := 46) (de_goto_ (B 31 _ rfl) (B 32 _ rfl) (B 33 _ rfl)) rfl ?_
  exact Vw.zret (de_ireturn (B 46 _ rfl)) rfl rfl ⟨_, rfl, (by have z := zLie_01 c 10 17; rcases z with z | z <;> simpa [zVal, isVal, z, c_4, c_10, c_16, c_27] using h)⟩
