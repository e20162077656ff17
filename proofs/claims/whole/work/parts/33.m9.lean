theorem lt_nt {I : vI} {r nt i : Nat} {c : Int32} (hp : pOk I r nt) (hi : i ≤ nt) (h : I (r + 9) i = c) (hc : ¬ c = 0) : i < nt := by
  rcases Nat.lt_or_ge i nt with q | q
  · exact q
  · exact absurd (by rw [← h, show i = nt by omega]; exact hp.2.1) hc
theorem zF0 {b : Int32} (h : ¬ b = -1) : zFine b = 0 := if_neg h
theorem c_X12_takes0_nf {d : Nat} {S : vS} {I : vI} {L : vL} {Q : Int32 → vS → vI → vL → Prop} {r : Nat} {c : Int32} {t l b : Int32} (hM : MS S r) (hb : ¬ b = -1) (h : Q 0 S (pm I r t l b) L) : Vc mX12_takes0 (d + 1) 0 0 [.ref r, .int c] S (pm I r t l b) L (ViQ Q) := by
  refine Vc.of rfl (Nat.le_of_ble_eq_true rfl) ?_
  have B := bs_X12_takes0
  show Vw mX12_takes0 (d + 1) 0 0 0 0 (ViQ Q) 0 [(0, .ref r), (1, .int c)] [] S (pm I r t l b) L
  refine Vw.aload_n (de_aload_0 (B 0 _ rfl)) 0 rfl (n := 1) rfl ?_
  refine Vw.ivi0 (mi' := mX12_fine) (de_invokevirtual (B 1 _ rfl) (B 2 _ rfl) (B 3 _ rfl)) ml_X12_191 mv_X12_fine hM.k (Nat.le_of_ble_eq_true rfl) (n := 4) rfl (c_X12_fine hM ?_)
  refine Vw.if_eq (tgt := 24) (n := 7) (de_if_eq (B 4 _ rfl) (B 5 _ rfl) (B 6 _ rfl)) rfl rfl (fun c_4 => ?_) (fun c_4 => ?_)
  · refine Vw.iconst (v := 0) (de_iconst_0 (B 24 _ rfl)) rfl (n := 25) rfl ?_
    refine Vw.istore_n (lv2 := [(0, _), (1, _), (2, _)]) (de_istore_2 (B 25 _ rfl)) rfl (by decide) [1, 2, 0] rfl (n := 26) rfl ?_
    refine Vw.iload_n (de_iload_2 (B 26 _ rfl)) 2 rfl (n := 27) rfl ?_
    refine Vw.if_eq (tgt := 40) (n := 30) (de_if_eq (B 27 _ rfl) (B 28 _ rfl) (B 29 _ rfl)) rfl rfl (fun c_27 => ?_) (fun c_27 => ?_)
    · refine Vw.iload_n (de_iload_2 (B 40 _ rfl)) 2 rfl (n := 41) rfl ?_
      exact Vw.zret (de_ireturn (B 41 _ rfl)) rfl rfl ⟨_, rfl, h⟩
    exact absurd rfl c_27
  exact absurd (zF0 hb) c_4
theorem c_X12_faults_nf {d : Nat} {S : vS} {I : vI} {L : vL} {Q : vS → vI → vL → Prop} {r : Nat}  {t l b : Int32} (hM : MS S r) (hb : ¬ b = -1) (h : Q S (pm I r t l b) L) : Vc mX12_faults (d + 1) 0 0 [.ref r] S (pm I r t l b) L (VvQ Q) := by
  refine Vc.of rfl (Nat.le_of_ble_eq_true rfl) ?_
  have B := bs_X12_faults
  show Vw mX12_faults (d + 1) 0 0 0 0 (VvQ Q) 0 [(0, .ref r)] [] S (pm I r t l b) L
  refine Vw.aload_n (de_aload_0 (B 0 _ rfl)) 0 rfl (n := 1) rfl ?_
  refine Vw.ivi0 (mi' := mX12_fine) (de_invokevirtual (B 1 _ rfl) (B 2 _ rfl) (B 3 _ rfl)) ml_X12_191 mv_X12_fine hM.k (Nat.le_of_ble_eq_true rfl) (n := 4) rfl (c_X12_fine hM ?_)
  refine Vw.if_eq (tgt := 20) (n := 7) (de_if_eq (B 4 _ rfl) (B 5 _ rfl) (B 6 _ rfl)) rfl rfl (fun c_4 => ?_) (fun c_4 => ?_)
  · exact Vw.vret (de_return_ (B 20 _ rfl)) rfl ⟨rfl, h⟩
  exact absurd (zF0 hb) c_4
theorem c_X12_must_nf {d : Nat} {S : vS} {I : vI} {L : vL} {Q : vS → vI → vL → Prop} {r : Nat} {c : Int32} {t l b : Int32} (hM : MS S r) (hb : ¬ b = -1) (h : Q S (pm I r t l b) L) : Vc mX12_must (d + 2) 0 0 [.ref r, .int c] S (pm I r t l b) L (VvQ Q) := by
  refine Vc.of rfl (Nat.le_of_ble_eq_true rfl) ?_
  have B := bs_X12_must
  show Vw mX12_must (d + 2) 0 0 0 0 (VvQ Q) 0 [(0, .ref r), (1, .int c)] [] S (pm I r t l b) L
  refine Vw.aload_n (de_aload_0 (B 0 _ rfl)) 0 rfl (n := 1) rfl ?_
  refine Vw.iload_n (de_iload_1 (B 1 _ rfl)) 1 rfl (n := 2) rfl ?_
  refine Vw.ivi1 (mi' := mX12_takes0) (de_invokevirtual (B 2 _ rfl) (B 3 _ rfl) (B 4 _ rfl)) ml_X12_198 mv_X12_takes0 hM.k (Nat.le_of_ble_eq_true rfl) (n := 5) rfl (c_X12_takes0_nf hM hb ?_)
  refine Vw.if_ne (tgt := 12) (n := 8) (de_if_ne (B 5 _ rfl) (B 6 _ rfl) (B 7 _ rfl)) rfl rfl (fun c_5 => ?_) (fun c_5 => ?_)
  · exact absurd rfl c_5
  refine Vw.aload_n (de_aload_0 (B 8 _ rfl)) 0 rfl (n := 9) rfl ?_
  refine Vw.ivv0 (mi' := mX12_faults) (de_invokevirtual (B 9 _ rfl) (B 10 _ rfl) (B 11 _ rfl)) ml_X12_201 mv_X12_faults hM.k (Nat.le_of_ble_eq_true rfl) (n := 12) rfl (c_X12_faults_nf hM hb ?_)
  exact Vw.vret (de_return_ (B 12 _ rfl)) rfl ⟨rfl, h⟩
theorem c_X12_mustNumber {d : Nat} {S : vS} {I : vI} {L : vL} {Q : vS → vI → vL → Prop} {r : Nat} {lo hi : Int32} {l b : Int32} {nt i : Nat} (hM : MS S r) (hp : pOk I r nt) (hi2 : i ≤ nt) (h1 : b = -1 → I (r + 9) i = 50 → ¬ zLie (I (r + 10) i) lo hi = 0 → Q S (pm I r (nI (i + 1)) l b) L) (h2 : b = -1 → ¬ (I (r + 9) i = 50 ∧ ¬ zLie (I (r + 10) i) lo hi = 0) → Q S (pm I r (nI i) l (I (r + 11) i)) L) (h3 : ¬ b = -1 → Q S (pm I r (nI i) l b) L) : Vc mX12_mustNumber (d + 2) 0 0 [.ref r, .int lo, .int hi] S (pm I r (nI i) l b) L (VvQ Q) := by
  refine Vc.of rfl (Nat.le_of_ble_eq_true rfl) ?_
  have B := bs_X12_mustNumber
  show Vw mX12_mustNumber (d + 2) 0 0 0 0 (VvQ Q) 0 [(0, .ref r), (1, .int lo), (2, .int hi)] [] S (pm I r (nI i) l b) L
  have two : ∀ b2 : Int32, (b2 = -1 → Q S (pm I r (nI (i + 1)) l b2) L) → (¬ b2 = -1 → Q S (pm I r (nI i) l b2) L) → Vw mX12_mustNumber (d + 2) 0 0 0 0 (VvQ Q) 42 [(0, .ref r), (1, .int lo), (2, .int hi)] [] S (pm I r (nI i) l b2) L := by
    intro b2 g1 g2
    refine Vw.aload_n (de_aload_0 (B 42 _ rfl)) 0 rfl (n := 43) rfl ?_
    refine Vw.ivi0 (mi' := mX12_fine) (de_invokevirtual (B 43 _ rfl) (B 44 _ rfl) (B 45 _ rfl)) ml_X12_191 mv_X12_fine hM.k (Nat.le_of_ble_eq_true rfl) (n := 46) rfl (c_X12_fine hM ?_)
    refine Vw.if_eq (tgt := 59) (n := 49) (de_if_eq (B 46 _ rfl) (B 47 _ rfl) (B 48 _ rfl)) rfl rfl (fun c_46 => ?_) (fun c_46 => ?_)
    · exact Vw.vret (de_return_ (B 59 _ rfl)) rfl ⟨rfl, (by first | exact g2 (fun q => absurd c_46 (by rw [q]; decide)) | (rw [pm_ut]; exact g1 (by rcases Classical.em (b2 = -1) with q | q; exact q; exact absurd (zF0 q) c_46)))⟩
    refine Vw.aload_n (de_aload_0 (B 49 _ rfl)) 0 rfl (n := 50) rfl ?_
    refine Vw.dup (de_dup (B 50 _ rfl)) rfl (n := 51) rfl ?_
    refine Vw.getI (de_getfield (B 51 _ rfl) (B 52 _ rfl) (B 53 _ rfl)) fl_X12_195 rfl hM.k (n := 54) rfl ?_
    rw [pm_t]
    refine Vw.iconst (v := 1) (de_iconst_1 (B 54 _ rfl)) rfl (n := 55) rfl ?_
    refine Vw.iadd (de_iadd (B 55 _ rfl)) (n := 56) rfl ?_
    rw [nI_1]
    refine Vw.putI (de_putfield (B 56 _ rfl) (B 57 _ rfl) (B 58 _ rfl)) fl_X12_195 hM.k rfl rfl (n := 59) rfl ?_
    exact Vw.vret (de_return_ (B 59 _ rfl)) rfl ⟨rfl, (by first | exact g2 (fun q => absurd c_46 (by rw [q]; decide)) | (rw [pm_ut]; exact g1 (by rcases Classical.em (b2 = -1) with q | q; exact q; exact absurd (zF0 q) c_46)))⟩
  refine Vw.aload_n (de_aload_0 (B 0 _ rfl)) 0 rfl (n := 1) rfl ?_
  refine Vw.ivi0 (mi' := mX12_fine) (de_invokevirtual (B 1 _ rfl) (B 2 _ rfl) (B 3 _ rfl)) ml_X12_191 mv_X12_fine hM.k (Nat.le_of_ble_eq_true rfl) (n := 4) rfl (c_X12_fine hM ?_)
  refine Vw.if_eq (tgt := 42) (n := 7) (de_if_eq (B 4 _ rfl) (B 5 _ rfl) (B 6 _ rfl)) rfl rfl (fun c_4 => ?_) (fun c_4 => ?_)
  · first
    | (refine two _ (fun q => absurd q ?_) h3; intro q2; rw [q2] at c_4; exact absurd c_4 (by decide))
    | exact two _ (fun q => h1 q c_18 c_35) (fun q => absurd hb q)
    | exact two _ (fun q => absurd q (hp.2.2 i hi2)) (fun _ => h2 hb (fun z => by first | exact c_18 z.1 | exact z.2 c_35))
  have hb : b = -1 := by rcases Classical.em (b = -1) with q | q; exact q; exact absurd (zF0 q) c_4
  refine Vw.aload_n (de_aload_0 (B 7 _ rfl)) 0 rfl (n := 8) rfl ?_
  refine Vw.getR (de_getfield (B 8 _ rfl) (B 9 _ rfl) (B 10 _ rfl)) fl_X12_50 rfl hM.k (MS_code hM).1 (n := 11) rfl ?_
  refine Vw.aload_n (de_aload_0 (B 11 _ rfl)) 0 rfl (n := 12) rfl ?_
  refine Vw.getI (de_getfield (B 12 _ rfl) (B 13 _ rfl) (B 14 _ rfl)) fl_X12_195 rfl hM.k (n := 15) rfl ?_
  rw [pm_t]
  refine Vw.iald (de_iaload (B 15 _ rfl)) (MS_code hM).2 (vIx_nI (j := i) (by have := hp.1; omega) (by decide)) (n := 16) rfl ?_
  rw [pm_o (by omega)]
  refine Vw.bipush (v := 50) (de_bipush (B 16 _ rfl) (B 17 _ rfl)) rfl (n := 18) rfl ?_
  refine Vw.icmp_ne (tgt := 38) (n := 21) (de_icmp_ne (B 18 _ rfl) (B 19 _ rfl) (B 20 _ rfl)) rfl rfl (fun c_18 => ?_) (fun c_18 => ?_)
  · refine Vw.aload_n (de_aload_0 (B 38 _ rfl)) 0 rfl (n := 39) rfl ?_
    refine Vw.ivv0 (mi' := mX12_faults) (de_invokevirtual (B 39 _ rfl) (B 40 _ rfl) (B 41 _ rfl)) ml_X12_201 mv_X12_faults hM.k (Nat.le_of_ble_eq_true rfl) (n := 42) rfl (c_X12_faults hM hp hi2 (fun _ => ?_) (fun q => absurd hb q))
    first
    | (refine two _ (fun q => absurd q ?_) h3; intro q2; rw [q2] at c_4; exact absurd c_4 (by decide))
    | exact two _ (fun q => h1 q c_18 c_35) (fun q => absurd hb q)
    | exact two _ (fun q => absurd q (hp.2.2 i hi2)) (fun _ => h2 hb (fun z => by first | exact c_18 z.1 | exact z.2 c_35))
  refine Vw.aload_n (de_aload_0 (B 21 _ rfl)) 0 rfl (n := 22) rfl ?_
  refine Vw.getR (de_getfield (B 22 _ rfl) (B 23 _ rfl) (B 24 _ rfl)) fl_X12_53 rfl hM.k (MS_value hM).1 (n := 25) rfl ?_
  refine Vw.aload_n (de_aload_0 (B 25 _ rfl)) 0 rfl (n := 26) rfl ?_
  refine Vw.getI (de_getfield (B 26 _ rfl) (B 27 _ rfl) (B 28 _ rfl)) fl_X12_195 rfl hM.k (n := 29) rfl ?_
  rw [pm_t]
  refine Vw.iald (de_iaload (B 29 _ rfl)) (MS_value hM).2 (vIx_nI (j := i) (by have := hp.1; omega) (by decide)) (n := 30) rfl ?_
  rw [pm_o (by omega)]
  refine Vw.iload_n (de_iload_1 (B 30 _ rfl)) 1 rfl (n := 31) rfl ?_
  refine Vw.iload_n (de_iload_2 (B 31 _ rfl)) 2 rfl (n := 32) rfl ?_
  refine Vw.isi3 (mi' := mX12_lies) (de_invokestatic (B 32 _ rfl) (B 33 _ rfl) (B 34 _ rfl)) ml_X12_111 ms_X12_lies (Nat.le_of_ble_eq_true rfl) (n := 35) rfl (c_X12_lies ?_)
  refine Vw.if_ne (tgt := 42) (n := 38) (de_if_ne (B 35 _ rfl) (B 36 _ rfl) (B 37 _ rfl)) rfl rfl (fun c_35 => ?_) (fun c_35 => ?_)
  · first
    | (refine two _ (fun q => absurd q ?_) h3; intro q2; rw [q2] at c_4; exact absurd c_4 (by decide))
    | exact two _ (fun q => h1 q c_18 c_35) (fun q => absurd hb q)
    | exact two _ (fun q => absurd q (hp.2.2 i hi2)) (fun _ => h2 hb (fun z => by first | exact c_18 z.1 | exact z.2 c_35))
  refine Vw.aload_n (de_aload_0 (B 38 _ rfl)) 0 rfl (n := 39) rfl ?_
  refine Vw.ivv0 (mi' := mX12_faults) (de_invokevirtual (B 39 _ rfl) (B 40 _ rfl) (B 41 _ rfl)) ml_X12_201 mv_X12_faults hM.k (Nat.le_of_ble_eq_true rfl) (n := 42) rfl (c_X12_faults hM hp hi2 (fun _ => ?_) (fun q => absurd hb q))
  first
  | (refine two _ (fun q => absurd q ?_) h3; intro q2; rw [q2] at c_4; exact absurd c_4 (by decide))
  | exact two _ (fun q => h1 q c_18 c_35) (fun q => absurd hb q)
  | exact two _ (fun q => absurd q (hp.2.2 i hi2)) (fun _ => h2 hb (fun z => by first | exact c_18 z.1 | exact z.2 c_35))
/-- what a reading method does: by the parser P, from a token i with l PARTS so far -/
def RC (mi : vM) (D dp : Nat) (P : (Nat → Int32) → (Nat → Int32) → Bool → Nat → Nat → tR tD) : Prop :=
  ∀ (d : Nat) (S : vS) (I : vI) (L : vL) (Q : vS → vI → vL → Prop) (r nt i l : Nat), MS S r → pOk I r nt → i ≤ nt → l ≤ 50 →
    (∀ j l2 dn, P (I (r + 9)) (I (r + 10)) (decide (¬ I r 8 = 0)) i l = .ok (j, l2, dn) → i ≤ j → j ≤ nt → l2 ≤ 50 → Q S (pm I r (nI j) (nI l2) (-1)) L) →
    (∀ f t l2, P (I (r + 9)) (I (r + 10)) (decide (¬ I r 8 = 0)) i l = .error f → f ≤ nt → Q S (pm I r t l2 (I (r + 11) f)) L) →
    Vc mi (d + D) 0 0 [.ref r, .int (nI dp)] S (pm I r (nI i) (nI l) (-1)) L (VvQ Q)
def RN (mi : vM) (D : Nat) : Prop := ∀ (d : Nat) (S : vS) (I : vI) (L : vL) (Q : vS → vI → vL → Prop) (r : Nat) (t l b x : Int32), MS S r → ¬ b = -1 → Q S (pm I r t l b) L → Vc mi (d + D) 0 0 [.ref r, .int x] S (pm I r t l b) L (VvQ Q)
theorem rn_X12_readPart : RN mX12_readPart 1 := by
  intro d S I L Q r t l b x hM hb h
  refine Vc.of rfl (Nat.le_of_ble_eq_true rfl) ?_
  have B := bs_X12_readPart
  show Vw mX12_readPart (d + 1) 0 0 0 0 (VvQ Q) 0 [(0, .ref r), (1, .int x)] [] S (pm I r t l b) L
  refine Vw.aload_n (de_aload_0 (B 0 _ rfl)) 0 rfl (n := 1) rfl ?_
  refine Vw.ivi0 (mi' := mX12_fine) (de_invokevirtual (B 1 _ rfl) (B 2 _ rfl) (B 3 _ rfl)) ml_X12_191 mv_X12_fine hM.k (Nat.le_of_ble_eq_true rfl) (n := 4) rfl (c_X12_fine hM ?_)
  refine Vw.if_ne (tgt := 8) (n := 7) (de_if_ne (B 4 _ rfl) (B 5 _ rfl) (B 6 _ rfl)) rfl rfl (fun c_4 => ?_) (fun c_4 => ?_)
  · exact absurd (zF0 hb) c_4
  exact Vw.vret (de_return_ (B 7 _ rfl)) rfl ⟨rfl, h⟩
theorem rn_X12_readTerm : RN mX12_readTerm 2 := by
  intro d S I L Q r t l b x hM hb h
  refine Vc.of rfl (Nat.le_of_ble_eq_true rfl) ?_
  have B := bs_X12_readTerm
  show Vw mX12_readTerm (d + 2) 0 0 0 0 (VvQ Q) 0 [(0, .ref r), (1, .int x)] [] S (pm I r t l b) L
  refine Vw.aload_n (de_aload_0 (B 0 _ rfl)) 0 rfl (n := 1) rfl ?_
  refine Vw.iload_n (de_iload_1 (B 1 _ rfl)) 1 rfl (n := 2) rfl ?_
  refine Vw.ivv1 (mi' := mX12_readPart) (de_invokevirtual (B 2 _ rfl) (B 3 _ rfl) (B 4 _ rfl)) ml_X12_246 mv_X12_readPart hM.k (Nat.le_of_ble_eq_true rfl) (n := 5) rfl (rn_X12_readPart _ _ _ _ _ _ _ _ _ _ hM hb ?_)
  refine Vw.aload_n (de_aload_0 (B 5 _ rfl)) 0 rfl (n := 6) rfl ?_
  refine Vw.bipush (v := 42) (de_bipush (B 6 _ rfl) (B 7 _ rfl)) rfl (n := 8) rfl ?_
  refine Vw.isi1 (mi' := mX12_sign) (de_invokestatic (B 8 _ rfl) (B 9 _ rfl) (B 10 _ rfl)) ml_X12_239 ms_X12_sign (Nat.le_of_ble_eq_true rfl) (n := 11) rfl (c_X12_sign ?_)
  refine Vw.ivi1 (mi' := mX12_takes0) (de_invokevirtual (B 11 _ rfl) (B 12 _ rfl) (B 13 _ rfl)) ml_X12_198 mv_X12_takes0 hM.k (Nat.le_of_ble_eq_true rfl) (n := 14) rfl (c_X12_takes0_nf hM hb ?_)
  refine Vw.if_ne (tgt := 41) (n := 17) (de_if_ne (B 14 _ rfl) (B 15 _ rfl) (B 16 _ rfl)) rfl rfl (fun c_14 => ?_) (fun c_14 => ?_)
  · exact absurd rfl c_14
  refine Vw.aload_n (de_aload_0 (B 17 _ rfl)) 0 rfl (n := 18) rfl ?_
  refine Vw.bipush (v := 47) (de_bipush (B 18 _ rfl) (B 19 _ rfl)) rfl (n := 20) rfl ?_
  refine Vw.isi1 (mi' := mX12_sign) (de_invokestatic (B 20 _ rfl) (B 21 _ rfl) (B 22 _ rfl)) ml_X12_239 ms_X12_sign (Nat.le_of_ble_eq_true rfl) (n := 23) rfl (c_X12_sign ?_)
  refine Vw.ivi1 (mi' := mX12_takes0) (de_invokevirtual (B 23 _ rfl) (B 24 _ rfl) (B 25 _ rfl)) ml_X12_198 mv_X12_takes0 hM.k (Nat.le_of_ble_eq_true rfl) (n := 26) rfl (c_X12_takes0_nf hM hb ?_)
  refine Vw.if_ne (tgt := 41) (n := 29) (de_if_ne (B 26 _ rfl) (B 27 _ rfl) (B 28 _ rfl)) rfl rfl (fun c_26 => ?_) (fun c_26 => ?_)
  · exact absurd rfl c_26
  refine Vw.aload_n (de_aload_0 (B 29 _ rfl)) 0 rfl (n := 30) rfl ?_
  refine Vw.bipush (v := 37) (de_bipush (B 30 _ rfl) (B 31 _ rfl)) rfl (n := 32) rfl ?_
  refine Vw.isi1 (mi' := mX12_sign) (de_invokestatic (B 32 _ rfl) (B 33 _ rfl) (B 34 _ rfl)) ml_X12_239 ms_X12_sign (Nat.le_of_ble_eq_true rfl) (n := 35) rfl (c_X12_sign ?_)
  refine Vw.ivi1 (mi' := mX12_takes0) (de_invokevirtual (B 35 _ rfl) (B 36 _ rfl) (B 37 _ rfl)) ml_X12_198 mv_X12_takes0 hM.k (Nat.le_of_ble_eq_true rfl) (n := 38) rfl (c_X12_takes0_nf hM hb ?_)
  refine Vw.if_eq (tgt := 49) (n := 41) (de_if_eq (B 38 _ rfl) (B 39 _ rfl) (B 40 _ rfl)) rfl rfl (fun c_38 => ?_) (fun c_38 => ?_)
  · exact Vw.vret (de_return_ (B 49 _ rfl)) rfl ⟨rfl, h⟩
  exact absurd rfl c_38
theorem rn_X12_readSum : RN mX12_readSum 3 := by
  intro d S I L Q r t l b x hM hb h
  refine Vc.of rfl (Nat.le_of_ble_eq_true rfl) ?_
  have B := bs_X12_readSum
  show Vw mX12_readSum (d + 3) 0 0 0 0 (VvQ Q) 0 [(0, .ref r), (1, .int x)] [] S (pm I r t l b) L
  refine Vw.aload_n (de_aload_0 (B 0 _ rfl)) 0 rfl (n := 1) rfl ?_
  refine Vw.iload_n (de_iload_1 (B 1 _ rfl)) 1 rfl (n := 2) rfl ?_
  refine Vw.ivv1 (mi' := mX12_readTerm) (de_invokevirtual (B 2 _ rfl) (B 3 _ rfl) (B 4 _ rfl)) ml_X12_243 mv_X12_readTerm hM.k (Nat.le_of_ble_eq_true rfl) (n := 5) rfl (rn_X12_readTerm _ _ _ _ _ _ _ _ _ _ hM hb ?_)
  refine Vw.aload_n (de_aload_0 (B 5 _ rfl)) 0 rfl (n := 6) rfl ?_
  refine Vw.bipush (v := 43) (de_bipush (B 6 _ rfl) (B 7 _ rfl)) rfl (n := 8) rfl ?_
  refine Vw.isi1 (mi' := mX12_sign) (de_invokestatic (B 8 _ rfl) (B 9 _ rfl) (B 10 _ rfl)) ml_X12_239 ms_X12_sign (Nat.le_of_ble_eq_true rfl) (n := 11) rfl (c_X12_sign ?_)
  refine Vw.ivi1 (mi' := mX12_takes0) (de_invokevirtual (B 11 _ rfl) (B 12 _ rfl) (B 13 _ rfl)) ml_X12_198 mv_X12_takes0 hM.k (Nat.le_of_ble_eq_true rfl) (n := 14) rfl (c_X12_takes0_nf hM hb ?_)
  refine Vw.if_ne (tgt := 29) (n := 17) (de_if_ne (B 14 _ rfl) (B 15 _ rfl) (B 16 _ rfl)) rfl rfl (fun c_14 => ?_) (fun c_14 => ?_)
  · exact absurd rfl c_14
  refine Vw.aload_n (de_aload_0 (B 17 _ rfl)) 0 rfl (n := 18) rfl ?_
  refine Vw.bipush (v := 45) (de_bipush (B 18 _ rfl) (B 19 _ rfl)) rfl (n := 20) rfl ?_
  refine Vw.isi1 (mi' := mX12_sign) (de_invokestatic (B 20 _ rfl) (B 21 _ rfl) (B 22 _ rfl)) ml_X12_239 ms_X12_sign (Nat.le_of_ble_eq_true rfl) (n := 23) rfl (c_X12_sign ?_)
  refine Vw.ivi1 (mi' := mX12_takes0) (de_invokevirtual (B 23 _ rfl) (B 24 _ rfl) (B 25 _ rfl)) ml_X12_198 mv_X12_takes0 hM.k (Nat.le_of_ble_eq_true rfl) (n := 26) rfl (c_X12_takes0_nf hM hb ?_)
  refine Vw.if_eq (tgt := 37) (n := 29) (de_if_eq (B 26 _ rfl) (B 27 _ rfl) (B 28 _ rfl)) rfl rfl (fun c_26 => ?_) (fun c_26 => ?_)
  · exact Vw.vret (de_return_ (B 37 _ rfl)) rfl ⟨rfl, h⟩
  exact absurd rfl c_26
