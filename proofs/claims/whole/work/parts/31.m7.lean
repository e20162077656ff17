/-! The reference's reading: its state is token, leaves, bad beside what does not change -/
def pm (I : vI) (r : Nat) (t l b : Int32) : vI := fun a k => if a = r ∧ k = 17 then t else if a = r ∧ k = 18 then l else if a = r ∧ k = 19 then b else I a k
theorem pm_t {I : vI} {r : Nat} {t l b : Int32} : pm I r t l b r 17 = t := by simp [pm]
theorem pm_l {I : vI} {r : Nat} {t l b : Int32} : pm I r t l b r 18 = l := by simp [pm]
theorem pm_b {I : vI} {r : Nat} {t l b : Int32} : pm I r t l b r 19 = b := by simp [pm]
theorem pm_o {I : vI} {r : Nat} {t l b : Int32} {a k : Nat} (h : a ≠ r) : pm I r t l b a k = I a k := by simp [pm, h]
theorem pm_k {I : vI} {r : Nat} {t l b : Int32} {a k : Nat} (h1 : k ≠ 17) (h2 : k ≠ 18) (h3 : k ≠ 19) : pm I r t l b a k = I a k := by simp [pm, h1, h2, h3]
theorem pm_ut {I : vI} {r : Nat} {t l b x : Int32} : up2 (pm I r t l b) r 17 x = pm I r x l b := by funext a k; simp only [up2, pm]; split <;> simp_all
theorem pm_ul {I : vI} {r : Nat} {t l b x : Int32} : up2 (pm I r t l b) r 18 x = pm I r t x b := by
  funext a k; simp only [up2, pm]
  by_cases h1 : a = r ∧ k = 18
  · obtain ⟨rfl, rfl⟩ := h1; simp
  · simp [h1]
theorem pm_ub {I : vI} {r : Nat} {t l b x : Int32} : up2 (pm I r t l b) r 19 x = pm I r t l x := by
  funext a k; simp only [up2, pm]
  by_cases h1 : a = r ∧ k = 19
  · obtain ⟨rfl, rfl⟩ := h1; simp
  · simp [h1]
theorem pm_self (I : vI) (r : Nat) : pm I r (I r 17) (I r 18) (I r 19) = I := by
  funext a k; simp only [pm]
  by_cases h1 : a = r ∧ k = 17
  · obtain ⟨rfl, rfl⟩ := h1; simp
  · rw [if_neg h1]
    by_cases h2 : a = r ∧ k = 18
    · obtain ⟨rfl, rfl⟩ := h2; simp
    · rw [if_neg h2]
      by_cases h3 : a = r ∧ k = 19
      · obtain ⟨rfl, rfl⟩ := h3; simp
      · rw [if_neg h3]
def pOk (I : vI) (r nt : Nat) : Prop := nt ≤ 400 ∧ I (r + 9) nt = 0 ∧ ∀ f, f ≤ nt → ¬ I (r + 11) f = -1
def zFine (b : Int32) : Int32 := if b = -1 then 1 else 0
theorem c_X12_fine {d : Nat} {S : vS} {I : vI} {L : vL} {Q : Int32 → vS → vI → vL → Prop} {r : Nat}  {t l b : Int32} (hM : MS S r)  (h : Q (zFine b) S (pm I r t l b) L) : Vc mX12_fine d 0 0 [.ref r] S (pm I r t l b) L (ViQ Q) := by
  refine Vc.of rfl (Nat.le_of_ble_eq_true rfl) ?_
  have B := bs_X12_fine
  show Vw mX12_fine d 0 0 0 0 (ViQ Q) 0 [(0, .ref r)] [] S (pm I r t l b) L
  refine Vw.aload_n (de_aload_0 (B 0 _ rfl)) 0 rfl (n := 1) rfl ?_
  refine Vw.getI (de_getfield (B 1 _ rfl) (B 2 _ rfl) (B 3 _ rfl)) fl_X12_188 rfl hM.k (n := 4) rfl ?_
  rw [pm_b]
  refine Vw.iconst (v := -1) (de_iconst_m1 (B 4 _ rfl)) rfl (n := 5) rfl ?_
  refine Vw.icmp_ne (tgt := 12) (n := 8) (de_icmp_ne (B 5 _ rfl) (B 6 _ rfl) (B 7 _ rfl)) rfl rfl (fun c_5 => ?_) (fun c_5 => ?_)
  · refine Vw.iconst (v := 0) (de_iconst_0 (B 12 _ rfl)) rfl (n := 13) rfl ?_
    exact Vw.zret (de_ireturn (B 13 _ rfl)) rfl rfl ⟨_, rfl, (by simpa [zFine, c_5] using h)⟩
  refine Vw.iconst (v := 1) (de_iconst_1 (B 8 _ rfl)) rfl (n := 9) rfl ?_
  refine Vw.goto_ (n := 13) (de_goto_ (B 9 _ rfl) (B 10 _ rfl) (B 11 _ rfl)) rfl ?_
  exact Vw.zret (de_ireturn (B 13 _ rfl)) rfl rfl ⟨_, rfl, (by simpa [zFine, c_5] using h)⟩
theorem c_X12_faults {d : Nat} {S : vS} {I : vI} {L : vL} {Q : vS → vI → vL → Prop} {r : Nat}  {l b : Int32} {nt i : Nat} (hM : MS S r) (hp : pOk I r nt) (hi : i ≤ nt) (h1 : b = -1 → Q S (pm I r (nI i) l (I (r + 11) i)) L) (h2 : ¬ b = -1 → Q S (pm I r (nI i) l b) L) : Vc mX12_faults (d + 1) 0 0 [.ref r] S (pm I r (nI i) l b) L (VvQ Q) := by
  refine Vc.of rfl (Nat.le_of_ble_eq_true rfl) ?_
  have B := bs_X12_faults
  show Vw mX12_faults (d + 1) 0 0 0 0 (VvQ Q) 0 [(0, .ref r)] [] S (pm I r (nI i) l b) L
  refine Vw.aload_n (de_aload_0 (B 0 _ rfl)) 0 rfl (n := 1) rfl ?_
  refine Vw.ivi0 (mi' := mX12_fine) (de_invokevirtual (B 1 _ rfl) (B 2 _ rfl) (B 3 _ rfl)) ml_X12_191 mv_X12_fine hM.k (Nat.le_of_ble_eq_true rfl) (n := 4) rfl (c_X12_fine hM ?_)
  refine Vw.if_eq (tgt := 20) (n := 7) (de_if_eq (B 4 _ rfl) (B 5 _ rfl) (B 6 _ rfl)) rfl rfl (fun c_4 => ?_) (fun c_4 => ?_)
  · skip
    exact Vw.vret (de_return_ (B 20 _ rfl)) rfl ⟨rfl, (by first | exact h2 (by intro q; subst q; exact absurd c_4 (by decide)) | (rw [pm_ub]; exact h1 (by rcases Classical.em (b = -1) with q | q; exact q; exact absurd (by simp [zFine, q]) c_4)))⟩
  refine Vw.aload_n (de_aload_0 (B 7 _ rfl)) 0 rfl (n := 8) rfl ?_
  refine Vw.aload_n (de_aload_0 (B 8 _ rfl)) 0 rfl (n := 9) rfl ?_
  refine Vw.getR (de_getfield (B 9 _ rfl) (B 10 _ rfl) (B 11 _ rfl)) fl_X12_56 rfl hM.k (MS_placed hM).1 (n := 12) rfl ?_
  refine Vw.aload_n (de_aload_0 (B 12 _ rfl)) 0 rfl (n := 13) rfl ?_
  refine Vw.getI (de_getfield (B 13 _ rfl) (B 14 _ rfl) (B 15 _ rfl)) fl_X12_195 rfl hM.k (n := 16) rfl ?_
  rw [pm_t]
  refine Vw.iald (de_iaload (B 16 _ rfl)) (MS_placed hM).2 (vIx_nI (j := i) (by have := hp.1; omega) (by decide)) (n := 17) rfl ?_
  rw [pm_o (by omega)]
  refine Vw.putI (de_putfield (B 17 _ rfl) (B 18 _ rfl) (B 19 _ rfl)) fl_X12_188 hM.k rfl rfl (n := 20) rfl ?_
  skip
  exact Vw.vret (de_return_ (B 20 _ rfl)) rfl ⟨rfl, (by first | exact h2 (by intro q; subst q; exact absurd c_4 (by decide)) | (rw [pm_ub]; exact h1 (by rcases Classical.em (b = -1) with q | q; exact q; exact absurd (by simp [zFine, q]) c_4)))⟩
theorem c_X12_takes0 {d : Nat} {S : vS} {I : vI} {L : vL} {Q : Int32 → vS → vI → vL → Prop} {r : Nat} {c : Int32} {l b : Int32} {nt i : Nat} (hM : MS S r) (hp : pOk I r nt) (hi : i ≤ nt) (h1 : b = -1 → I (r + 9) i = c → Q 1 S (pm I r (nI (i + 1)) l b) L) (h2 : (b = -1 → ¬ I (r + 9) i = c) → Q 0 S (pm I r (nI i) l b) L) : Vc mX12_takes0 (d + 1) 0 0 [.ref r, .int c] S (pm I r (nI i) l b) L (ViQ Q) := by
  refine Vc.of rfl (Nat.le_of_ble_eq_true rfl) ?_
  have B := bs_X12_takes0
  show Vw mX12_takes0 (d + 1) 0 0 0 0 (ViQ Q) 0 [(0, .ref r), (1, .int c)] [] S (pm I r (nI i) l b) L
  have no : (b = -1 → ¬ I (r + 9) i = c) → Vw mX12_takes0 (d + 1) 0 0 0 0 (ViQ Q) 24 [(0, .ref r), (1, .int c)] [] S (pm I r (nI i) l b) L := by
    intro hn
    refine Vw.iconst (v := 0) (de_iconst_0 (B 24 _ rfl)) rfl (n := 25) rfl ?_
    refine Vw.istore_n (lv2 := [(0, _), (1, _), (2, _)]) (de_istore_2 (B 25 _ rfl)) rfl (by decide) [1, 2, 0] rfl (n := 26) rfl ?_
    refine Vw.iload_n (de_iload_2 (B 26 _ rfl)) 2 rfl (n := 27) rfl ?_
    refine Vw.if_eq (tgt := 40) (n := 30) (de_if_eq (B 27 _ rfl) (B 28 _ rfl) (B 29 _ rfl)) rfl rfl (fun c_27 => ?_) (fun c_27 => ?_)
    · refine Vw.iload_n (de_iload_2 (B 40 _ rfl)) 2 rfl (n := 41) rfl ?_
      exact Vw.zret (de_ireturn (B 41 _ rfl)) rfl rfl ⟨_, rfl, (h2 hn)⟩
    exact absurd rfl c_27
  refine Vw.aload_n (de_aload_0 (B 0 _ rfl)) 0 rfl (n := 1) rfl ?_
  refine Vw.ivi0 (mi' := mX12_fine) (de_invokevirtual (B 1 _ rfl) (B 2 _ rfl) (B 3 _ rfl)) ml_X12_191 mv_X12_fine hM.k (Nat.le_of_ble_eq_true rfl) (n := 4) rfl (c_X12_fine hM ?_)
  refine Vw.if_eq (tgt := 24) (n := 7) (de_if_eq (B 4 _ rfl) (B 5 _ rfl) (B 6 _ rfl)) rfl rfl (fun c_4 => ?_) (fun c_4 => ?_)
  · refine no (fun q e => ?_)
    first | exact c_17 e | (subst q; exact absurd c_4 (by decide))
  refine Vw.aload_n (de_aload_0 (B 7 _ rfl)) 0 rfl (n := 8) rfl ?_
  refine Vw.getR (de_getfield (B 8 _ rfl) (B 9 _ rfl) (B 10 _ rfl)) fl_X12_50 rfl hM.k (MS_code hM).1 (n := 11) rfl ?_
  refine Vw.aload_n (de_aload_0 (B 11 _ rfl)) 0 rfl (n := 12) rfl ?_
  refine Vw.getI (de_getfield (B 12 _ rfl) (B 13 _ rfl) (B 14 _ rfl)) fl_X12_195 rfl hM.k (n := 15) rfl ?_
  rw [pm_t]
  refine Vw.iald (de_iaload (B 15 _ rfl)) (MS_code hM).2 (vIx_nI (j := i) (by have := hp.1; omega) (by decide)) (n := 16) rfl ?_
  rw [pm_o (by omega)]
  refine Vw.iload_n (de_iload_1 (B 16 _ rfl)) 1 rfl (n := 17) rfl ?_
  refine Vw.icmp_ne (tgt := 24) (n := 20) (de_icmp_ne (B 17 _ rfl) (B 18 _ rfl) (B 19 _ rfl)) rfl rfl (fun c_17 => ?_) (fun c_17 => ?_)
  · refine no (fun q e => ?_)
    first | exact c_17 e | (subst q; exact absurd c_4 (by decide))
  refine Vw.iconst (v := 1) (de_iconst_1 (B 20 _ rfl)) rfl (n := 21) rfl ?_
  refine Vw.goto_ (n := 25) (de_goto_ (B 21 _ rfl) (B 22 _ rfl) (B 23 _ rfl)) rfl ?_
  refine Vw.istore_n (lv2 := [(0, _), (1, _), (2, _)]) (de_istore_2 (B 25 _ rfl)) rfl (by decide) [1, 2, 0] rfl (n := 26) rfl ?_
  refine Vw.iload_n (de_iload_2 (B 26 _ rfl)) 2 rfl (n := 27) rfl ?_
  refine Vw.if_eq (tgt := 40) (n := 30) (de_if_eq (B 27 _ rfl) (B 28 _ rfl) (B 29 _ rfl)) rfl rfl (fun c_27 => ?_) (fun c_27 => ?_)
  · exact absurd c_27 (by decide)
  refine Vw.aload_n (de_aload_0 (B 30 _ rfl)) 0 rfl (n := 31) rfl ?_
  refine Vw.dup (de_dup (B 31 _ rfl)) rfl (n := 32) rfl ?_
  refine Vw.getI (de_getfield (B 32 _ rfl) (B 33 _ rfl) (B 34 _ rfl)) fl_X12_195 rfl hM.k (n := 35) rfl ?_
  rw [pm_t]
  refine Vw.iconst (v := 1) (de_iconst_1 (B 35 _ rfl)) rfl (n := 36) rfl ?_
  refine Vw.iadd (de_iadd (B 36 _ rfl)) (n := 37) rfl ?_
  rw [nI_1]
  refine Vw.putI (de_putfield (B 37 _ rfl) (B 38 _ rfl) (B 39 _ rfl)) fl_X12_195 hM.k rfl rfl (n := 40) rfl ?_
  rw [pm_ut]
  refine Vw.iload_n (de_iload_2 (B 40 _ rfl)) 2 rfl (n := 41) rfl ?_
  exact Vw.zret (de_ireturn (B 41 _ rfl)) rfl rfl ⟨_, rfl, (h1 (by rcases Classical.em (b = -1) with q | q; exact q; exact absurd (by simp [zFine, q]) c_4) c_17)⟩
