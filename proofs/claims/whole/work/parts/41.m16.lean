def mLay (I : vI) (r t nt j : Nat) : vI := fun a x => if a = r + 2 ∧ x = 146 + t then nI nt else if a = r + 2 ∧ 153 + 400 * t ≤ x ∧ x < 153 + 400 * t + j then I (r + 9) (x - (153 + 400 * t)) else if a = r + 2 ∧ 2953 + 400 * t ≤ x ∧ x < 2953 + 400 * t + j then I (r + 10) (x - (2953 + 400 * t)) else I a x
theorem mLay_o {I : vI} {r t nt j a x : Nat} (h : a ≠ r + 2) : mLay I r t nt j a x = I a x := by simp [mLay, h]
theorem mLay_0 {I : vI} {r t nt : Nat} : up2 I (r + 2) (146 + t) (nI nt) = mLay I r t nt 0 := by
  funext a x; unfold up2 mLay
  rw [if_neg (c := a = r + 2 ∧ 153 + 400 * t ≤ x ∧ x < 153 + 400 * t + 0) (by omega), if_neg (c := a = r + 2 ∧ 2953 + 400 * t ≤ x ∧ x < 2953 + 400 * t + 0) (by omega)]
theorem mLay_s {I : vI} {r t nt j : Nat} (ht : t ≤ 6) (hj : j < 400) : up2 (up2 (mLay I r t nt j) (r + 2) (153 + 400 * t + j) (I (r + 9) j)) (r + 2) (2953 + 400 * t + j) (I (r + 10) j) = mLay I r t nt (j + 1) := by
  funext a x
  by_cases ha : a = r + 2
  · subst ha
    by_cases h1 : x = 2953 + 400 * t + j
    · subst h1
      rw [up2_s]
      unfold mLay
      rw [if_neg (by omega), if_neg (by omega), if_pos (by omega)]
      congr 1; omega
    · rw [up2_k h1]
      by_cases h2 : x = 153 + 400 * t + j
      · subst h2
        rw [up2_s]
        unfold mLay
        rw [if_neg (by omega), if_pos (by omega)]
        congr 1; omega
      · rw [up2_k h2]
        unfold mLay
        by_cases h3 : r + 2 = r + 2 ∧ x = 146 + t
        · rw [if_pos h3, if_pos h3]
        · rw [if_neg h3, if_neg h3]
          by_cases h4 : r + 2 = r + 2 ∧ 153 + 400 * t ≤ x ∧ x < 153 + 400 * t + j
          · rw [if_pos h4, if_pos (by omega)]
          · rw [if_neg h4, if_neg (c := r + 2 = r + 2 ∧ 153 + 400 * t ≤ x ∧ x < 153 + 400 * t + (j + 1)) (by omega)]
            by_cases h5 : r + 2 = r + 2 ∧ 2953 + 400 * t ≤ x ∧ x < 2953 + 400 * t + j
            · rw [if_pos h5, if_pos (by omega)]
            · rw [if_neg h5, if_neg (c := r + 2 = r + 2 ∧ 2953 + 400 * t ≤ x ∧ x < 2953 + 400 * t + (j + 1)) (by omega)]
  · rw [up2_a ha, up2_a ha, mLay_o ha, mLay_o ha]
theorem c_X12_lays {d : Nat} {S : vS} {I : vI} {L : vL} {Q : vS → vI → vL → Prop} {r : Nat} {t nt : Nat} (hM : MS S r) (h16 : I r 16 = nI nt) (hnt : nt ≤ 400) (ht : t ≤ 6) (h : Q S (mLay I r t nt nt) L) : Vc mX12_lays d 0 0 [.ref r, .int (nI t)] S I L (VvQ Q) := by
  refine Vc.of rfl (Nat.le_of_ble_eq_true rfl) ?_
  have B := bs_X12_lays
  show Vw mX12_lays d 0 0 0 0 (VvQ Q) 0 [(0, .ref r), (1, .int (nI t))] [] S I L
  have loop : ∀ j, j ≤ nt → Vw mX12_lays d 0 0 0 0 (VvQ Q) 16 [(0, .ref r), (1, .int (nI t)), (2, .int (nI j))] [] S (mLay I r t nt j) L := by
    refine loop_up (fun j hj ih => ?_)
    have e16 : mLay I r t nt j r 16 = nI nt := by rw [mLay_o (by omega)]; exact h16
    refine Vw.iload_n (de_iload_2 (B 16 _ rfl)) 2 rfl (n := 17) rfl ?_
    refine Vw.aload_n (de_aload_0 (B 17 _ rfl)) 0 rfl (n := 18) rfl ?_
    refine Vw.getI (de_getfield (B 18 _ rfl) (B 19 _ rfl) (B 20 _ rfl)) fl_X12_175 rfl hM.k (n := 21) rfl ?_
    rw [e16]
    refine Vw.icmp_ge (tgt := 74) (n := 24) (de_icmp_ge (B 21 _ rfl) (B 22 _ rfl) (B 23 _ rfl)) rfl rfl (fun c_21 => ?_) (fun c_21 => ?_)
    · have z_21 : nt ≤ j := ((nI_leI (a := nt) (b := j) (by omega) (by omega)).mp c_21)
      obtain rfl : j = nt := by omega
      exact Vw.vret (de_return_ (B 74 _ rfl)) rfl ⟨rfl, (by first | exact h | simpa [c_21] using h)⟩
    have z_21 : j < nt := by rcases Nat.lt_or_ge j nt with z | z; exact z; exact absurd ((nI_leI (a := nt) (b := j) (by omega) (by omega)).mpr z) c_21
    refine Vw.aload_n (de_aload_0 (B 24 _ rfl)) 0 rfl (n := 25) rfl ?_
    refine Vw.getR (de_getfield (B 25 _ rfl) (B 26 _ rfl) (B 27 _ rfl)) fl_X12_24 rfl hM.k (MS_kept hM).1 (n := 28) rfl ?_
    refine Vw.sipush (v := 153) (de_sipush (B 28 _ rfl) (B 29 _ rfl) (B 30 _ rfl)) rfl (n := 31) rfl ?_
    refine Vw.sipush (v := 400) (de_sipush (B 31 _ rfl) (B 32 _ rfl) (B 33 _ rfl)) rfl (n := 34) rfl ?_
    refine Vw.iload_n (de_iload_1 (B 34 _ rfl)) 1 rfl (n := 35) rfl ?_
    refine Vw.imul (de_imul (B 35 _ rfl)) (n := 36) rfl ?_
    refine Vw.iadd (de_iadd (B 36 _ rfl)) (n := 37) rfl ?_
    refine Vw.iload_n (de_iload_2 (B 37 _ rfl)) 2 rfl (n := 38) rfl ?_
    refine Vw.iadd (de_iadd (B 38 _ rfl)) (n := 39) rfl ?_
    refine Vw.aload_n (de_aload_0 (B 39 _ rfl)) 0 rfl (n := 40) rfl ?_
    refine Vw.getR (de_getfield (B 40 _ rfl) (B 41 _ rfl) (B 42 _ rfl)) fl_X12_50 rfl hM.k (MS_code hM).1 (n := 43) rfl ?_
    refine Vw.iload_n (de_iload_2 (B 43 _ rfl)) 2 rfl (n := 44) rfl ?_
    refine Vw.iald (de_iaload (B 44 _ rfl)) (MS_code hM).2 (vIx_n (k := j) (by simp only [nI_A, nI_M, Int32.zero_add, Int32.add_zero] <;> rfl) (by omega)) (n := 45) rfl ?_
    rw [mLay_o (by omega)]
    refine Vw.iast (de_iastore (B 45 _ rfl)) (MS_kept hM).2 (vIx_n (k := 153 + 400 * t + j) (by simp only [nI_A, nI_M, Int32.zero_add, Int32.add_zero] <;> rfl) (by omega)) (n := 46) rfl ?_
    refine Vw.aload_n (de_aload_0 (B 46 _ rfl)) 0 rfl (n := 47) rfl ?_
    refine Vw.getR (de_getfield (B 47 _ rfl) (B 48 _ rfl) (B 49 _ rfl)) fl_X12_24 rfl hM.k (MS_kept hM).1 (n := 50) rfl ?_
    refine Vw.sipush (v := 2953) (de_sipush (B 50 _ rfl) (B 51 _ rfl) (B 52 _ rfl)) rfl (n := 53) rfl ?_
    refine Vw.sipush (v := 400) (de_sipush (B 53 _ rfl) (B 54 _ rfl) (B 55 _ rfl)) rfl (n := 56) rfl ?_
    refine Vw.iload_n (de_iload_1 (B 56 _ rfl)) 1 rfl (n := 57) rfl ?_
    refine Vw.imul (de_imul (B 57 _ rfl)) (n := 58) rfl ?_
    refine Vw.iadd (de_iadd (B 58 _ rfl)) (n := 59) rfl ?_
    refine Vw.iload_n (de_iload_2 (B 59 _ rfl)) 2 rfl (n := 60) rfl ?_
    refine Vw.iadd (de_iadd (B 60 _ rfl)) (n := 61) rfl ?_
    refine Vw.aload_n (de_aload_0 (B 61 _ rfl)) 0 rfl (n := 62) rfl ?_
    refine Vw.getR (de_getfield (B 62 _ rfl) (B 63 _ rfl) (B 64 _ rfl)) fl_X12_53 rfl hM.k (MS_value hM).1 (n := 65) rfl ?_
    refine Vw.iload_n (de_iload_2 (B 65 _ rfl)) 2 rfl (n := 66) rfl ?_
    refine Vw.iald (de_iaload (B 66 _ rfl)) (MS_value hM).2 (vIx_n (k := j) (by simp only [nI_A, nI_M, Int32.zero_add, Int32.add_zero] <;> rfl) (by omega)) (n := 67) rfl ?_
    rw [up2_a (by omega), mLay_o (by omega)]
    refine Vw.iast (de_iastore (B 67 _ rfl)) (MS_kept hM).2 (vIx_n (k := 2953 + 400 * t + j) (by simp only [nI_A, nI_M, Int32.zero_add, Int32.add_zero] <;> rfl) (by omega)) (n := 68) rfl ?_
    refine Vw.iinc (v := nI (j + 1)) (lv2 := [(0, _), (1, _), (2, _)]) (de_iinc (B 68 _ rfl) (B 69 _ rfl) (B 70 _ rfl)) 2 rfl (nI_1 j) (by decide) [1, 2, 0] rfl (n := 71) rfl ?_
    refine Vw.goto_ (n := 16) (de_goto_ (B 71 _ rfl) (B 72 _ rfl) (B 73 _ rfl)) rfl ?_
    rw [mLay_s ht (by omega)]
    exact ih z_21
  refine Vw.aload_n (de_aload_0 (B 0 _ rfl)) 0 rfl (n := 1) rfl ?_
  refine Vw.getR (de_getfield (B 1 _ rfl) (B 2 _ rfl) (B 3 _ rfl)) fl_X12_24 rfl hM.k (MS_kept hM).1 (n := 4) rfl ?_
  refine Vw.sipush (v := 146) (de_sipush (B 4 _ rfl) (B 5 _ rfl) (B 6 _ rfl)) rfl (n := 7) rfl ?_
  refine Vw.iload_n (de_iload_1 (B 7 _ rfl)) 1 rfl (n := 8) rfl ?_
  refine Vw.iadd (de_iadd (B 8 _ rfl)) (n := 9) rfl ?_
  refine Vw.aload_n (de_aload_0 (B 9 _ rfl)) 0 rfl (n := 10) rfl ?_
  refine Vw.getI (de_getfield (B 10 _ rfl) (B 11 _ rfl) (B 12 _ rfl)) fl_X12_175 rfl hM.k (n := 13) rfl ?_
  rw [h16]
  refine Vw.iast (de_iastore (B 13 _ rfl)) (MS_kept hM).2 (vIx_n (k := 146 + t) (by simp only [nI_A, nI_M, Int32.zero_add, Int32.add_zero] <;> rfl) (by omega)) (n := 14) rfl ?_
  refine Vw.iconst (v := 0) (de_iconst_0 (B 14 _ rfl)) rfl (n := 15) rfl ?_
  refine Vw.istore_n (lv2 := [(0, _), (1, _), (2, _)]) (de_istore_2 (B 15 _ rfl)) rfl (by decide) [1, 2, 0] rfl (n := 16) rfl ?_
  rw [mLay_0]
  exact loop 0 (Nat.zero_le _)
theorem RD.same {I J : vI} {r n nt : Nat} (h : RD I J r n nt) {a x : Nat} (h1 : a ≠ r + 9) (h2 : a ≠ r + 10) (h3 : a ≠ r + 11) (h4 : ¬ (a = r ∧ x = 16)) (h5 : ¬ (a = r ∧ x = 11)) : J a x = I a x := by
  obtain ⟨I2, hs, rfl⟩ := h
  rw [up2_n h5, tm_o ⟨h1, h2, h3⟩]
  exact hs.1 a x h1 h2 h3 h4
theorem mLay_k {I : vI} {r t nt j x : Nat} (h : x < 146) : mLay I r t nt j (r + 2) x = I (r + 2) x := by
  unfold mLay; rw [if_neg (by omega), if_neg (by omega), if_neg (by omega)]
theorem c_X12_law {d : Nat} {S : vS} {I : vI} {L : vL} {Q : Int32 → vS → vI → vL → Prop} {r : Nat} {n nl : Nat} (hM : MS S r) (ht : I r 11 = nI n) (hn : n ≤ 400) (hW : Wd (I (r + 6)) WL 0) (hl : I (r + 2) 144 = nI nl) (hl6 : nl ≤ 6)
    (h1 : nl = 6 → Q (-5) S (mRef (up2 I r 11 0) r (-5) 5) L)
    (h2 : nl < 6 → ∀ J nt f t l, RD (up2 I r 8 0) J r n nt → nt ≤ 400 → txt J r nt = .error f → f ≤ nt → Q (-6) S (mRef (up2 (pm J r t l (J (r + 11) f)) r 12 (J (r + 11) f)) r (-6) 6) L)
    (h : nl < 6 → ∀ J nt cs t l, RD (up2 I r 8 0) J r n nt → nt ≤ 400 → txt J r nt = .ok cs → Q (nI nl) S (mGood (up2 (mLay (up2 (pm J r t l (-1)) r 12 (-1)) r nl nt nt) (r + 2) 144 (nI (nl + 1))) r) L) : Vc mX12_law (d + 36) 0 0 [.ref r] S I L (ViQ Q) := by
  refine Vc.of rfl (Nat.le_of_ble_eq_true rfl) ?_
  have B := bs_X12_law
  show Vw mX12_law (d + 36) 0 0 0 0 (ViQ Q) 0 [(0, .ref r)] [] S I L
  refine Vw.aload_n (de_aload_0 (B 0 _ rfl)) 0 rfl (n := 1) rfl ?_
  refine Vw.getR (de_getfield (B 1 _ rfl) (B 2 _ rfl) (B 3 _ rfl)) fl_X12_24 rfl hM.k (MS_kept hM).1 (n := 4) rfl ?_
  refine Vw.sipush (v := 144) (de_sipush (B 4 _ rfl) (B 5 _ rfl) (B 6 _ rfl)) rfl (n := 7) rfl ?_
  refine Vw.iald (de_iaload (B 7 _ rfl)) (MS_kept hM).2 (j := 144) ⟨rfl, by decide, by decide⟩ (n := 8) rfl ?_
  rw [hl]
  refine Vw.bipush (v := 6) (de_bipush (B 8 _ rfl) (B 9 _ rfl)) rfl (n := 10) rfl ?_
  refine Vw.icmp_ne (tgt := 25) (n := 13) (de_icmp_ne (B 10 _ rfl) (B 11 _ rfl) (B 12 _ rfl)) rfl rfl (fun c_10 => ?_) (fun c_10 => ?_)
  · have hlt : nl < 6 := by rcases Nat.lt_or_ge nl 6 with q | q; exact q; exact absurd (by rw [show nl = 6 by omega]; rfl) c_10
    refine Vw.aload_n (de_aload_0 (B 25 _ rfl)) 0 rfl (n := 26) rfl ?_
    refine Vw.iconst (v := 0) (de_iconst_0 (B 26 _ rfl)) rfl (n := 27) rfl ?_
    refine Vw.putZ (de_putfield (B 27 _ rfl) (B 28 _ rfl) (B 29 _ rfl)) fl_X12_207 hM.k rfl rfl rfl rfl (n := 30) rfl ?_
    refine Vw.aload_n (de_aload_0 (B 30 _ rfl)) 0 rfl (n := 31) rfl ?_
    refine Vw.ivi0 (mi' := mX12_reads) (de_invokevirtual (B 31 _ rfl) (B 32 _ rfl) (B 33 _ rfl)) ml_X12_261 mv_X12_reads hM.k (Nat.le_of_ble_eq_true rfl) (n := 34) rfl (c_X12_reads hM (n := n) (by rw [up2_k (by decide)]; exact ht) hn (by rw [up2_row (by omega)]; exact hW) (fun J nt cs t l g1 g2 g3 => ?_) (fun J nt f t l g1 g2 g3 g4 => ?_))
    · have e144 : up2 (pm J r t l (-1)) r 12 (-1) (r + 2) 144 = nI nl := by rw [up2_a (by omega), pm_o (by omega), g1.same (by omega) (by omega) (by omega) (by omega) (by omega), up2_a (by omega)]; exact hl
      have e16 : up2 (pm J r t l (-1)) r 12 (-1) r 16 = nI nt := by rw [up2_k (by decide), pm_k (by decide) (by decide) (by decide)]; exact (g1.ok g2 hn).2
      refine Vw.if_ne (tgt := 44) (n := 37) (de_if_ne (B 34 _ rfl) (B 35 _ rfl) (B 36 _ rfl)) rfl rfl (fun c_34 => ?_) (fun c_34 => ?_)
      · refine Vw.aload_n (de_aload_0 (B 44 _ rfl)) 0 rfl (n := 45) rfl ?_
        refine Vw.aload_n (de_aload_0 (B 45 _ rfl)) 0 rfl (n := 46) rfl ?_
        refine Vw.getR (de_getfield (B 46 _ rfl) (B 47 _ rfl) (B 48 _ rfl)) fl_X12_24 rfl hM.k (MS_kept hM).1 (n := 49) rfl ?_
        refine Vw.sipush (v := 144) (de_sipush (B 49 _ rfl) (B 50 _ rfl) (B 51 _ rfl)) rfl (n := 52) rfl ?_
        refine Vw.iald (de_iaload (B 52 _ rfl)) (MS_kept hM).2 (j := 144) ⟨rfl, by decide, by decide⟩ (n := 53) rfl ?_
        rw [e144]
        refine Vw.ivv1 (mi' := mX12_lays) (de_invokevirtual (B 53 _ rfl) (B 54 _ rfl) (B 55 _ rfl)) ml_X12_264 mv_X12_lays hM.k (Nat.le_of_ble_eq_true rfl) (n := 56) rfl (c_X12_lays hM e16 g2 (by omega) ?_)
        refine Vw.aload_n (de_aload_0 (B 56 _ rfl)) 0 rfl (n := 57) rfl ?_
        refine Vw.getR (de_getfield (B 57 _ rfl) (B 58 _ rfl) (B 59 _ rfl)) fl_X12_24 rfl hM.k (MS_kept hM).1 (n := 60) rfl ?_
        refine Vw.sipush (v := 144) (de_sipush (B 60 _ rfl) (B 61 _ rfl) (B 62 _ rfl)) rfl (n := 63) rfl ?_
        refine Vw.dup2 (de_dup2 (B 63 _ rfl)) rfl rfl (n := 64) rfl ?_
        refine Vw.iald (de_iaload (B 64 _ rfl)) (MS_kept hM).2 (j := 144) ⟨rfl, by decide, by decide⟩ (n := 65) rfl ?_
        rw [mLay_k (by decide), e144]
        refine Vw.iconst (v := 1) (de_iconst_1 (B 65 _ rfl)) rfl (n := 66) rfl ?_
        refine Vw.iadd (de_iadd (B 66 _ rfl)) (n := 67) rfl ?_
        rw [nI_1]
        refine Vw.iast (de_iastore (B 67 _ rfl)) (MS_kept hM).2 (j := 144) ⟨rfl, by decide, by decide⟩ (n := 68) rfl ?_
        refine Vw.aload_n (de_aload_0 (B 68 _ rfl)) 0 rfl (n := 69) rfl ?_
        refine Vw.aload_n (de_aload_0 (B 69 _ rfl)) 0 rfl (n := 70) rfl ?_
        refine Vw.getR (de_getfield (B 70 _ rfl) (B 71 _ rfl) (B 72 _ rfl)) fl_X12_24 rfl hM.k (MS_kept hM).1 (n := 73) rfl ?_
        refine Vw.sipush (v := 144) (de_sipush (B 73 _ rfl) (B 74 _ rfl) (B 75 _ rfl)) rfl (n := 76) rfl ?_
        refine Vw.iald (de_iaload (B 76 _ rfl)) (MS_kept hM).2 (j := 144) ⟨rfl, by decide, by decide⟩ (n := 77) rfl ?_
        rw [up2_s]
        refine Vw.iconst (v := 1) (de_iconst_1 (B 77 _ rfl)) rfl (n := 78) rfl ?_
        refine Vw.isub (de_isub (B 78 _ rfl)) (n := 79) rfl ?_
        rw [nI_pred]
        refine Vw.ivi1 (mi' := mX12_good) (de_invokevirtual (B 79 _ rfl) (B 80 _ rfl) (B 81 _ rfl)) ml_X12_14 mv_X12_good hM.k (Nat.le_of_ble_eq_true rfl) (n := 82) rfl (c_X12_good hM ?_)
        exact Vw.iret (de_ireturn (B 82 _ rfl)) rfl ⟨_, rfl, (h hlt J nt cs t l g1 g2 g3)⟩
      exact absurd c_34 (by decide)
    · refine Vw.if_ne (tgt := 44) (n := 37) (de_if_ne (B 34 _ rfl) (B 35 _ rfl) (B 36 _ rfl)) rfl rfl (fun c_34 => ?_) (fun c_34 => ?_)
      · exact absurd rfl c_34
      refine Vw.aload_n (de_aload_0 (B 37 _ rfl)) 0 rfl (n := 38) rfl ?_
      refine Vw.bipush (v := -6) (de_bipush (B 38 _ rfl) (B 39 _ rfl)) rfl (n := 40) rfl ?_
      refine Vw.ivi1 (mi' := mX12_refuses) (de_invokevirtual (B 40 _ rfl) (B 41 _ rfl) (B 42 _ rfl)) ml_X12_115 mv_X12_refuses hM.k (Nat.le_of_ble_eq_true rfl) (n := 43) rfl (c_X12_refuses hM (j := 6) ⟨rfl, by decide, by decide⟩ ?_)
      exact Vw.iret (de_ireturn (B 43 _ rfl)) rfl ⟨_, rfl, (h2 hlt J nt f t l g1 g2 g3 g4)⟩
  refine Vw.aload_n (de_aload_0 (B 13 _ rfl)) 0 rfl (n := 14) rfl ?_
  refine Vw.iconst (v := 0) (de_iconst_0 (B 14 _ rfl)) rfl (n := 15) rfl ?_
  refine Vw.putI (de_putfield (B 15 _ rfl) (B 16 _ rfl) (B 17 _ rfl)) fl_X12_169 hM.k rfl rfl (n := 18) rfl ?_
  refine Vw.aload_n (de_aload_0 (B 18 _ rfl)) 0 rfl (n := 19) rfl ?_
  refine Vw.bipush (v := -5) (de_bipush (B 19 _ rfl) (B 20 _ rfl)) rfl (n := 21) rfl ?_
  refine Vw.ivi1 (mi' := mX12_refuses) (de_invokevirtual (B 21 _ rfl) (B 22 _ rfl) (B 23 _ rfl)) ml_X12_115 mv_X12_refuses hM.k (Nat.le_of_ble_eq_true rfl) (n := 24) rfl (c_X12_refuses hM (j := 5) ⟨rfl, by decide, by decide⟩ ?_)
  exact Vw.iret (de_ireturn (B 24 _ rfl)) rfl ⟨_, rfl, (h1 (nI_inj (b := 6) (by omega) (by decide) c_10))⟩
