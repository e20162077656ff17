/-! The cutter: isCutAt -/
def ctG (g : Nat → Nat) (e : Nat) : Nat → Nat → Nat
  | 0, c => c
  | m + 1, c => if c < e then ctG g e m (g c) else c
theorem ctG_e {g : Nat → Nat} {e c : Nat} (h : ¬ c < e) : ∀ m, ctG g e m c = c
  | 0 => rfl
  | m + 1 => by rw [ctG, if_neg h]
theorem c_X1_isCutAt {d : Nat} {S : vS} {I : vI} {L : vL} {Q : Int32 → vS → vI → vL → Prop} {s e : Nat} {g : Nat → Nat} (hc : CutS S (s + 65) s (s + 28) (s + 33)) (he : e ≤ 25) (hg : ∀ i, i < e → I (s + 73) i = nI (g i) ∧ g i ≤ 25) (h : Q (bI (decide (ctG g e 25 0 = e))) S I L) : Vc mX1_isCutAt d 0 0 [.ref (s + 65), .int (nI e)] S I L (ViQ Q) := by
  refine Vc.of rfl (Nat.le_of_ble_eq_true rfl) ?_
  have B := bs_X1_isCutAt
  show Vw mX1_isCutAt d 0 0 0 0 (ViQ Q) 0 [(0, .ref (s + 65)), (1, .int (nI e))] [] S I L
  have fin : ∀ c i, c ≤ 25 → ctG g e 25 0 = c → Vw mX1_isCutAt d 0 0 0 0 (ViQ Q) 28 [(0, .ref (s + 65)), (1, .int (nI e)), (2, .int (nI c)), (3, .int (nI i))] [] S I L := by
    intro c i hc25 eC
    rw [eC] at h
    refine Vw.iload_n (de_iload_2 (B 28 _ rfl)) 2 rfl (n := 29) rfl ?_
    refine Vw.iload_n (de_iload_1 (B 29 _ rfl)) 1 rfl (n := 30) rfl ?_
    refine Vw.icmp_ne (tgt := 37) (n := 33) (de_icmp_ne (B 30 _ rfl) (B 31 _ rfl) (B 32 _ rfl)) rfl rfl (fun c_30 => ?_) (fun c_30 => ?_)
    · refine Vw.iconst (v := 0) (de_iconst_0 (B 37 _ rfl)) rfl (n := 38) rfl ?_
      exact Vw.zret (de_ireturn (B 38 _ rfl)) rfl rfl ⟨_, rfl, (by first | (rw [decide_eq_true (nI_inj (by omega) (by omega) c_30)] at h; exact h) | (rw [decide_eq_false (fun z => c_30 (by rw [z]))] at h; exact h))⟩
    refine Vw.iconst (v := 1) (de_iconst_1 (B 33 _ rfl)) rfl (n := 34) rfl ?_
    refine Vw.goto_ (n := 38) (de_goto_ (B 34 _ rfl) (B 35 _ rfl) (B 36 _ rfl)) rfl ?_
    exact Vw.zret (de_ireturn (B 38 _ rfl)) rfl rfl ⟨_, rfl, (by first | (rw [decide_eq_true (nI_inj (by omega) (by omega) c_30)] at h; exact h) | (rw [decide_eq_false (fun z => c_30 (by rw [z]))] at h; exact h))⟩
  have loop : ∀ i, i ≤ 25 → ∀ c, c ≤ 25 → ctG g e 25 0 = ctG g e (25 - i) c → Vw mX1_isCutAt d 0 0 0 0 (ViQ Q) 4 [(0, .ref (s + 65)), (1, .int (nI e)), (2, .int (nI c)), (3, .int (nI i))] [] S I L := by
    refine loop_up (fun i hi ih => ?_)
    intro c hc25 eC
    refine Vw.iload_n (de_iload_3 (B 4 _ rfl)) 3 rfl (n := 5) rfl ?_
    refine Vw.bipush (v := 24) (de_bipush (B 5 _ rfl) (B 6 _ rfl)) rfl (n := 7) rfl ?_
    refine Vw.icmp_gt (tgt := 28) (n := 10) (de_icmp_gt (B 7 _ rfl) (B 8 _ rfl) (B 9 _ rfl)) rfl rfl (fun c_7 => ?_) (fun c_7 => ?_)
    · first
      | exact fin c i hc25 (eC.trans (ctG_e (Nat.not_lt.mpr ((nI_leI (a := e) (b := c) (by omega) (by omega)).mp c_12)) _))
      | (have z_7 : i = 25 := by rcases Nat.lt_or_ge i 25 with z | z; exact absurd ((nI_leI (a := i) (b := 24) (by omega) (by omega)).mpr (by omega)) (Int32.not_le.mpr c_7); omega
         rw [z_7] at eC
         exact fin c i hc25 eC)
    have z_7 : i < 25 := by rcases Nat.lt_or_ge i 25 with z | z; exact z; exact absurd (Int32.not_le.mp (fun q => absurd ((nI_leI (a := i) (b := 24) (by omega) (by omega)).mp q) (by omega))) c_7
    refine Vw.iload_n (de_iload_2 (B 10 _ rfl)) 2 rfl (n := 11) rfl ?_
    refine Vw.iload_n (de_iload_1 (B 11 _ rfl)) 1 rfl (n := 12) rfl ?_
    refine Vw.icmp_ge (tgt := 28) (n := 15) (de_icmp_ge (B 12 _ rfl) (B 13 _ rfl) (B 14 _ rfl)) rfl rfl (fun c_12 => ?_) (fun c_12 => ?_)
    · first
      | exact fin c i hc25 (eC.trans (ctG_e (Nat.not_lt.mpr ((nI_leI (a := e) (b := c) (by omega) (by omega)).mp c_12)) _))
      | (have z_7 : i = 25 := by rcases Nat.lt_or_ge i 25 with z | z; exact absurd ((nI_leI (a := i) (b := 24) (by omega) (by omega)).mpr (by omega)) (Int32.not_le.mpr c_7); omega
         rw [z_7] at eC
         exact fin c i hc25 eC)
    have z_12 : c < e := by rcases Nat.lt_or_ge c e with z | z; exact z; exact absurd ((nI_leI (a := e) (b := c) (by omega) (by omega)).mpr z) c_12
    obtain ⟨g1, g2⟩ := hg c z_12
    refine Vw.aload_n (de_aload_0 (B 15 _ rfl)) 0 rfl (n := 16) rfl ?_
    refine Vw.getR (de_getfield (B 16 _ rfl) (B 17 _ rfl) (B 18 _ rfl)) fl_X1_33 rfl hc.k hc.f13 (n := 19) rfl ?_
    refine Vw.iload_n (de_iload_2 (B 19 _ rfl)) 2 rfl (n := 20) rfl ?_
    refine Vw.iald (de_iaload (B 20 _ rfl)) hc.r13 (vIx_n (k := c) rfl (by omega)) (n := 21) rfl ?_
    rw [show I (s + 65 + 8) c = nI (g c) from g1]
    refine Vw.istore_n (lv2 := [(0, _), (1, _), (2, _), (3, _)]) (de_istore_2 (B 21 _ rfl)) rfl (by decide) [1, 2, 0, 3] rfl (n := 22) rfl ?_
    refine Vw.iinc (v := nI (i + 1)) (lv2 := [(0, _), (1, _), (2, _), (3, _)]) (de_iinc (B 22 _ rfl) (B 23 _ rfl) (B 24 _ rfl)) 3 rfl (nI_1 i) (by decide) [1, 2, 3, 0] rfl (n := 25) rfl ?_
    refine Vw.goto_ (n := 4) (de_goto_ (B 25 _ rfl) (B 26 _ rfl) (B 27 _ rfl)) rfl ?_
    refine ih z_7 (g c) g2 (eC.trans ?_)
    rw [show 25 - i = 25 - (i + 1) + 1 by omega, ctG, if_pos z_12]
  refine Vw.iconst (v := 0) (de_iconst_0 (B 0 _ rfl)) rfl (n := 1) rfl ?_
  refine Vw.istore_n (lv2 := [(0, _), (1, _), (2, _)]) (de_istore_2 (B 1 _ rfl)) rfl (by decide) [1, 2, 0] rfl (n := 2) rfl ?_
  refine Vw.iconst (v := 0) (de_iconst_0 (B 2 _ rfl)) rfl (n := 3) rfl ?_
  refine Vw.istore_n (lv2 := [(0, _), (1, _), (2, _), (3, _)]) (de_istore_3 (B 3 _ rfl)) rfl (by decide) [1, 2, 3, 0] rfl (n := 4) rfl ?_
  exact loop 0 (Nat.zero_le _) 0 (Nat.zero_le _) rfl
