/-! years() -/
def yearsK (W : tW) (K : Nat → Int32) (np nc s : Nat) : Nat → (Nat → Int32) × Nat × Int32
  | 0 => (K, s, 0)
  | k + 1 => ((yearP W (yearsK W K np nc s k).1 np nc (yearsK W K np nc s k).2.1).1, (feastK (growK W (yearsK W K np nc s k).1 np) (yearsK W K np nc s k).2.1 np).2, (yearsK W K np nc s k).2.2 + (yearP W (yearsK W K np nc s k).1 np nc (yearsK W K np nc s k).2.1).2)
theorem yearK_T {W : tW} {K : Nat → Int32} {np nc s : Nat} (hT : TN K np nc) : TN (nowK (feastK (growK W K np) s np).1) np nc := hT.of (fun x h1 h2 => by have := hT.1; unfold nowK; rw [upK_n (by omega), feastK_o (by omega), growK_o (by omega)])
theorem yearsK_ok {W : tW} {K : Nat → Int32} {np nc s : Nat} (hT : TN K np nc) (hs : s < 1000003) : ∀ k, TN (yearsK W K np nc s k).1 np nc ∧ (∀ x, 122 ≤ x → (yearsK W K np nc s k).1 x = K x) ∧ (yearsK W K np nc s k).2.1 < 1000003 := by
  intro k
  induction k with
  | zero => exact ⟨hT, fun _ _ => rfl, hs⟩
  | succ k ih =>
    have h8 := hT.1
    have e := setlK_ok (W := W) (yearK_T (W := W) (s := (yearsK W K np nc s k).2.1) ih.1) nc (Nat.le_refl _)
    refine ⟨e.1, fun x hx => ?_, feastK_s ih.2.2⟩
    rw [yearsK]
    simp only [yearP]
    rw [e.2 x (by omega)]
    unfold nowK
    rw [upK_n (by omega), feastK_o (by omega), growK_o (by omega), ih.2.1 x hx]
def yrWide (K : Nat → Int32) (q : Nat) : Int32 := K (4 * q + 2)
def yrGot (K G : Nat → Int32) (t : Nat) : Int32 := -K (113 + 2 * t + 1) + G (113 + 2 * t + 1)
theorem lie_big {x : Int32} {N : Nat} (hN : N < 2000000000) (h : ¬ zLie x 0 (nI N) = 0) : ∃ j, j ≤ N ∧ x = nI j := by
  have h1 := (zLie_iff _ _ _).mp h
  rw [nI_ti (by omega)] at h1
  obtain ⟨j, h2, h3⟩ := nI_ex (x := x) (n := N + 1) h1.1 (by omega)
  exact ⟨j, by omega, h3⟩
/-- what may change in a run of years -/
def Fy (r : Nat) (I I2 : vI) : Prop := ∀ a k, ¬ (a = r ∧ (20 ≤ k ∧ k ≤ 29 ∨ k = 54 ∨ k = 55 ∨ k = 56)) → a ≠ r + 12 → a ≠ r + 2 → a ≠ r + 5 → a ≠ r + 26 → a ≠ r + 27 → I2 a k = I a k
theorem Fk.fy {r : Nat} {I I2 : vI} (h : Fk r I I2) : Fy r I I2 := fun a k h1 h2 h3 _ _ _ => h a k (by omega) h2 h3
theorem Fy.trans {r : Nat} {I I2 I3 : vI} (h : Fy r I I2) (g : Fy r I2 I3) : Fy r I I3 := fun a k h1 h2 h3 h4 h5 h6 => (g a k h1 h2 h3 h4 h5 h6).trans (h a k h1 h2 h3 h4 h5 h6)
theorem c_X12_years {d : Nat} {S : vS} {I : vI} {L : vL} {Q : Int32 → vS → vI → vL → Prop} {r : Nat} {x y : Int32} {np nc : Nat} {W : tW} (hM : MS S r) (hW : WD (I (r + 2)) W) (hT : TN (I (r + 2)) np nc) (h1 : zLie x 0 1000000 = 0 ∨ zLie y 1 80 = 0 → Q (-1) S (mRef I r (-1) 1) L) (h : ∀ s n I2, s ≤ 1000000 → 1 ≤ n → n ≤ 80 → x = nI s → y = nI n → Fy r I I2 → I2 (r + 2) = I (r + 2) → I2 r 54 = nI np → I2 r 56 = 1 → (∀ q, q < np → I2 (r + 26) q = yrWide (yearsK W (I (r + 2)) np nc s n).1 q) → (∀ t, t < 4 → I2 (r + 27) t = yrGot (I (r + 2)) (yearsK W (I (r + 2)) np nc s n).1 t) → Q (yearsK W (I (r + 2)) np nc s n).2.2 S (mGood I2 r) L) : Vc mX12_years (d + 47) 0 0 [.ref r, .int x, .int y] S I L (ViQ Q) := by
  refine Vc.of rfl (Nat.le_of_ble_eq_true rfl) ?_
  have B := bs_X12_years
  show Vw mX12_years (d + 47) 0 0 0 0 (ViQ Q) 0 [(0, .ref r), (1, .int x), (2, .int y)] [] S I L
  have hnp := hT.1
  have hnc := hT.2.1
  have e142 := hT.2.2.1
  have e112 := hT.2.2.2.1
  have loop4 : ∀ s n, s ≤ 1000000 → 1 ≤ n → n ≤ 80 → x = nI s → y = nI n → ∀ t, t ≤ 4 → ∀ J : vI, Fy r I J → J (r + 2) = (yearsK W (I (r + 2)) np nc s n).1 → (∀ x, x < 122 → J (r + 5) x = I (r + 2) x) → J r 54 = nI np → J r 55 = nI (yearsK W (I (r + 2)) np nc s n).2.1 → J r 56 = 1 → (∀ q, q < np → J (r + 26) q = yrWide (yearsK W (I (r + 2)) np nc s n).1 q) → (∀ u, u < t → J (r + 27) u = yrGot (I (r + 2)) (yearsK W (I (r + 2)) np nc s n).1 u) → (∀ u, t ≤ u → u < 4 → J (r + 27) u = -(I (r + 2) (113 + 2 * u + 1))) → Vw mX12_years (d + 47) 0 0 0 0 (ViQ Q) 142 [(0, .ref r), (1, .int (nI s)), (2, .int (nI n)), (3, .int (yearsK W (I (r + 2)) np nc s n).2.2), (4, .int (nI t))] [] S J L := by
    intro s n hs hn1 hn ex ey
    obtain ⟨y1, y2, y3⟩ := yearsK_ok (W := W) (s := s) hT (by omega) n
    refine loop_up (fun t ht ih => ?_)
    intro J fJ kJ aJ dJ sJ gJ wJ g1 g2
    refine Vw.iload (de_iload (B 142 _ rfl) (B 143 _ rfl)) 4 rfl (n := 144) rfl ?_
    refine Vw.iconst (v := 4) (de_iconst_4 (B 144 _ rfl)) rfl (n := 145) rfl ?_
    refine Vw.icmp_ge (tgt := 178) (n := 148) (de_icmp_ge (B 145 _ rfl) (B 146 _ rfl) (B 147 _ rfl)) rfl rfl (fun c_145 => ?_) (fun c_145 => ?_)
    · have z_145 : 4 ≤ t := ((nI_leI (a := 4) (b := t) (by omega) (by omega)).mp c_145)
      obtain rfl : t = 4 := by omega
      refine Vw.aload_n (de_aload_0 (B 178 _ rfl)) 0 rfl (n := 179) rfl ?_
      refine Vw.iconst (v := 0) (de_iconst_0 (B 179 _ rfl)) rfl (n := 180) rfl ?_
      refine Vw.ivv1 (mi' := mX12_takesBack) (de_invokevirtual (B 180 _ rfl) (B 181 _ rfl) (B 182 _ rfl)) ml_X12_446 mv_X12_takesBack hM.k (Nat.le_of_ble_eq_true rfl) (n := 183) rfl (c_X12_takesBack (k := 0) hM (by decide) ?_)
      have kB : cpR J (r + 5) (r + 2) (122 * 0) 0 122 (r + 2) = I (r + 2) := by
        funext k
        by_cases hk : k < 122
        · rw [cpR_i (by omega) (by omega), show 122 * 0 + (k - 0) = k by omega]; exact aJ k hk
        · rw [cpR_u (by omega), kJ]; exact y2 k (by omega)
      have fB : Fy r J (cpR J (r + 5) (r + 2) (122 * 0) 0 122) := fun a k h1 h2 h3 h4 h5 h6 => cpR_o h3
      refine Vw.aload_n (de_aload_0 (B 183 _ rfl)) 0 rfl (n := 184) rfl ?_
      refine Vw.iload_n (de_iload_3 (B 184 _ rfl)) 3 rfl (n := 185) rfl ?_
      refine Vw.ivi1 (mi' := mX12_good) (de_invokevirtual (B 185 _ rfl) (B 186 _ rfl) (B 187 _ rfl)) ml_X12_14 mv_X12_good hM.k (Nat.le_of_ble_eq_true rfl) (n := 188) rfl (c_X12_good hM ?_)
      exact Vw.iret (de_ireturn (B 188 _ rfl)) rfl ⟨_, rfl, (h s n _ hs hn1 hn ex ey (fJ.trans fB) kB (by rw [cpR_o (by omega)]; exact dJ) (by rw [cpR_o (by omega)]; exact gJ) (fun q hq => by rw [cpR_o (by omega)]; exact wJ q hq) (fun u hu => by rw [cpR_o (by omega)]; exact g1 u hu))⟩
    have z_145 : t < 4 := by rcases Nat.lt_or_ge t 4 with z | z; exact z; exact absurd ((nI_leI (a := 4) (b := t) (by omega) (by omega)).mpr z) c_145
    refine Vw.aload_n (de_aload_0 (B 148 _ rfl)) 0 rfl (n := 149) rfl ?_
    refine Vw.getR (de_getfield (B 149 _ rfl) (B 150 _ rfl) (B 151 _ rfl)) fl_X12_108 rfl hM.k (MS_drawnGot hM).1 (n := 152) rfl ?_
    refine Vw.iload (de_iload (B 152 _ rfl) (B 153 _ rfl)) 4 rfl (n := 154) rfl ?_
    refine Vw.dup2 (de_dup2 (B 154 _ rfl)) rfl rfl (n := 155) rfl ?_
    refine Vw.iald (de_iaload (B 155 _ rfl)) (MS_drawnGot hM).2 (vIx_n (k := t) (by simp only [nI_A, nI_M, Int32.zero_add, Int32.add_zero] <;> rfl) (by omega)) (n := 156) rfl ?_
    rw [g2 t (Nat.le_refl _) z_145]
    refine Vw.aload_n (de_aload_0 (B 156 _ rfl)) 0 rfl (n := 157) rfl ?_
    refine Vw.getR (de_getfield (B 157 _ rfl) (B 158 _ rfl) (B 159 _ rfl)) fl_X12_24 rfl hM.k (MS_kept hM).1 (n := 160) rfl ?_
    refine Vw.bipush (v := 113) (de_bipush (B 160 _ rfl) (B 161 _ rfl)) rfl (n := 162) rfl ?_
    refine Vw.iconst (v := 2) (de_iconst_2 (B 162 _ rfl)) rfl (n := 163) rfl ?_
    refine Vw.iload (de_iload (B 163 _ rfl) (B 164 _ rfl)) 4 rfl (n := 165) rfl ?_
    refine Vw.imul (de_imul (B 165 _ rfl)) (n := 166) rfl ?_
    refine Vw.iadd (de_iadd (B 166 _ rfl)) (n := 167) rfl ?_
    refine Vw.iconst (v := 1) (de_iconst_1 (B 167 _ rfl)) rfl (n := 168) rfl ?_
    refine Vw.iadd (de_iadd (B 168 _ rfl)) (n := 169) rfl ?_
    refine Vw.iald (de_iaload (B 169 _ rfl)) (MS_kept hM).2 (vIx_n (k := 113 + 2 * t + 1) (by simp only [nI_A, nI_M, Int32.zero_add, Int32.add_zero] <;> rfl) (by omega)) (n := 170) rfl ?_
    rw [kJ]
    refine Vw.iadd (de_iadd (B 170 _ rfl)) (n := 171) rfl ?_
    refine Vw.iast (de_iastore (B 171 _ rfl)) (MS_drawnGot hM).2 (vIx_n (k := t) (by simp only [nI_A, nI_M, Int32.zero_add, Int32.add_zero] <;> rfl) (by omega)) (n := 172) rfl ?_
    refine Vw.iinc (v := nI (t + 1)) (lv2 := [(0, _), (1, _), (2, _), (3, _), (4, _)]) (de_iinc (B 172 _ rfl) (B 173 _ rfl) (B 174 _ rfl)) 4 rfl (nI_1 t) (by decide) [1, 2, 3, 4, 0] rfl (n := 175) rfl ?_
    refine Vw.goto_ (n := 142) (de_goto_ (B 175 _ rfl) (B 176 _ rfl) (B 177 _ rfl)) rfl ?_
    refine ih z_145 _ (fJ.trans (fun a k h1 h2 h3 h4 h5 h6 => by simp (disch := omega) only [up2_n])) (by rw [up2_row (by omega)]; exact kJ) (fun x hx => by rw [up2_a (by omega)]; exact aJ x hx) (by rw [up2_a (by omega)]; exact dJ) (by rw [up2_a (by omega)]; exact sJ) (by rw [up2_a (by omega)]; exact gJ) (fun q hq => by rw [up2_a (by omega)]; exact wJ q hq) (fun u hu => ?_) (fun u hu hu4 => by rw [up2_k (by omega)]; exact g2 u (by omega) hu4)
    by_cases e : u = t
    · rw [e, up2_s]; rfl
    · rw [up2_k e]; exact g1 u (by omega)
  have loop3 : ∀ s n, s ≤ 1000000 → 1 ≤ n → n ≤ 80 → x = nI s → y = nI n → ∀ q, q ≤ np → ∀ J : vI, Fy r I J → J (r + 2) = (yearsK W (I (r + 2)) np nc s n).1 → (∀ x, x < 122 → J (r + 5) x = I (r + 2) x) → J r 54 = nI np → J r 55 = nI (yearsK W (I (r + 2)) np nc s n).2.1 → J r 56 = 1 → (∀ u, u < q → J (r + 26) u = yrWide (yearsK W (I (r + 2)) np nc s n).1 u) → (∀ u, u < 4 → J (r + 27) u = -(I (r + 2) (113 + 2 * u + 1))) → Vw mX12_years (d + 47) 0 0 0 0 (ViQ Q) 110 [(0, .ref r), (1, .int (nI s)), (2, .int (nI n)), (3, .int (yearsK W (I (r + 2)) np nc s n).2.2), (4, .int (nI q))] [] S J L := by
    intro s n hs hn1 hn ex ey
    refine loop_up (fun q hq ih => ?_)
    intro J fJ kJ aJ dJ sJ gJ wJ g2
    refine Vw.iload (de_iload (B 110 _ rfl) (B 111 _ rfl)) 4 rfl (n := 112) rfl ?_
    refine Vw.aload_n (de_aload_0 (B 112 _ rfl)) 0 rfl (n := 113) rfl ?_
    refine Vw.getI (de_getfield (B 113 _ rfl) (B 114 _ rfl) (B 115 _ rfl)) fl_X12_489 rfl hM.k (n := 116) rfl ?_
    rw [dJ]
    refine Vw.icmp_ge (tgt := 139) (n := 119) (de_icmp_ge (B 116 _ rfl) (B 117 _ rfl) (B 118 _ rfl)) rfl rfl (fun c_116 => ?_) (fun c_116 => ?_)
    · have z_116 : np ≤ q := ((nI_leI (a := np) (b := q) (by omega) (by omega)).mp c_116)
      refine Vw.iconst (v := 0) (de_iconst_0 (B 139 _ rfl)) rfl (n := 140) rfl ?_
      refine Vw.istore (lv2 := [(0, _), (1, _), (2, _), (3, _), (4, _)]) (de_istore (B 140 _ rfl) (B 141 _ rfl)) (by decide) [1, 2, 3, 4, 0] rfl (n := 142) rfl ?_
      exact loop4 s n hs hn1 hn ex ey 0 (Nat.zero_le _) J fJ kJ aJ dJ sJ gJ (fun u hu => wJ u (by omega)) (fun u hu => absurd hu (Nat.not_lt_zero _)) (fun u _ hu => g2 u hu)
    have z_116 : q < np := by rcases Nat.lt_or_ge q np with z | z; exact z; exact absurd ((nI_leI (a := np) (b := q) (by omega) (by omega)).mpr z) c_116
    refine Vw.aload_n (de_aload_0 (B 119 _ rfl)) 0 rfl (n := 120) rfl ?_
    refine Vw.getR (de_getfield (B 120 _ rfl) (B 121 _ rfl) (B 122 _ rfl)) fl_X12_105 rfl hM.k (MS_drawnWide hM).1 (n := 123) rfl ?_
    refine Vw.iload (de_iload (B 123 _ rfl) (B 124 _ rfl)) 4 rfl (n := 125) rfl ?_
    refine Vw.aload_n (de_aload_0 (B 125 _ rfl)) 0 rfl (n := 126) rfl ?_
    refine Vw.iload (de_iload (B 126 _ rfl) (B 127 _ rfl)) 4 rfl (n := 128) rfl ?_
    refine Vw.iconst (v := 2) (de_iconst_2 (B 128 _ rfl)) rfl (n := 129) rfl ?_
    refine Vw.ivi2 (mi' := mX12_fact) (de_invokevirtual (B 129 _ rfl) (B 130 _ rfl) (B 131 _ rfl)) ml_X12_144 mv_X12_fact hM.k (Nat.le_of_ble_eq_true rfl) (n := 132) rfl (c_X12_fact hM (vIx_n (k := 4 * q + 2) (by simp only [nI_A, nI_M, Int32.zero_add, Int32.add_zero] <;> rfl) (by omega)) ?_)
    rw [kJ]
    refine Vw.iast (de_iastore (B 132 _ rfl)) (MS_drawnWide hM).2 (vIx_n (k := q) (by simp only [nI_A, nI_M, Int32.zero_add, Int32.add_zero] <;> rfl) (by omega)) (n := 133) rfl ?_
    refine Vw.iinc (v := nI (q + 1)) (lv2 := [(0, _), (1, _), (2, _), (3, _), (4, _)]) (de_iinc (B 133 _ rfl) (B 134 _ rfl) (B 135 _ rfl)) 4 rfl (nI_1 q) (by decide) [1, 2, 3, 4, 0] rfl (n := 136) rfl ?_
    refine Vw.goto_ (n := 110) (de_goto_ (B 136 _ rfl) (B 137 _ rfl) (B 138 _ rfl)) rfl ?_
    refine ih z_116 _ (fJ.trans (fun a k h1 h2 h3 h4 h5 h6 => by simp (disch := omega) only [up2_n])) (by rw [up2_row (by omega)]; exact kJ) (fun x hx => by rw [up2_a (by omega)]; exact aJ x hx) (by rw [up2_a (by omega)]; exact dJ) (by rw [up2_a (by omega)]; exact sJ) (by rw [up2_a (by omega)]; exact gJ) (fun u hu => ?_) (fun u hu4 => by rw [up2_a (by omega)]; exact g2 u hu4)
    by_cases e : u = q
    · rw [e, up2_s]; rfl
    · rw [up2_k e]; exact wJ u (by omega)
  have loop2 : ∀ s n, s ≤ 1000000 → 1 ≤ n → n ≤ 80 → x = nI s → y = nI n → ∀ k, k ≤ n → ∀ J : vI, Fy r I J → J (r + 2) = (yearsK W (I (r + 2)) np nc s k).1 → (∀ x, x < 122 → J (r + 5) x = I (r + 2) x) → J r 54 = nI np → J r 55 = nI (yearsK W (I (r + 2)) np nc s k).2.1 → J r 56 = 1 → (∀ u, u < 4 → J (r + 27) u = -(I (r + 2) (113 + 2 * u + 1))) → Vw mX12_years (d + 47) 0 0 0 0 (ViQ Q) 87 [(0, .ref r), (1, .int (nI s)), (2, .int (nI n)), (3, .int (yearsK W (I (r + 2)) np nc s k).2.2), (4, .int (nI k))] [] S J L := by
    intro s n hs hn1 hn ex ey
    refine loop_up (fun k hk ih => ?_)
    intro J fJ kJ aJ dJ sJ gJ g2
    obtain ⟨y1, y2, y3⟩ := yearsK_ok (W := W) (s := s) hT (by omega) k
    refine Vw.iload (de_iload (B 87 _ rfl) (B 88 _ rfl)) 4 rfl (n := 89) rfl ?_
    refine Vw.iload_n (de_iload_2 (B 89 _ rfl)) 2 rfl (n := 90) rfl ?_
    refine Vw.icmp_ge (tgt := 107) (n := 93) (de_icmp_ge (B 90 _ rfl) (B 91 _ rfl) (B 92 _ rfl)) rfl rfl (fun c_90 => ?_) (fun c_90 => ?_)
    · have z_90 : n ≤ k := ((nI_leI (a := n) (b := k) (by omega) (by omega)).mp c_90)
      obtain rfl : k = n := by omega
      refine Vw.iconst (v := 0) (de_iconst_0 (B 107 _ rfl)) rfl (n := 108) rfl ?_
      refine Vw.istore (lv2 := [(0, _), (1, _), (2, _), (3, _), (4, _)]) (de_istore (B 108 _ rfl) (B 109 _ rfl)) (by decide) [1, 2, 3, 4, 0] rfl (n := 110) rfl ?_
      exact loop3 s _ hs hn1 hn ex ey 0 (Nat.zero_le _) J fJ kJ aJ dJ sJ gJ (fun u hu => absurd hu (Nat.not_lt_zero _)) g2
    have z_90 : k < n := by rcases Nat.lt_or_ge k n with z | z; exact z; exact absurd ((nI_leI (a := n) (b := k) (by omega) (by omega)).mpr z) c_90
    refine Vw.iload_n (de_iload_3 (B 93 _ rfl)) 3 rfl (n := 94) rfl ?_
    refine Vw.aload_n (de_aload_0 (B 94 _ rfl)) 0 rfl (n := 95) rfl ?_
    refine Vw.iconst (v := 1) (de_iconst_1 (B 95 _ rfl)) rfl (n := 96) rfl ?_
    refine Vw.ivi1 (mi' := mX12_quarters) (de_invokevirtual (B 96 _ rfl) (B 97 _ rfl) (B 98 _ rfl)) ml_X12_393 mv_X12_quarters hM.k (Nat.le_of_ble_eq_true rfl) (n := 99) rfl (c_X12_quarters_1 (W := W) (np := np) (nc := nc) (s := (yearsK W (I (r + 2)) np nc s k).2.1) hM (by rw [kJ]; exact hW.of (fun x hx => y2 x (by omega))) (by rw [kJ]; exact y1) sJ y3 (fun I3 f3 k3 s3 => ?_))
    rw [kJ] at k3 s3 ⊢
    refine Vw.iadd (de_iadd (B 99 _ rfl)) (n := 100) rfl ?_
    refine Vw.istore_n (lv2 := [(0, _), (1, _), (2, _), (3, _), (4, _)]) (de_istore_3 (B 100 _ rfl)) rfl (by decide) [1, 2, 3, 0, 4] rfl (n := 101) rfl ?_
    refine Vw.iinc (v := nI (k + 1)) (lv2 := [(0, _), (1, _), (2, _), (3, _), (4, _)]) (de_iinc (B 101 _ rfl) (B 102 _ rfl) (B 103 _ rfl)) 4 rfl (nI_1 k) (by decide) [1, 2, 3, 4, 0] rfl (n := 104) rfl ?_
    refine Vw.goto_ (n := 87) (de_goto_ (B 104 _ rfl) (B 105 _ rfl) (B 106 _ rfl)) rfl ?_
    exact ih z_90 I3 (fJ.trans f3.fy) k3 (fun x hx => by rw [f3 _ _ (by omega) (by omega) (by omega)]; exact aJ x hx) (by rw [f3 _ _ (by omega) (by omega) (by omega)]; exact dJ) s3 (by rw [f3 _ _ (by omega) (by omega) (by omega)]; exact gJ) (fun u hu => by rw [f3 _ _ (by omega) (by omega) (by omega)]; exact g2 u hu)
  have loop1 : ∀ s n, s ≤ 1000000 → 1 ≤ n → n ≤ 80 → x = nI s → y = nI n → ∀ t, t ≤ 4 → ∀ J : vI, Fy r I J → J (r + 2) = I (r + 2) → (∀ x, x < 122 → J (r + 5) x = I (r + 2) x) → J r 54 = nI np → J r 55 = nI s → J r 56 = 1 → (∀ u, u < t → J (r + 27) u = -(I (r + 2) (113 + 2 * u + 1))) → Vw mX12_years (d + 47) 0 0 0 0 (ViQ Q) 51 [(0, .ref r), (1, .int (nI s)), (2, .int (nI n)), (3, .int (nI t))] [] S J L := by
    intro s n hs hn1 hn ex ey
    refine loop_up (fun t ht ih => ?_)
    intro J fJ kJ aJ dJ sJ gJ g2
    refine Vw.iload_n (de_iload_3 (B 51 _ rfl)) 3 rfl (n := 52) rfl ?_
    refine Vw.iconst (v := 4) (de_iconst_4 (B 52 _ rfl)) rfl (n := 53) rfl ?_
    refine Vw.icmp_ge (tgt := 82) (n := 56) (de_icmp_ge (B 53 _ rfl) (B 54 _ rfl) (B 55 _ rfl)) rfl rfl (fun c_53 => ?_) (fun c_53 => ?_)
    · have z_53 : 4 ≤ t := ((nI_leI (a := 4) (b := t) (by omega) (by omega)).mp c_53)
      refine Vw.iconst (v := 0) (de_iconst_0 (B 82 _ rfl)) rfl (n := 83) rfl ?_
      refine Vw.istore_n (lv2 := [(0, _), (1, _), (2, _), (3, _)]) (de_istore_3 (B 83 _ rfl)) rfl (by decide) [1, 2, 3, 0] rfl (n := 84) rfl ?_
      refine Vw.iconst (v := 0) (de_iconst_0 (B 84 _ rfl)) rfl (n := 85) rfl ?_
      refine Vw.istore (lv2 := [(0, _), (1, _), (2, _), (3, _), (4, _)]) (de_istore (B 85 _ rfl) (B 86 _ rfl)) (by decide) [1, 2, 3, 4, 0] rfl (n := 87) rfl ?_
      exact loop2 s n hs hn1 hn ex ey 0 (Nat.zero_le _) J fJ kJ aJ dJ sJ gJ (fun u hu => g2 u (by omega))
    have z_53 : t < 4 := by rcases Nat.lt_or_ge t 4 with z | z; exact z; exact absurd ((nI_leI (a := 4) (b := t) (by omega) (by omega)).mpr z) c_53
    refine Vw.aload_n (de_aload_0 (B 56 _ rfl)) 0 rfl (n := 57) rfl ?_
    refine Vw.getR (de_getfield (B 57 _ rfl) (B 58 _ rfl) (B 59 _ rfl)) fl_X12_108 rfl hM.k (MS_drawnGot hM).1 (n := 60) rfl ?_
    refine Vw.iload_n (de_iload_3 (B 60 _ rfl)) 3 rfl (n := 61) rfl ?_
    refine Vw.aload_n (de_aload_0 (B 61 _ rfl)) 0 rfl (n := 62) rfl ?_
    refine Vw.getR (de_getfield (B 62 _ rfl) (B 63 _ rfl) (B 64 _ rfl)) fl_X12_24 rfl hM.k (MS_kept hM).1 (n := 65) rfl ?_
    refine Vw.bipush (v := 113) (de_bipush (B 65 _ rfl) (B 66 _ rfl)) rfl (n := 67) rfl ?_
    refine Vw.iconst (v := 2) (de_iconst_2 (B 67 _ rfl)) rfl (n := 68) rfl ?_
    refine Vw.iload_n (de_iload_3 (B 68 _ rfl)) 3 rfl (n := 69) rfl ?_
    refine Vw.imul (de_imul (B 69 _ rfl)) (n := 70) rfl ?_
    refine Vw.iadd (de_iadd (B 70 _ rfl)) (n := 71) rfl ?_
    refine Vw.iconst (v := 1) (de_iconst_1 (B 71 _ rfl)) rfl (n := 72) rfl ?_
    refine Vw.iadd (de_iadd (B 72 _ rfl)) (n := 73) rfl ?_
    refine Vw.iald (de_iaload (B 73 _ rfl)) (MS_kept hM).2 (vIx_n (k := 113 + 2 * t + 1) (by simp only [nI_A, nI_M, Int32.zero_add, Int32.add_zero] <;> rfl) (by omega)) (n := 74) rfl ?_
    rw [kJ]
    refine Vw.ineg (de_ineg (B 74 _ rfl)) (n := 75) rfl ?_
    refine Vw.iast (de_iastore (B 75 _ rfl)) (MS_drawnGot hM).2 (vIx_n (k := t) (by simp only [nI_A, nI_M, Int32.zero_add, Int32.add_zero] <;> rfl) (by omega)) (n := 76) rfl ?_
    refine Vw.iinc (v := nI (t + 1)) (lv2 := [(0, _), (1, _), (2, _), (3, _)]) (de_iinc (B 76 _ rfl) (B 77 _ rfl) (B 78 _ rfl)) 3 rfl (nI_1 t) (by decide) [1, 2, 3, 0] rfl (n := 79) rfl ?_
    refine Vw.goto_ (n := 51) (de_goto_ (B 79 _ rfl) (B 80 _ rfl) (B 81 _ rfl)) rfl ?_
    refine ih z_53 _ (fJ.trans (fun a k h1 h2 h3 h4 h5 h6 => by simp (disch := omega) only [up2_n])) (by rw [up2_row (by omega)]; exact kJ) (fun x hx => by rw [up2_a (by omega)]; exact aJ x hx) (by rw [up2_a (by omega)]; exact dJ) (by rw [up2_a (by omega)]; exact sJ) (by rw [up2_a (by omega)]; exact gJ) (fun u hu => ?_)
    by_cases e : u = t
    · rw [e, up2_s]
    · rw [up2_k e]; exact g2 u (by omega)
  refine Vw.iload_n (de_iload_1 (B 0 _ rfl)) 1 rfl (n := 1) rfl ?_
  refine Vw.iconst (v := 0) (de_iconst_0 (B 1 _ rfl)) rfl (n := 2) rfl ?_
  refine Vw.ldc (de_ldc (B 2 _ rfl) (B 3 _ rfl)) kc_X12_187 (n := 4) rfl ?_
  refine Vw.isi3 (mi' := mX12_lies) (de_invokestatic (B 4 _ rfl) (B 5 _ rfl) (B 6 _ rfl)) ml_X12_111 ms_X12_lies (Nat.le_of_ble_eq_true rfl) (n := 7) rfl (c_X12_lies ?_)
  refine Vw.if_eq (tgt := 20) (n := 10) (de_if_eq (B 7 _ rfl) (B 8 _ rfl) (B 9 _ rfl)) rfl rfl (fun c_7 => ?_) (fun c_7 => ?_)
  · refine Vw.aload_n (de_aload_0 (B 20 _ rfl)) 0 rfl (n := 21) rfl ?_
    refine Vw.iconst (v := -1) (de_iconst_m1 (B 21 _ rfl)) rfl (n := 22) rfl ?_
    refine Vw.ivi1 (mi' := mX12_refuses) (de_invokevirtual (B 22 _ rfl) (B 23 _ rfl) (B 24 _ rfl)) ml_X12_115 mv_X12_refuses hM.k (Nat.le_of_ble_eq_true rfl) (n := 25) rfl (c_X12_refuses hM (j := 1) ⟨rfl, by decide, by decide⟩ ?_)
    exact Vw.iret (de_ireturn (B 25 _ rfl)) rfl ⟨_, rfl, (h1 (by first | exact Or.inl c_7 | exact Or.inr c_17))⟩
  refine Vw.iload_n (de_iload_2 (B 10 _ rfl)) 2 rfl (n := 11) rfl ?_
  refine Vw.iconst (v := 1) (de_iconst_1 (B 11 _ rfl)) rfl (n := 12) rfl ?_
  refine Vw.bipush (v := 80) (de_bipush (B 12 _ rfl) (B 13 _ rfl)) rfl (n := 14) rfl ?_
  refine Vw.isi3 (mi' := mX12_lies) (de_invokestatic (B 14 _ rfl) (B 15 _ rfl) (B 16 _ rfl)) ml_X12_111 ms_X12_lies (Nat.le_of_ble_eq_true rfl) (n := 17) rfl (c_X12_lies ?_)
  refine Vw.if_ne (tgt := 26) (n := 20) (de_if_ne (B 17 _ rfl) (B 18 _ rfl) (B 19 _ rfl)) rfl rfl (fun c_17 => ?_) (fun c_17 => ?_)
  · obtain ⟨s, hs, es⟩ := lie_big (N := 1000000) (by decide) c_7
    obtain ⟨n, hn1, hn, en⟩ := lie_m (a := 1) (N := 80) (by decide) (by decide) c_17
    subst es
    subst en
    refine Vw.aload_n (de_aload_0 (B 26 _ rfl)) 0 rfl (n := 27) rfl ?_
    refine Vw.iload_n (de_iload_1 (B 27 _ rfl)) 1 rfl (n := 28) rfl ?_
    refine Vw.putI (de_putfield (B 28 _ rfl) (B 29 _ rfl) (B 30 _ rfl)) fl_X12_479 hM.k rfl rfl (n := 31) rfl ?_
    refine Vw.aload_n (de_aload_0 (B 31 _ rfl)) 0 rfl (n := 32) rfl ?_
    refine Vw.iconst (v := 1) (de_iconst_1 (B 32 _ rfl)) rfl (n := 33) rfl ?_
    refine Vw.putZ (de_putfield (B 33 _ rfl) (B 34 _ rfl) (B 35 _ rfl)) fl_X12_486 hM.k rfl rfl rfl rfl (n := 36) rfl ?_
    refine Vw.aload_n (de_aload_0 (B 36 _ rfl)) 0 rfl (n := 37) rfl ?_
    refine Vw.aload_n (de_aload_0 (B 37 _ rfl)) 0 rfl (n := 38) rfl ?_
    refine Vw.ivi0 (mi' := mX12_people) (de_invokevirtual (B 38 _ rfl) (B 39 _ rfl) (B 40 _ rfl)) ml_X12_121 mv_X12_people hM.k (Nat.le_of_ble_eq_true rfl) (n := 41) rfl (c_X12_people hM ?_)
    rw [up2_row (show r + 2 ≠ r by omega), up2_row (show r + 2 ≠ r by omega), e142]
    refine Vw.putI (de_putfield (B 41 _ rfl) (B 42 _ rfl) (B 43 _ rfl)) fl_X12_489 hM.k rfl rfl (n := 44) rfl ?_
    refine Vw.aload_n (de_aload_0 (B 44 _ rfl)) 0 rfl (n := 45) rfl ?_
    refine Vw.iconst (v := 0) (de_iconst_0 (B 45 _ rfl)) rfl (n := 46) rfl ?_
    refine Vw.ivv1 (mi' := mX12_laysAside) (de_invokevirtual (B 46 _ rfl) (B 47 _ rfl) (B 48 _ rfl)) ml_X12_431 mv_X12_laysAside hM.k (Nat.le_of_ble_eq_true rfl) (n := 49) rfl (c_X12_laysAside (k := 0) hM (by decide) ?_)
    refine Vw.iconst (v := 0) (de_iconst_0 (B 49 _ rfl)) rfl (n := 50) rfl ?_
    refine Vw.istore_n (lv2 := [(0, _), (1, _), (2, _), (3, _)]) (de_istore_3 (B 50 _ rfl)) rfl (by decide) [1, 2, 3, 0] rfl (n := 51) rfl ?_
    have lk : ∀ k, cpR (up2 (up2 (up2 I r 55 (nI s)) r 56 1) r 54 (nI np)) (r + 2) (r + 5) 0 (122 * 0) 122 r k = (up2 (up2 (up2 I r 55 (nI s)) r 56 1) r 54 (nI np)) r k := fun k => cpR_o (by omega)
    refine loop1 s n hs hn1 hn rfl rfl 0 (Nat.zero_le _) _ (fun a k h1 h2 h3 h4 h5 h6 => ?_) ?_ (fun x hx => ?_) ?_ ?_ ?_ (fun u hu => absurd hu (Nat.not_lt_zero _))
    · rw [cpR_o h4]; simp (disch := omega) only [up2_n]
    · funext k; rw [cpR_o (by omega), up2_a (by omega), up2_a (by omega), up2_a (by omega)]
    · rw [cpR_i (by omega) (by omega), show 0 + (x - 122 * 0) = x by omega, up2_a (by omega), up2_a (by omega), up2_a (by omega)]
    · rw [lk, up2_s]
    · rw [lk, up2_k (by decide), up2_k (by decide), up2_s]
    · rw [lk, up2_k (by decide), up2_s]
  refine Vw.aload_n (de_aload_0 (B 20 _ rfl)) 0 rfl (n := 21) rfl ?_
  refine Vw.iconst (v := -1) (de_iconst_m1 (B 21 _ rfl)) rfl (n := 22) rfl ?_
  refine Vw.ivi1 (mi' := mX12_refuses) (de_invokevirtual (B 22 _ rfl) (B 23 _ rfl) (B 24 _ rfl)) ml_X12_115 mv_X12_refuses hM.k (Nat.le_of_ble_eq_true rfl) (n := 25) rfl (c_X12_refuses hM (j := 1) ⟨rfl, by decide, by decide⟩ ?_)
  exact Vw.iret (de_ireturn (B 25 _ rfl)) rfl ⟨_, rfl, (h1 (by first | exact Or.inl c_7 | exact Or.inr c_17))⟩
