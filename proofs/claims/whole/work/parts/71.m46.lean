/-! orders() -/
def scrK (x : Nat) : Prop := x = 152 ∨ (2553 ≤ x ∧ x < 2953) ∨ 5353 ≤ x
def SameK (K G : Nat → Int32) : Prop := ∀ x, ¬ scrK x → G x = K x
theorem WD.scr {K G : Nat → Int32} {W : tW} (h : WD K W) (e : SameK K G) : WD G W := by
  obtain ⟨⟨⟨np, h1, h2⟩, h3⟩, h4⟩ := h
  have e2 : ∀ x, 141 ≤ x → x < 152 → G x = K x := fun x _ _ => e x (by unfold scrK; omega)
  refine ⟨⟨⟨np, h1, by rw [e2 _ (by decide) (by decide)]; exact h2⟩, ?_⟩, by rw [e2 _ (by decide) (by decide)]; exact h4⟩
  rcases h3 with ⟨h5, h6⟩ | ⟨t, cs, h5, h6, ⟨cd, vl, nt, k1, k2, k3, k4, k5⟩, h8⟩
  · exact Or.inl ⟨by rw [e2 _ (by decide) (by decide)]; exact h5, h6⟩
  · exact Or.inr ⟨t, cs, h5, by rw [e2 _ (by decide) (by decide)]; exact h6, ⟨cd, vl, nt, fun i hi => ⟨(e _ (by unfold scrK; omega)).trans (k1 i hi).1, (e _ (by unfold scrK; omega)).trans (k1 i hi).2⟩, k2, k3, (e _ (by unfold scrK; omega)).trans k4, k5⟩, h8⟩
def ClO (cd vl : Nat → Int32) (nt : Nat) : List tC → Nat → Prop
  | [], k => nt ≤ k
  | c :: cs, k => k ≤ nt ∧ ∃ l j l2, pOrder cd vl true k l = .ok (j, l2, c) ∧ ClO cd vl nt cs (j + 1)
theorem pRest_C {cd vl : Nat → Int32} {nt : Nat} (h0 : cd nt = 0) : ∀ m j l acc cs, j ≤ nt → pRest cd vl true nt m j l acc = .ok cs → ∃ rest, cs = acc ++ rest ∧ ClO cd vl nt rest (j + 1) := by
  intro m
  induction m with
  | zero =>
    intro j l acc cs hj h
    rcases pRest_inv h with ⟨h1, h2, h3⟩ | ⟨h1, m2, _, _, _, h2, _⟩
    · exact ⟨[], by rw [h3, List.append_nil], by show nt ≤ j + 1; omega⟩
    · cases h2
  | succ m ih =>
    intro j l acc cs hj h
    rcases pRest_inv h with ⟨h1, h2, h3⟩ | ⟨h1, m2, j2, l2, c, h2, h3, h4⟩
    · exact ⟨[], by rw [h3, List.append_nil], by show nt ≤ j + 1; omega⟩
    · cases h2
      rw [pOne, if_pos rfl] at h3
      have e := Bd_lt h0 hj (by rw [h1]; decide)
      have e2 := pOrder_b h0 e h3
      obtain ⟨rest, r1, r2⟩ := ih j2 l2 (acc ++ [c]) cs e2.2 h4
      exact ⟨c :: rest, by rw [r1, List.append_assoc]; rfl, e, l, j2, l2, h3, r2⟩
theorem pText_C {cd vl : Nat → Int32} {nt : Nat} {cs : List tC} (h0 : cd nt = 0) (h : pText cd vl true nt = .ok cs) : ClO cd vl nt cs 0 := by
  unfold pText at h
  cases hq : pOne cd vl true 0 0 with
  | error e => rw [hq] at h; cases h
  | ok q =>
    obtain ⟨j, l, c⟩ := q
    rw [hq] at h
    rw [pOne, if_pos rfl] at hq
    have e2 := pOrder_b h0 (Nat.zero_le _) hq
    obtain ⟨rest, r1, r2⟩ := pRest_C h0 11 j l [c] cs e2.2 h
    rw [r1]
    exact ⟨Nat.zero_le _, 0, j, l, hq, r2⟩
def Fw (r : Nat) (I I2 : vI) : Prop := ∀ a k, ¬ (a = r ∧ (k = 8 ∨ k = 11 ∨ k = 12 ∨ 16 ≤ k ∧ k ≤ 29 ∨ k = 32 ∨ 43 ≤ k ∧ k ≤ 50 ∨ k = 55)) → a ≠ r + 2 → a ≠ r + 5 → ¬ (r + 9 ≤ a ∧ a ≤ r + 15) → I2 a k = I a k
theorem Fz.fw {r : Nat} {I I2 : vI} (h : Fz r I I2) : Fw r I I2 := fun a k h1 h2 h3 h4 => h a k (by omega) h2 (by omega) (by omega) (by omega)
theorem Fw.trans {r : Nat} {I I2 I3 : vI} (h : Fw r I I2) (g : Fw r I2 I3) : Fw r I I3 := fun a k h1 h2 h3 h4 => (g a k h1 h2 h3 h4).trans (h a k h1 h2 h3 h4)
theorem mLay_scr {I : vI} {r nt : Nat} (hn : nt ≤ 400) : SameK (I (r + 2)) (mLay I r 6 nt nt (r + 2)) := by
  intro x hx
  unfold scrK at hx
  unfold mLay
  rw [if_neg (by omega), if_neg (by omega), if_neg (by omega)]
theorem mLay_row {I : vI} {r nt i : Nat} (hn : nt ≤ 400) (hi : i < nt) : mLay I r 6 nt nt (r + 2) (153 + 2400 + i) = I (r + 9) i ∧ mLay I r 6 nt nt (r + 2) (2953 + 2400 + i) = I (r + 10) i := by
  unfold mLay
  refine ⟨?_, ?_⟩
  · rw [if_neg (by omega), if_pos (by omega), show 153 + 2400 + i - (153 + 400 * 6) = i by omega]
  · rw [if_neg (by omega), if_neg (by omega), if_pos (by omega), show 2953 + 2400 + i - (2953 + 400 * 6) = i by omega]
theorem c_X12_orders {d : Nat} {S : vS} {I : vI} {L : vL} {Q : Int32 → vS → vI → vL → Prop} {r : Nat} {np nc u n : Nat} {W : tW} (hM : MS S r) (hW : WD (I (r + 2)) W) (hT : TN (I (r + 2)) np nc) (hu : I r 32 = nI u) (h16 : u ≤ 16) (ht : I r 11 = nI n) (hn : n ≤ 400) (hWd : Wd (I (r + 6)) WL 0)
  (h1 : ∀ J nt f t l, RD (up2 (up2 I r 43 (-1)) r 8 1) J r n nt → nt ≤ 400 → txt J r nt = .error f → f ≤ nt → Q (-6) S (mRef (up2 (pm J r t l (J (r + 11) f)) r 12 (J (r + 11) f)) r (-6) 6) L)
  (h2 : ∀ J nt cs K1 m, RD (up2 (up2 I r 43 (-1)) r 8 1) J r n nt → nt ≤ 400 → txt J r nt = .ok cs → SameK (I (r + 2)) K1 → ordsP W np nc cs 0 (K1, I (r + 14), u, 0, 0) = .error m → ∀ I2 M, Fw r I I2 → Ls r L M → I2 r 11 = 0 → I2 r 12 = -1 → I2 r 43 = nI m → SameK (I (r + 2)) (I2 (r + 2)) → (∀ x, x < 1968 → I2 (r + 14) x = I (r + 14) x) → I2 r 32 = nI u → Q (-3) S (mRef I2 r (-3) 3) M)
  (h : ∀ J nt cs K1 s2, RD (up2 (up2 I r 43 (-1)) r 8 1) J r n nt → nt ≤ 400 → txt J r nt = .ok cs → SameK (I (r + 2)) K1 → ordsP W np nc cs 0 (K1, I (r + 14), u, 0, 0) = .ok s2 → ∀ I2 M, Fw r I I2 → Ls r L M → I2 r 11 = 0 → I2 r 12 = -1 → I2 r 43 = -1 → I2 (r + 2) = s2.1 → StO np nc K1 s2 → I2 (r + 14) = s2.2.1 → I2 r 32 = nI s2.2.2.1 → Q s2.2.2.2.1 S (mGood I2 r) M) : Vc mX12_orders (d + 50) 0 0 [.ref r] S I L (ViQ Q) := by
  refine Vc.of rfl (Nat.le_of_ble_eq_true rfl) ?_
  have B := bs_X12_orders
  show Vw mX12_orders (d + 50) 0 0 0 0 (ViQ Q) 0 [(0, .ref r)] [] S I L
  have hnp := hT.1
  have hnc := hT.2.1
  have e142 := hT.2.2.1
  have e112 := hT.2.2.2.1
  have bad : ∀ J nt cs K1 mm, RD (up2 (up2 I r 43 (-1)) r 8 1) J r n nt → nt ≤ 400 → txt J r nt = .ok cs → SameK (I (r + 2)) K1 → ordsP W np nc cs 0 (K1, I (r + 14), u, 0, 0) = .error mm → ∀ J2 M, Fw r I J2 → Ls r L M → J2 r 11 = 0 → J2 r 12 = -1 → SameK (I (r + 2)) (J2 (r + 2)) → (∀ x, x < 1968 → J2 (r + 15) x = I (r + 14) x) → ∀ j, j ≤ 1968 → Vw mX12_orders (d + 50) 0 0 0 0 (ViQ Q) 127 [(0, .ref r), (1, .int (nI u)), (2, .int (nI (2400 + nt))), (3, .int (nI mm)), (4, .int (nI j))] [] S (cpR J2 (r + 15) (r + 14) 0 0 j) M := by
    intro J nt cs K1 mm g1 g2 g3 g4 g5 J2 M fJ fM e11 e12 eK eL
    refine loop_up (fun j hj ih => ?_)
    refine Vw.iload (de_iload (B 127 _ rfl) (B 128 _ rfl)) 4 rfl (n := 129) rfl ?_
    refine Vw.sipush (v := 1968) (de_sipush (B 129 _ rfl) (B 130 _ rfl) (B 131 _ rfl)) rfl (n := 132) rfl ?_
    refine Vw.icmp_ge (tgt := 155) (n := 135) (de_icmp_ge (B 132 _ rfl) (B 133 _ rfl) (B 134 _ rfl)) rfl rfl (fun c_132 => ?_) (fun c_132 => ?_)
    · have z_132 : 1968 ≤ j := ((nI_leI (a := 1968) (b := j) (by omega) (by omega)).mp c_132)
      obtain rfl : j = 1968 := by omega
      refine Vw.aload_n (de_aload_0 (B 155 _ rfl)) 0 rfl (n := 156) rfl ?_
      refine Vw.iload_n (de_iload_1 (B 156 _ rfl)) 1 rfl (n := 157) rfl ?_
      refine Vw.putI (de_putfield (B 157 _ rfl) (B 158 _ rfl) (B 159 _ rfl)) fl_X12_11 hM.k rfl rfl (n := 160) rfl ?_
      refine Vw.aload_n (de_aload_0 (B 160 _ rfl)) 0 rfl (n := 161) rfl ?_
      refine Vw.iload_n (de_iload_3 (B 161 _ rfl)) 3 rfl (n := 162) rfl ?_
      refine Vw.putI (de_putfield (B 162 _ rfl) (B 163 _ rfl) (B 164 _ rfl)) fl_X12_99 hM.k rfl rfl (n := 165) rfl ?_
      refine Vw.aload_n (de_aload_0 (B 165 _ rfl)) 0 rfl (n := 166) rfl ?_
      refine Vw.bipush (v := -3) (de_bipush (B 166 _ rfl) (B 167 _ rfl)) rfl (n := 168) rfl ?_
      refine Vw.ivi1 (mi' := mX12_refuses) (de_invokevirtual (B 168 _ rfl) (B 169 _ rfl) (B 170 _ rfl)) ml_X12_115 mv_X12_refuses hM.k (Nat.le_of_ble_eq_true rfl) (n := 171) rfl (c_X12_refuses hM (j := 3) ⟨rfl, by decide, by decide⟩ ?_)
      exact Vw.iret (de_ireturn (B 171 _ rfl)) rfl ⟨_, rfl, (h2 J nt cs K1 mm g1 g2 g3 g4 g5 _ M (fJ.trans (fun a k q1 q2 q3 q4 => by rw [up2_n (by omega), up2_n (by omega), cpR_o (by omega)])) fM
    (by rw [up2_k (by decide), up2_k (by decide), cpR_o (by omega)]; exact e11) (by rw [up2_k (by decide), up2_k (by decide), cpR_o (by omega)]; exact e12) (up2_s _ _ _ _)
    (fun x hx => by rw [up2_a (by omega), up2_a (by omega), cpR_o (by omega)]; exact eK x hx)
    (fun x hx => by rw [up2_a (by omega), up2_a (by omega), cpR_i (by omega) (by omega), show 0 + (x - 0) = x by omega]; exact eL x hx)
    (by rw [up2_k (by decide), up2_s]))⟩
    have z_132 : j < 1968 := by rcases Nat.lt_or_ge j 1968 with z | z; exact z; exact absurd ((nI_leI (a := 1968) (b := j) (by omega) (by omega)).mpr z) c_132
    refine Vw.aload_n (de_aload_0 (B 135 _ rfl)) 0 rfl (n := 136) rfl ?_
    refine Vw.getR (de_getfield (B 136 _ rfl) (B 137 _ rfl) (B 138 _ rfl)) fl_X12_65 rfl hM.k (MS_left hM).1 (n := 139) rfl ?_
    refine Vw.iload (de_iload (B 139 _ rfl) (B 140 _ rfl)) 4 rfl (n := 141) rfl ?_
    refine Vw.aload_n (de_aload_0 (B 141 _ rfl)) 0 rfl (n := 142) rfl ?_
    refine Vw.getR (de_getfield (B 142 _ rfl) (B 143 _ rfl) (B 144 _ rfl)) fl_X12_68 rfl hM.k (MS_leftAhead hM).1 (n := 145) rfl ?_
    refine Vw.iload (de_iload (B 145 _ rfl) (B 146 _ rfl)) 4 rfl (n := 147) rfl ?_
    refine Vw.iald (de_iaload (B 147 _ rfl)) (MS_leftAhead hM).2 (vIx_n (k := j) (by simp only [nI_A, nI_M, Int32.zero_add, Int32.add_zero] <;> rfl) (by omega)) (n := 148) rfl ?_
    refine Vw.iast (de_iastore (B 148 _ rfl)) (MS_left hM).2 (vIx_n (k := j) (by simp only [nI_A, nI_M, Int32.zero_add, Int32.add_zero] <;> rfl) (by omega)) (n := 149) rfl ?_
    refine Vw.iinc (v := nI (j + 1)) (lv2 := [(0, _), (1, _), (2, _), (3, _), (4, _)]) (de_iinc (B 149 _ rfl) (B 150 _ rfl) (B 151 _ rfl)) 4 rfl (nI_1 j) (by decide) [1, 2, 3, 4, 0] rfl (n := 152) rfl ?_
    refine Vw.goto_ (n := 127) (de_goto_ (B 152 _ rfl) (B 153 _ rfl) (B 154 _ rfl)) rfl ?_
    rw [cpR_step (by omega) (by omega) (by omega)]
    exact ih z_132
  have run : ∀ J nt cs K1, RD (up2 (up2 I r 43 (-1)) r 8 1) J r n nt → nt ≤ 400 → txt J r nt = .ok cs → SameK (I (r + 2)) K1 → ∀ rest k n2 s, ClO (J (r + 9)) (J (r + 10)) nt rest k → ordsP W np nc cs 0 (K1, I (r + 14), u, 0, 0) = ordsP W np nc rest n2 s → StO np nc K1 s → RowO K1 nt (J (r + 9)) (J (r + 10)) → ∀ J2 M, Fw r I J2 → Ls r L M → J2 r 11 = 0 → J2 r 12 = -1 → J2 r 43 = -1 → (∀ x, x < 1968 → J2 (r + 15) x = I (r + 14) x) → (∀ x, x < 122 → J2 (r + 5) (122 + x) = I (r + 2) x) → OS J2 r s → J2 r 46 = nI (2400 + k) → k ≤ nt + 1 → Vw mX12_orders (d + 50) 0 0 0 0 (ViQ Q) 100 [(0, .ref r), (1, .int (nI u)), (2, .int (nI (2400 + nt))), (3, .int (nI n2))] [] S J2 M := by
    intro J nt cs K1 g1 g2 g3 g4 rest
    induction rest with
    | nil =>
      intro k n2 s hC hE hS hR J2 M fJ fM e11 e12 e43 eL eA oS e46 hk
      refine Vw.aload_n (de_aload_0 (B 100 _ rfl)) 0 rfl (n := 101) rfl ?_
      refine Vw.getI (de_getfield (B 101 _ rfl) (B 102 _ rfl) (B 103 _ rfl)) fl_X12_440 rfl hM.k (n := 104) rfl ?_
      rw [e46]
      refine Vw.iload_n (de_iload_2 (B 104 _ rfl)) 2 rfl (n := 105) rfl ?_
      refine Vw.icmp_ge (tgt := 178) (n := 108) (de_icmp_ge (B 105 _ rfl) (B 106 _ rfl) (B 107 _ rfl)) rfl rfl (fun c_105 => ?_) (fun c_105 => ?_)
      · refine Vw.aload_n (de_aload_0 (B 178 _ rfl)) 0 rfl (n := 179) rfl ?_
        refine Vw.aload_n (de_aload_0 (B 179 _ rfl)) 0 rfl (n := 180) rfl ?_
        refine Vw.getI (de_getfield (B 180 _ rfl) (B 181 _ rfl) (B 182 _ rfl)) fl_X12_434 rfl hM.k (n := 183) rfl ?_
        rw [oS.2.2.2.1]
        refine Vw.ivi1 (mi' := mX12_good) (de_invokevirtual (B 183 _ rfl) (B 184 _ rfl) (B 185 _ rfl)) ml_X12_14 mv_X12_good hM.k (Nat.le_of_ble_eq_true rfl) (n := 186) rfl (c_X12_good hM ?_)
        exact Vw.iret (de_ireturn (B 186 _ rfl)) rfl ⟨_, rfl, (h J nt cs K1 s g1 g2 g3 g4 hE _ M fJ fM e11 e12 e43 oS.1 hS oS.2.1 oS.2.2.1)⟩
      exact absurd ((nI_leI (a := 2400 + nt) (b := 2400 + k) (by omega) (by omega)).mpr (Nat.add_le_add_left hC 2400)) c_105
    | cons c rest ih =>
      intro k n2 s hC hE hS hR J2 M fJ fM e11 e12 e43 eL eA oS e46 hk
      obtain ⟨hk2, l, j, l2, hP, hC2⟩ := hC
      have hb := pOrder_b hR.2.1 hk2 hP
      rw [ordsP] at hE
      have kJ := oS.1
      have hK : SameK (I (r + 2)) K1 := g4
      have hWJ : WD (J2 (r + 2)) W := by rw [kJ]; exact (hW.scr g4).of (fun x hx => hS.2.1 x (by omega))
      have hRJ : RowO (J2 (r + 2)) nt (J (r + 9)) (J (r + 10)) := by
        rw [kJ]
        exact ⟨fun i hi => ⟨(hS.2.1 _ (by omega)).trans (hR.1 i hi).1, (hS.2.1 _ (by omega)).trans (hR.1 i hi).2⟩, hR.2⟩
      refine Vw.aload_n (de_aload_0 (B 100 _ rfl)) 0 rfl (n := 101) rfl ?_
      refine Vw.getI (de_getfield (B 101 _ rfl) (B 102 _ rfl) (B 103 _ rfl)) fl_X12_440 rfl hM.k (n := 104) rfl ?_
      rw [e46]
      refine Vw.iload_n (de_iload_2 (B 104 _ rfl)) 2 rfl (n := 105) rfl ?_
      refine Vw.icmp_ge (tgt := 178) (n := 108) (de_icmp_ge (B 105 _ rfl) (B 106 _ rfl) (B 107 _ rfl)) rfl rfl (fun c_105 => ?_) (fun c_105 => ?_)
      · exact absurd ((nI_leI (a := 2400 + nt) (b := 2400 + k) (by omega) (by omega)).mp c_105) (by omega)
      refine Vw.aload_n (de_aload_0 (B 108 _ rfl)) 0 rfl (n := 109) rfl ?_
      refine Vw.iload_n (de_iload_2 (B 109 _ rfl)) 2 rfl (n := 110) rfl ?_
      refine Vw.ivi1 (mi' := mX12_runs) (de_invokevirtual (B 110 _ rfl) (B 111 _ rfl) (B 112 _ rfl)) ml_X12_443 mv_X12_runs hM.k (Nat.le_of_ble_eq_true rfl) (n := 113) rfl (c_X12_runs (W := W) (np := np) (nc := nc) (k := k) (l := l) (j := j) (l2 := l2) (c := c) (s := s) hM hWJ hRJ e46 hk2 hP oS ⟨hS.1, fun _ _ => rfl, hS.2.2⟩ (fun a1 I3 M3 f3 m3 r3 => ?_) (fun s3 a1 I3 M3 f3 m3 o3 k3 e3 => ?_))
      · rw [a1] at hE
        have fM3 : Ls r L M3 := fun a k q => (m3 a k q).trans (fM a k q)
        refine Vw.if_eq (tgt := 119) (n := 116) (de_if_eq (B 113 _ rfl) (B 114 _ rfl) (B 115 _ rfl)) rfl rfl (fun c_113 => ?_) (fun c_113 => ?_)
        · refine Vw.aload_n (de_aload_0 (B 119 _ rfl)) 0 rfl (n := 120) rfl ?_
          refine Vw.iconst (v := 1) (de_iconst_1 (B 120 _ rfl)) rfl (n := 121) rfl ?_
          refine Vw.ivv1 (mi' := mX12_takesBack) (de_invokevirtual (B 121 _ rfl) (B 122 _ rfl) (B 123 _ rfl)) ml_X12_446 mv_X12_takesBack hM.k (Nat.le_of_ble_eq_true rfl) (n := 124) rfl (c_X12_takesBack (k := 1) hM (by decide) ?_)
          refine Vw.iconst (v := 0) (de_iconst_0 (B 124 _ rfl)) rfl (n := 125) rfl ?_
          refine Vw.istore (lv2 := [(0, _), (1, _), (2, _), (3, _), (4, _)]) (de_istore (B 125 _ rfl) (B 126 _ rfl)) (by decide) [1, 2, 3, 4, 0] rfl (n := 127) rfl ?_
          have g := bad J nt cs K1 n2 g1 g2 g3 g4 hE (cpR I3 (r + 5) (r + 2) (122 * 1) 0 122) M3 ((fJ.trans f3.fw).trans (fun a k q1 q2 q3 q4 => cpR_o q2)) fM3 (by rw [cpR_o (by omega), f3 _ _ (by omega) (by omega) (by omega) (by omega) (by omega)]; exact e11) (by rw [cpR_o (by omega), f3 _ _ (by omega) (by omega) (by omega) (by omega) (by omega)]; exact e12) (fun x hx => by
            by_cases hx2 : x < 122
            · rw [cpR_i (by omega) (by omega), show 122 * 1 + (x - 0) = 122 + x by omega, f3 _ _ (by omega) (by omega) (by omega) (by omega) (by omega)]; exact eA x hx2
            · rw [cpR_u (by omega), r3 x (by omega), kJ, hS.2.1 x (by omega)]; exact g4 x hx) (fun x hx => by rw [cpR_o (by omega), f3 _ _ (by omega) (by omega) (by omega) (by omega) (by omega)]; exact eL x hx) 0 (Nat.zero_le _)
          rw [cpR_0] at g
          exact g
        exact absurd rfl c_113
      · rw [a1] at hE
        have fM3 : Ls r L M3 := fun a k q => (m3 a k q).trans (fM a k q)
        refine Vw.if_eq (tgt := 119) (n := 116) (de_if_eq (B 113 _ rfl) (B 114 _ rfl) (B 115 _ rfl)) rfl rfl (fun c_113 => ?_) (fun c_113 => ?_)
        · exact absurd c_113 (by decide)
        refine Vw.goto_ (n := 172) (de_goto_ (B 116 _ rfl) (B 117 _ rfl) (B 118 _ rfl)) rfl ?_
        refine Vw.iinc (v := nI (n2 + 1)) (lv2 := [(0, _), (1, _), (2, _), (3, _)]) (de_iinc (B 172 _ rfl) (B 173 _ rfl) (B 174 _ rfl)) 3 rfl (nI_1 n2) (by decide) [1, 2, 3, 0] rfl (n := 175) rfl ?_
        refine Vw.goto_ (n := 100) (de_goto_ (B 175 _ rfl) (B 176 _ rfl) (B 177 _ rfl)) rfl ?_
        exact ih (j + 1) (n2 + 1) s3 hC2 hE ⟨k3.1, fun x hx => (k3.2.1 x hx).trans (hS.2.1 x hx), k3.2.2⟩ hR I3 M3 (fJ.trans f3.fw) fM3 ((f3 _ _ (by omega) (by omega) (by omega) (by omega) (by omega)).trans e11) ((f3 _ _ (by omega) (by omega) (by omega) (by omega) (by omega)).trans e12) ((f3 _ _ (by omega) (by omega) (by omega) (by omega) (by omega)).trans e43) (fun x hx => (f3 _ _ (by omega) (by omega) (by omega) (by omega) (by omega)).trans (eL x hx)) (fun x hx => (f3 _ _ (by omega) (by omega) (by omega) (by omega) (by omega)).trans (eA x hx)) o3 e3 (by omega)
  have copy : ∀ J nt cs t l, RD (up2 (up2 I r 43 (-1)) r 8 1) J r n nt → nt ≤ 400 → txt J r nt = .ok cs → ∀ j, j ≤ 1968 → Vw mX12_orders (d + 50) 0 0 0 0 (ViQ Q) 31 [(0, .ref r), (1, .int (nI j))] [] S (cpR (cpR (up2 (pm J r t l (-1)) r 12 (-1)) (r + 2) (r + 5) 0 (122 * 1) 122) (r + 14) (r + 15) 0 0 j) L := by
    intro J nt cs t l g1 g2 g3
    have oJ : ∀ a k, ¬ (a = r ∧ (k = 8 ∨ k = 43 ∨ k = 16 ∨ k = 11)) → a ≠ r + 9 → a ≠ r + 10 → a ≠ r + 11 → J a k = I a k := by
      intro a k q1 q2 q3 q4
      rw [g1.same q2 q3 q4 (by omega) (by omega), up2_n (by omega), up2_n (by omega)]
    have o1 : ∀ a k, ¬ (a = r ∧ (k = 8 ∨ k = 43 ∨ 16 ≤ k ∧ k ≤ 19 ∨ k = 11 ∨ k = 12)) → a ≠ r + 9 → a ≠ r + 10 → a ≠ r + 11 → (up2 (pm J r t l (-1)) r 12 (-1)) a k = I a k := by
      intro a k q1 q2 q3 q4
      rw [up2_n (by omega)]
      by_cases ha : a = r
      · rw [ha, pm_k (by omega) (by omega) (by omega), ← ha]; exact oJ a k (by omega) q2 q3 q4
      · rw [pm_o ha]; exact oJ a k (by omega) q2 q3 q4
    have c1 : ∀ j a k, a ≠ r + 5 → a ≠ r + 15 → (cpR (cpR (up2 (pm J r t l (-1)) r 12 (-1)) (r + 2) (r + 5) 0 (122 * 1) 122) (r + 14) (r + 15) 0 0 j) a k = (up2 (pm J r t l (-1)) r 12 (-1)) a k := by
      intro j a k q1 q2
      rw [cpR_o q2, cpR_o q1]
    have p9 : ∀ a k, a ≠ r → (up2 (pm J r t l (-1)) r 12 (-1)) a k = J a k := by
      intro a k q
      rw [up2_a q, pm_o q]
    refine loop_up (fun j hj ih => ?_)
    refine Vw.iload_n (de_iload_1 (B 31 _ rfl)) 1 rfl (n := 32) rfl ?_
    refine Vw.sipush (v := 1968) (de_sipush (B 32 _ rfl) (B 33 _ rfl) (B 34 _ rfl)) rfl (n := 35) rfl ?_
    refine Vw.icmp_ge (tgt := 56) (n := 38) (de_icmp_ge (B 35 _ rfl) (B 36 _ rfl) (B 37 _ rfl)) rfl rfl (fun c_35 => ?_) (fun c_35 => ?_)
    · have z_35 : 1968 ≤ j := ((nI_leI (a := 1968) (b := j) (by omega) (by omega)).mp c_35)
      obtain rfl : j = 1968 := by omega
      refine Vw.aload_n (de_aload_0 (B 56 _ rfl)) 0 rfl (n := 57) rfl ?_
      refine Vw.getI (de_getfield (B 57 _ rfl) (B 58 _ rfl) (B 59 _ rfl)) fl_X12_11 rfl hM.k (n := 60) rfl ?_
      rw [show (cpR (cpR (up2 (pm J r t l (-1)) r 12 (-1)) (r + 2) (r + 5) 0 (122 * 1) 122) (r + 14) (r + 15) 0 0 1968) r 32 = nI u from by rw [c1 _ _ _ (by omega) (by omega), o1 _ _ (by omega) (by omega) (by omega) (by omega)]; exact hu]
      refine Vw.istore_n (lv2 := [(0, _), (1, _)]) (de_istore_1 (B 60 _ rfl)) rfl (by decide) [1, 0] rfl (n := 61) rfl ?_
      refine Vw.aload_n (de_aload_0 (B 61 _ rfl)) 0 rfl (n := 62) rfl ?_
      refine Vw.bipush (v := 6) (de_bipush (B 62 _ rfl) (B 63 _ rfl)) rfl (n := 64) rfl ?_
      have h16b : (cpR (cpR (up2 (pm J r t l (-1)) r 12 (-1)) (r + 2) (r + 5) 0 (122 * 1) 122) (r + 14) (r + 15) 0 0 1968) r 16 = nI nt := by rw [c1 _ _ _ (by omega) (by omega), up2_k (by decide), pm_k (by decide) (by decide) (by decide)]; exact (g1.ok g2 hn).2
      refine Vw.ivv1 (mi' := mX12_lays) (de_invokevirtual (B 64 _ rfl) (B 65 _ rfl) (B 66 _ rfl)) ml_X12_264 mv_X12_lays hM.k (Nat.le_of_ble_eq_true rfl) (n := 67) rfl (c_X12_lays (t := 6) hM h16b g2 (by decide) ?_)
      refine Vw.aload_n (de_aload_0 (B 67 _ rfl)) 0 rfl (n := 68) rfl ?_
      refine Vw.iconst (v := 0) (de_iconst_0 (B 68 _ rfl)) rfl (n := 69) rfl ?_
      refine Vw.putI (de_putfield (B 69 _ rfl) (B 70 _ rfl) (B 71 _ rfl)) fl_X12_434 hM.k rfl rfl (n := 72) rfl ?_
      refine Vw.aload_n (de_aload_0 (B 72 _ rfl)) 0 rfl (n := 73) rfl ?_
      refine Vw.iconst (v := 0) (de_iconst_0 (B 73 _ rfl)) rfl (n := 74) rfl ?_
      refine Vw.putI (de_putfield (B 74 _ rfl) (B 75 _ rfl) (B 76 _ rfl)) fl_X12_437 hM.k rfl rfl (n := 77) rfl ?_
      refine Vw.aload_n (de_aload_0 (B 77 _ rfl)) 0 rfl (n := 78) rfl ?_
      refine Vw.sipush (v := 2400) (de_sipush (B 78 _ rfl) (B 79 _ rfl) (B 80 _ rfl)) rfl (n := 81) rfl ?_
      refine Vw.putI (de_putfield (B 81 _ rfl) (B 82 _ rfl) (B 83 _ rfl)) fl_X12_440 hM.k rfl rfl (n := 84) rfl ?_
      refine Vw.aload_n (de_aload_0 (B 84 _ rfl)) 0 rfl (n := 85) rfl ?_
      refine Vw.getI (de_getfield (B 85 _ rfl) (B 86 _ rfl) (B 87 _ rfl)) fl_X12_440 rfl hM.k (n := 88) rfl ?_
      rw [up2_s]
      refine Vw.aload_n (de_aload_0 (B 88 _ rfl)) 0 rfl (n := 89) rfl ?_
      refine Vw.getR (de_getfield (B 89 _ rfl) (B 90 _ rfl) (B 91 _ rfl)) fl_X12_24 rfl hM.k (MS_kept hM).1 (n := 92) rfl ?_
      refine Vw.sipush (v := 152) (de_sipush (B 92 _ rfl) (B 93 _ rfl) (B 94 _ rfl)) rfl (n := 95) rfl ?_
      refine Vw.iald (de_iaload (B 95 _ rfl)) (MS_kept hM).2 (j := 152) ⟨rfl, by decide, by decide⟩ (n := 96) rfl ?_
      rw [up2_a (show r + 2 ≠ r by omega), up2_a (show r + 2 ≠ r by omega), up2_a (show r + 2 ≠ r by omega), show (mLay (cpR (cpR (up2 (pm J r t l (-1)) r 12 (-1)) (r + 2) (r + 5) 0 (122 * 1) 122) (r + 14) (r + 15) 0 0 1968) r 6 nt nt) (r + 2) 152 = nI nt from by unfold mLay; rw [if_pos ⟨rfl, rfl⟩]]
      refine Vw.iadd (de_iadd (B 96 _ rfl)) (n := 97) rfl ?_
      rw [show (2400 : Int32) + nI nt = nI (2400 + nt) from (nI_A 2400 nt).symm]
      refine Vw.istore_n (lv2 := [(0, _), (1, _), (2, _)]) (de_istore_2 (B 97 _ rfl)) rfl (by decide) [1, 2, 0] rfl (n := 98) rfl ?_
      refine Vw.iconst (v := 0) (de_iconst_0 (B 98 _ rfl)) rfl (n := 99) rfl ?_
      refine Vw.istore_n (lv2 := [(0, _), (1, _), (2, _), (3, _)]) (de_istore_3 (B 99 _ rfl)) rfl (by decide) [1, 2, 3, 0] rfl (n := 100) rfl ?_
      have hg9 : (J (r + 9)) nt = 0 := (g1.ok g2 hn).1.2.1
      have h8 : ¬ J r 8 = 0 := by
        rw [g1.same (by omega) (by omega) (by omega) (by omega) (by omega), up2_s]; decide
      have g3b : pText (J (r + 9)) (J (r + 10)) true nt = .ok cs := by
        have e := g3
        unfold txt at e
        rw [decide_eq_true h8] at e
        exact e
      have cK : (cpR (cpR (up2 (pm J r t l (-1)) r 12 (-1)) (r + 2) (r + 5) 0 (122 * 1) 122) (r + 14) (r + 15) 0 0 1968) (r + 2) = I (r + 2) := funext fun x => by rw [c1 _ _ _ (by omega) (by omega), o1 _ _ (by omega) (by omega) (by omega) (by omega)]
      have bK : SameK (I (r + 2)) ((mLay (cpR (cpR (up2 (pm J r t l (-1)) r 12 (-1)) (r + 2) (r + 5) 0 (122 * 1) 122) (r + 14) (r + 15) 0 0 1968) r 6 nt nt) (r + 2)) := by
        have e := mLay_scr (I := (cpR (cpR (up2 (pm J r t l (-1)) r 12 (-1)) (r + 2) (r + 5) 0 (122 * 1) 122) (r + 14) (r + 15) 0 0 1968)) (r := r) g2
        rw [cK] at e
        exact e
      have bF : (up2 (up2 (up2 (mLay (cpR (cpR (up2 (pm J r t l (-1)) r 12 (-1)) (r + 2) (r + 5) 0 (122 * 1) 122) (r + 14) (r + 15) 0 0 1968) r 6 nt nt) r 44 0) r 45 0) r 46 2400) (r + 2) = (mLay (cpR (cpR (up2 (pm J r t l (-1)) r 12 (-1)) (r + 2) (r + 5) 0 (122 * 1) 122) (r + 14) (r + 15) 0 0 1968) r 6 nt nt) (r + 2) := by rw [up2_row (by omega), up2_row (by omega), up2_row (by omega)]
      have bo : ∀ a k, a ≠ r + 2 → ¬ (a = r ∧ 44 ≤ k ∧ k ≤ 46) → (up2 (up2 (up2 (mLay (cpR (cpR (up2 (pm J r t l (-1)) r 12 (-1)) (r + 2) (r + 5) 0 (122 * 1) 122) (r + 14) (r + 15) 0 0 1968) r 6 nt nt) r 44 0) r 45 0) r 46 2400) a k = (cpR (cpR (up2 (pm J r t l (-1)) r 12 (-1)) (r + 2) (r + 5) 0 (122 * 1) 122) (r + 14) (r + 15) 0 0 1968) a k := by
        intro a k q1 q2
        rw [up2_n (by omega), up2_n (by omega), up2_n (by omega), mLay_o q1]
      have b14 : (up2 (up2 (up2 (mLay (cpR (cpR (up2 (pm J r t l (-1)) r 12 (-1)) (r + 2) (r + 5) 0 (122 * 1) 122) (r + 14) (r + 15) 0 0 1968) r 6 nt nt) r 44 0) r 45 0) r 46 2400) (r + 14) = I (r + 14) := funext fun x => by rw [bo _ _ (by omega) (by omega), c1 _ _ _ (by omega) (by omega), o1 _ _ (by omega) (by omega) (by omega) (by omega)]
      have bT : TN ((mLay (cpR (cpR (up2 (pm J r t l (-1)) r 12 (-1)) (r + 2) (r + 5) 0 (122 * 1) 122) (r + 14) (r + 15) 0 0 1968) r 6 nt nt) (r + 2)) np nc := hT.of (fun x h1 h2 => bK x (by unfold scrK; omega))
      refine run J nt cs ((mLay (cpR (cpR (up2 (pm J r t l (-1)) r 12 (-1)) (r + 2) (r + 5) 0 (122 * 1) 122) (r + 14) (r + 15) 0 0 1968) r 6 nt nt) (r + 2)) g1 g2 g3 bK cs 0 0 ((mLay (cpR (cpR (up2 (pm J r t l (-1)) r 12 (-1)) (r + 2) (r + 5) 0 (122 * 1) 122) (r + 14) (r + 15) 0 0 1968) r 6 nt nt) (r + 2), I (r + 14), u, 0, 0) (pText_C hg9 g3b) rfl ⟨bT, fun _ _ => rfl, h16⟩ ⟨fun i hi => ?_, hg9, g2⟩ _ L ?_ (fun _ _ _ => rfl) ?_ ?_ ?_ (fun x hx => ?_) (fun x hx => ?_) ⟨bF, b14, ?_, ?_, ?_⟩ ?_ (by omega)
      · have e := mLay_row (I := (cpR (cpR (up2 (pm J r t l (-1)) r 12 (-1)) (r + 2) (r + 5) 0 (122 * 1) 122) (r + 14) (r + 15) 0 0 1968)) (r := r) g2 hi
        rw [e.1, e.2, c1 _ _ _ (by omega) (by omega), c1 _ _ _ (by omega) (by omega), p9 _ _ (by omega), p9 _ _ (by omega)]
        exact ⟨rfl, rfl⟩
      · intro a k q1 q2 q3 q4
        rw [bo _ _ q2 (by omega), c1 _ _ _ q3 (by omega), o1 _ _ (by omega) (by omega) (by omega) (by omega)]
      · rw [bo _ _ (by omega) (by omega), c1 _ _ _ (by omega) (by omega), up2_k (by decide), pm_k (by decide) (by decide) (by decide)]
        obtain ⟨I5, _, e5⟩ := g1
        rw [e5, up2_s]
      · rw [bo _ _ (by omega) (by omega), c1 _ _ _ (by omega) (by omega), up2_s]
      · rw [bo _ _ (by omega) (by omega), c1 _ _ _ (by omega) (by omega), up2_k (by decide), pm_k (by decide) (by decide) (by decide), g1.same (by omega) (by omega) (by omega) (by omega) (by omega), up2_k (by decide), up2_s]
      · rw [bo _ _ (by omega) (by omega), cpR_i (by omega) (by omega), show 0 + (x - 0) = x by omega, cpR_o (by omega), o1 _ _ (by omega) (by omega) (by omega) (by omega)]
      · rw [bo _ _ (by omega) (by omega), cpR_o (by omega), cpR_i (by omega) (by omega), show 0 + (122 + x - 122 * 1) = x by omega, o1 _ _ (by omega) (by omega) (by omega) (by omega)]
      · rw [up2_k (by decide), up2_k (by decide), up2_k (by decide), mLay_o (by omega), c1 _ _ _ (by omega) (by omega), o1 _ _ (by omega) (by omega) (by omega) (by omega)]; exact hu
      · rw [up2_k (by decide), up2_k (by decide), up2_s]
      · rw [up2_k (by decide), up2_s]
      · rw [up2_s]; rfl
    have z_35 : j < 1968 := by rcases Nat.lt_or_ge j 1968 with z | z; exact z; exact absurd ((nI_leI (a := 1968) (b := j) (by omega) (by omega)).mpr z) c_35
    refine Vw.aload_n (de_aload_0 (B 38 _ rfl)) 0 rfl (n := 39) rfl ?_
    refine Vw.getR (de_getfield (B 39 _ rfl) (B 40 _ rfl) (B 41 _ rfl)) fl_X12_68 rfl hM.k (MS_leftAhead hM).1 (n := 42) rfl ?_
    refine Vw.iload_n (de_iload_1 (B 42 _ rfl)) 1 rfl (n := 43) rfl ?_
    refine Vw.aload_n (de_aload_0 (B 43 _ rfl)) 0 rfl (n := 44) rfl ?_
    refine Vw.getR (de_getfield (B 44 _ rfl) (B 45 _ rfl) (B 46 _ rfl)) fl_X12_65 rfl hM.k (MS_left hM).1 (n := 47) rfl ?_
    refine Vw.iload_n (de_iload_1 (B 47 _ rfl)) 1 rfl (n := 48) rfl ?_
    refine Vw.iald (de_iaload (B 48 _ rfl)) (MS_left hM).2 (vIx_n (k := j) (by simp only [nI_A, nI_M, Int32.zero_add, Int32.add_zero] <;> rfl) (by omega)) (n := 49) rfl ?_
    refine Vw.iast (de_iastore (B 49 _ rfl)) (MS_leftAhead hM).2 (vIx_n (k := j) (by simp only [nI_A, nI_M, Int32.zero_add, Int32.add_zero] <;> rfl) (by omega)) (n := 50) rfl ?_
    refine Vw.iinc (v := nI (j + 1)) (lv2 := [(0, _), (1, _)]) (de_iinc (B 50 _ rfl) (B 51 _ rfl) (B 52 _ rfl)) 1 rfl (nI_1 j) (by decide) [1, 0] rfl (n := 53) rfl ?_
    refine Vw.goto_ (n := 31) (de_goto_ (B 53 _ rfl) (B 54 _ rfl) (B 55 _ rfl)) rfl ?_
    rw [cpR_step (by omega) (by omega) (by omega)]
    exact ih z_35
  refine Vw.aload_n (de_aload_0 (B 0 _ rfl)) 0 rfl (n := 1) rfl ?_
  refine Vw.iconst (v := -1) (de_iconst_m1 (B 1 _ rfl)) rfl (n := 2) rfl ?_
  refine Vw.putI (de_putfield (B 2 _ rfl) (B 3 _ rfl) (B 4 _ rfl)) fl_X12_99 hM.k rfl rfl (n := 5) rfl ?_
  refine Vw.aload_n (de_aload_0 (B 5 _ rfl)) 0 rfl (n := 6) rfl ?_
  refine Vw.iconst (v := 1) (de_iconst_1 (B 6 _ rfl)) rfl (n := 7) rfl ?_
  refine Vw.putZ (de_putfield (B 7 _ rfl) (B 8 _ rfl) (B 9 _ rfl)) fl_X12_207 hM.k rfl rfl rfl rfl (n := 10) rfl ?_
  refine Vw.aload_n (de_aload_0 (B 10 _ rfl)) 0 rfl (n := 11) rfl ?_
  refine Vw.ivi0 (mi' := mX12_reads) (de_invokevirtual (B 11 _ rfl) (B 12 _ rfl) (B 13 _ rfl)) ml_X12_261 mv_X12_reads hM.k (Nat.le_of_ble_eq_true rfl) (n := 14) rfl (c_X12_reads hM (n := n) (by rw [up2_k (by decide), up2_k (by decide)]; exact ht) hn (by rw [up2_row (by omega), up2_row (by omega)]; exact hWd) (fun J nt cs t l g1 g2 g3 => ?_) (fun J nt f t l g1 g2 g3 g4 => ?_))
  · refine Vw.if_ne (tgt := 24) (n := 17) (de_if_ne (B 14 _ rfl) (B 15 _ rfl) (B 16 _ rfl)) rfl rfl (fun c_14 => ?_) (fun c_14 => ?_)
    · refine Vw.aload_n (de_aload_0 (B 24 _ rfl)) 0 rfl (n := 25) rfl ?_
      refine Vw.iconst (v := 1) (de_iconst_1 (B 25 _ rfl)) rfl (n := 26) rfl ?_
      refine Vw.ivv1 (mi' := mX12_laysAside) (de_invokevirtual (B 26 _ rfl) (B 27 _ rfl) (B 28 _ rfl)) ml_X12_431 mv_X12_laysAside hM.k (Nat.le_of_ble_eq_true rfl) (n := 29) rfl (c_X12_laysAside (k := 1) hM (by decide) ?_)
      refine Vw.iconst (v := 0) (de_iconst_0 (B 29 _ rfl)) rfl (n := 30) rfl ?_
      refine Vw.istore_n (lv2 := [(0, _), (1, _)]) (de_istore_1 (B 30 _ rfl)) rfl (by decide) [1, 0] rfl (n := 31) rfl ?_
      have g := copy J nt cs t l g1 g2 g3 0 (Nat.zero_le _)
      rw [cpR_0] at g
      exact g
    exact absurd c_14 (by decide)
  · refine Vw.if_ne (tgt := 24) (n := 17) (de_if_ne (B 14 _ rfl) (B 15 _ rfl) (B 16 _ rfl)) rfl rfl (fun c_14 => ?_) (fun c_14 => ?_)
    · exact absurd rfl c_14
    refine Vw.aload_n (de_aload_0 (B 17 _ rfl)) 0 rfl (n := 18) rfl ?_
    refine Vw.bipush (v := -6) (de_bipush (B 18 _ rfl) (B 19 _ rfl)) rfl (n := 20) rfl ?_
    refine Vw.ivi1 (mi' := mX12_refuses) (de_invokevirtual (B 20 _ rfl) (B 21 _ rfl) (B 22 _ rfl)) ml_X12_115 mv_X12_refuses hM.k (Nat.le_of_ble_eq_true rfl) (n := 23) rfl (c_X12_refuses hM (j := 6) ⟨rfl, by decide, by decide⟩ ?_)
    exact Vw.iret (de_ireturn (B 23 _ rfl)) rfl ⟨_, rfl, (h1 J nt f t l g1 g2 g3 g4)⟩
