/-! orders: alike -/
/-- the row in which the orders are laid -/
def KOx (J : vI) (r nt : Nat) (K K1 : Nat → Int32) : Prop := ∀ y, K1 y = if y = 152 then nI nt else if 2553 ≤ y ∧ y < 2553 + nt then J (r + 9) (y - 2553) else if 5353 ≤ y ∧ y < 5353 + nt then J (r + 10) (y - 5353) else K y
theorem c_X12_orders2 {d : Nat} {S : vS} {I : vI} {L : vL} {Q : Int32 → vS → vI → vL → Prop} {r : Nat} {np nc u n : Nat} {W : tW} (hM : MS S r) (hW : WD (I (r + 2)) W) (hT : TN (I (r + 2)) np nc) (hu : I r 32 = nI u) (h16 : u ≤ 16) (ht : I r 11 = nI n) (hn : n ≤ 400) (hWd : Wd (I (r + 6)) WL 0)
  (h1 : ∀ J nt f t l, RD (up2 (up2 I r 43 (-1)) r 8 1) J r n nt → nt ≤ 400 → txt J r nt = .error f → f ≤ nt → Q (-6) S (mRef (up2 (pm J r t l (J (r + 11) f)) r 12 (J (r + 11) f)) r (-6) 6) L)
  (h2 : ∀ J nt cs K1 m, RD (up2 (up2 I r 43 (-1)) r 8 1) J r n nt → nt ≤ 400 → txt J r nt = .ok cs → (SameK (I (r + 2)) K1 ∧ KOx J r nt (I (r + 2)) K1) → ordsP W np nc cs 0 (K1, I (r + 14), u, 0, 0) = .error m → ∀ I2 M, Fw r I I2 → Ls r L M → I2 r 11 = 0 → I2 r 12 = -1 → I2 r 43 = nI m → SameK (I (r + 2)) (I2 (r + 2)) → (∀ x, x < 1968 → I2 (r + 14) x = I (r + 14) x) → I2 r 32 = nI u → Q (-3) S (mRef I2 r (-3) 3) M)
  (h : ∀ J nt cs K1 s2, RD (up2 (up2 I r 43 (-1)) r 8 1) J r n nt → nt ≤ 400 → txt J r nt = .ok cs → (SameK (I (r + 2)) K1 ∧ KOx J r nt (I (r + 2)) K1) → ordsP W np nc cs 0 (K1, I (r + 14), u, 0, 0) = .ok s2 → ∀ I2 M, Fw r I I2 → Ls r L M → I2 r 11 = 0 → I2 r 12 = -1 → I2 r 43 = -1 → I2 (r + 2) = s2.1 → StO np nc K1 s2 → I2 (r + 14) = s2.2.1 → I2 r 32 = nI s2.2.2.1 → Q s2.2.2.2.1 S (mGood I2 r) M) : Vc mX12_orders (d + 50) 0 0 [.ref r] S I L (ViQ Q) := by
  refine Vc.of rfl (Nat.le_of_ble_eq_true rfl) ?_
  have B := bs_X12_orders
  show Vw mX12_orders (d + 50) 0 0 0 0 (ViQ Q) 0 [(0, .ref r)] [] S I L
  have hnp := hT.1
  have hnc := hT.2.1
  have e142 := hT.2.2.1
  have e112 := hT.2.2.2.1
  have bad : ∀ J nt cs K1 mm, RD (up2 (up2 I r 43 (-1)) r 8 1) J r n nt → nt ≤ 400 → txt J r nt = .ok cs → (SameK (I (r + 2)) K1 ∧ KOx J r nt (I (r + 2)) K1) → ordsP W np nc cs 0 (K1, I (r + 14), u, 0, 0) = .error mm → ∀ J2 M, Fw r I J2 → Ls r L M → J2 r 11 = 0 → J2 r 12 = -1 → SameK (I (r + 2)) (J2 (r + 2)) → (∀ x, x < 1968 → J2 (r + 15) x = I (r + 14) x) → ∀ j, j ≤ 1968 → Vw mX12_orders (d + 50) 0 0 0 0 (ViQ Q) 127 [(0, .ref r), (1, .int (nI u)), (2, .int (nI (2400 + nt))), (3, .int (nI mm)), (4, .int (nI j))] [] S (cpR J2 (r + 15) (r + 14) 0 0 j) M := by
    intro J nt cs K1 mm g1 g2 g3 g4 g5 J2 M fJ fM e11 e12 eK eL
    refine loop_up (fun j hj ih => ?_)
    refine Vw.iload (de_iload (B 127 _ rfl) (B 128 _ rfl)) 4 rfl (n := 129) rfl ?_
    refine Vw.sipush (v := 1968) (de_sipush (B 129 _ rfl) (B 130 _ rfl) (B 131 _ rfl)) rfl (n := 132) rfl ?_
    refine Vw.icmp_ge (tgt := 155) (n := 135) (de_icmp_ge (B 132 _ rfl) (B 133 _ rfl) (B 134 _ rfl)) rfl rfl (fun c_132 => ?_) (fun c_132 => ?_)
    · have z_132 : 1968 ≤ j := ((nI_leI (a := 1968) (b := j) (by omega) (by omega)).mp c_132)
      obtain rfl : j = 1968 := by omega
      refine Vw.aload_n (de_aload_0 (B 155 _ rfl)) 0 rfl (n := 156) rfl ?_
      refine Vw.iload_n (de_iload_1 (B 156 _ rfl)) 1 rfl (n := 157) rfl ?_
      refine Vw.putI (de_putfield (B 157 _ rfl) (B 158 _ rfl) (B 159 _ rfl)) fl_X12_11 hM.k rfl rfl (n := 160) rfl ?_
      refine Vw.aload_n (de_aload_0 (B 160 _ rfl)) 0 rfl (n := 161) rfl ?_
      refine Vw.iload_n (de_iload_3 (B 161 _ rfl)) 3 rfl (n := 162) rfl ?_
      refine Vw.putI (de_putfield (B 162 _ rfl) (B 163 _ rfl) (B 164 _ rfl)) fl_X12_99 hM.k rfl rfl (n := 165) rfl ?_
      refine Vw.aload_n (de_aload_0 (B 165 _ rfl)) 0 rfl (n := 166) rfl ?_
      refine Vw.bipush (v := -3) (de_bipush (B 166 _ rfl) (B 167 _ rfl)) rfl (n := 168) rfl ?_
      refine Vw.ivi1 (mi' := mX12_refuses) (de_invokevirtual (B 168 _ rfl) (B 169 _ rfl) (B 170 _ rfl)) ml_X12_115 mv_X12_refuses hM.k (Nat.le_of_ble_eq_true rfl) (n := 171) rfl (c_X12_refuses hM (j := 3) ⟨rfl, by decide, by decide⟩ ?_)
      exact Vw.iret (de_ireturn (B 171 _ rfl)) rfl ⟨_, rfl, (h2 J nt cs K1 mm g1 g2 g3 g4 g5 _ M (fJ.trans (fun a k q1 q2 q3 q4 => by rw [up2_n (by omega), up2_n (by omega), cpR_o (by omega)])) fM
    (by rw [up2_k (by decide), up2_k (by decide), cpR_o (by omega)]; exact e11) (by rw [up2_k (by decide), up2_k (by decide), cpR_o (by omega)]; exact e12) (up2_s _ _ _ _)
    (fun x hx => by rw [up2_a (by omega), up2_a (by omega), cpR_o (by omega)]; exact eK x hx)
    (fun x hx => by rw [up2_a (by omega), up2_a (by omega), cpR_i (by omega) (by omega), show 0 + (x - 0) = x by omega]; exact eL x hx)
    (by rw [up2_k (by decide), up2_s]))⟩
    have z_132 : j < 1968 := by rcases Nat.lt_or_ge j 1968 with z | z; exact z; exact absurd ((nI_leI (a := 1968) (b := j) (by omega) (by omega)).mpr z) c_132
    refine Vw.aload_n (de_aload_0 (B 135 _ rfl)) 0 rfl (n := 136) rfl ?_
    refine Vw.getR (de_getfield (B 136 _ rfl) (B 137 _ rfl) (B 138 _ rfl)) fl_X12_65 rfl hM.k (MS_left hM).1 (n := 139) rfl ?_
    refine Vw.iload (de_iload (B 139 _ rfl) (B 140 _ rfl)) 4 rfl (n := 141) rfl ?_
    refine Vw.aload_n (de_aload_0 (B 141 _ rfl)) 0 rfl (n := 142) rfl ?_
    refine Vw.getR (de_getfield (B 142 _ rfl) (B 143 _ rfl) (B 144 _ rfl)) fl_X12_68 rfl hM.k (MS_leftAhead hM).1 (n := 145) rfl ?_
    refine Vw.iload (de_iload (B 145 _ rfl) (B 146 _ rfl)) 4 rfl (n := 147) rfl ?_
    refine Vw.iald (de_iaload (B 147 _ rfl)) (MS_leftAhead hM).2 (vIx_n (k := j) (by simp only [nI_A, nI_M, Int32.zero_add, Int32.add_zero] <;> rfl) (by omega)) (n := 148) rfl ?_
    refine Vw.iast (de_iastore (B 148 _ rfl)) (MS_left hM).2 (vIx_n (k := j) (by simp only [nI_A, nI_M, Int32.zero_add, Int32.add_zero] <;> rfl) (by omega)) (n := 149) rfl ?_
    refine Vw.iinc (v := nI (j + 1)) (lv2 := [(0, _), (1, _), (2, _), (3, _), (4, _)]) (de_iinc (B 149 _ rfl) (B 150 _ rfl) (B 151 _ rfl)) 4 rfl (nI_1 j) (by decide) [1, 2, 3, 4, 0] rfl (n := 152) rfl ?_
    refine Vw.goto_ (n := 127) (de_goto_ (B 152 _ rfl) (B 153 _ rfl) (B 154 _ rfl)) rfl ?_
    rw [cpR_step (by omega) (by omega) (by omega)]
    exact ih z_132
  have run : ∀ J nt cs K1, RD (up2 (up2 I r 43 (-1)) r 8 1) J r n nt → nt ≤ 400 → txt J r nt = .ok cs → (SameK (I (r + 2)) K1 ∧ KOx J r nt (I (r + 2)) K1) → ∀ rest k n2 s, ClO (J (r + 9)) (J (r + 10)) nt rest k → ordsP W np nc cs 0 (K1, I (r + 14), u, 0, 0) = ordsP W np nc rest n2 s → StO np nc K1 s → RowO K1 nt (J (r + 9)) (J (r + 10)) → ∀ J2 M, Fw r I J2 → Ls r L M → J2 r 11 = 0 → J2 r 12 = -1 → J2 r 43 = -1 → (∀ x, x < 1968 → J2 (r + 15) x = I (r + 14) x) → (∀ x, x < 122 → J2 (r + 5) (122 + x) = I (r + 2) x) → OS J2 r s → J2 r 46 = nI (2400 + k) → k ≤ nt + 1 → Vw mX12_orders (d + 50) 0 0 0 0 (ViQ Q) 100 [(0, .ref r), (1, .int (nI u)), (2, .int (nI (2400 + nt))), (3, .int (nI n2))] [] S J2 M := by
    intro J nt cs K1 g1 g2 g3 g4 rest
    induction rest with
    | nil =>
      intro k n2 s hC hE hS hR J2 M fJ fM e11 e12 e43 eL eA oS e46 hk
      refine Vw.aload_n (de_aload_0 (B 100 _ rfl)) 0 rfl (n := 101) rfl ?_
      refine Vw.getI (de_getfield (B 101 _ rfl) (B 102 _ rfl) (B 103 _ rfl)) fl_X12_440 rfl hM.k (n := 104) rfl ?_
      rw [e46]
      refine Vw.iload_n (de_iload_2 (B 104 _ rfl)) 2 rfl (n := 105) rfl ?_
      refine Vw.icmp_ge (tgt := 178) (n := 108) (de_icmp_ge (B 105 _ rfl) (B 106 _ rfl) (B 107 _ rfl)) rfl rfl (fun c_105 => ?_) (fun c_105 => ?_)
      · refine Vw.aload_n (de_aload_0 (B 178 _ rfl)) 0 rfl (n := 179) rfl ?_
        refine Vw.aload_n (de_aload_0 (B 179 _ rfl)) 0 rfl (n := 180) rfl ?_
        refine Vw.getI (de_getfield (B 180 _ rfl) (B 181 _ rfl) (B 182 _ rfl)) fl_X12_434 rfl hM.k (n := 183) rfl ?_
        rw [oS.2.2.2.1]
        refine Vw.ivi1 (mi' := mX12_good) (de_invokevirtual (B 183 _ rfl) (B 184 _ rfl) (B 185 _ rfl)) ml_X12_14 mv_X12_good hM.k (Nat.le_of_ble_eq_true rfl) (n := 186) rfl (c_X12_good hM ?_)
        exact Vw.iret (de_ireturn (B 186 _ rfl)) rfl ⟨_, rfl, (h J nt cs K1 s g1 g2 g3 g4 hE _ M fJ fM e11 e12 e43 oS.1 hS oS.2.1 oS.2.2.1)⟩
      exact absurd ((nI_leI (a := 2400 + nt) (b := 2400 + k) (by omega) (by omega)).mpr (Nat.add_le_add_left hC 2400)) c_105
    | cons c rest ih =>
      intro k n2 s hC hE hS hR J2 M fJ fM e11 e12 e43 eL eA oS e46 hk
      obtain ⟨hk2, l, j, l2, hP, hC2⟩ := hC
      have hb := pOrder_b hR.2.1 hk2 hP
      rw [ordsP] at hE
      have kJ := oS.1
      have hK : SameK (I (r + 2)) K1 := g4.1
      have hWJ : WD (J2 (r + 2)) W := by rw [kJ]; exact (hW.scr g4.1).of (fun x hx => hS.2.1 x (by omega))
      have hRJ : RowO (J2 (r + 2)) nt (J (r + 9)) (J (r + 10)) := by
        rw [kJ]
        exact ⟨fun i hi => ⟨(hS.2.1 _ (by omega)).trans (hR.1 i hi).1, (hS.2.1 _ (by omega)).trans (hR.1 i hi).2⟩, hR.2⟩
      refine Vw.aload_n (de_aload_0 (B 100 _ rfl)) 0 rfl (n := 101) rfl ?_
      refine Vw.getI (de_getfield (B 101 _ rfl) (B 102 _ rfl) (B 103 _ rfl)) fl_X12_440 rfl hM.k (n := 104) rfl ?_
      rw [e46]
      refine Vw.iload_n (de_iload_2 (B 104 _ rfl)) 2 rfl (n := 105) rfl ?_
      refine Vw.icmp_ge (tgt := 178) (n := 108) (de_icmp_ge (B 105 _ rfl) (B 106 _ rfl) (B 107 _ rfl)) rfl rfl (fun c_105 => ?_) (fun c_105 => ?_)
      · exact absurd ((nI_leI (a := 2400 + nt) (b := 2400 + k) (by omega) (by omega)).mp c_105) (by omega)
      refine Vw.aload_n (de_aload_0 (B 108 _ rfl)) 0 rfl (n := 109) rfl ?_
      refine Vw.iload_n (de_iload_2 (B 109 _ rfl)) 2 rfl (n := 110) rfl ?_
      refine Vw.ivi1 (mi' := mX12_runs) (de_invokevirtual (B 110 _ rfl) (B 111 _ rfl) (B 112 _ rfl)) ml_X12_443 mv_X12_runs hM.k (Nat.le_of_ble_eq_true rfl) (n := 113) rfl (c_X12_runs (W := W) (np := np) (nc := nc) (k := k) (l := l) (j := j) (l2 := l2) (c := c) (s := s) hM hWJ hRJ e46 hk2 hP oS ⟨hS.1, fun _ _ => rfl, hS.2.2⟩ (fun a1 I3 M3 f3 m3 r3 => ?_) (fun s3 a1 I3 M3 f3 m3 o3 k3 e3 => ?_))
      · rw [a1] at hE
        have fM3 : Ls r L M3 := fun a k q => (m3 a k q).trans (fM a k q)
        refine Vw.if_eq (tgt := 119) (n := 116) (de_if_eq (B 113 _ rfl) (B 114 _ rfl) (B 115 _ rfl)) rfl rfl (fun c_113 => ?_) (fun c_113 => ?_)
        · refine Vw.aload_n (de_aload_0 (B 119 _ rfl)) 0 rfl (n := 120) rfl ?_
          refine Vw.iconst (v := 1) (de_iconst_1 (B 120 _ rfl)) rfl (n := 121) rfl ?_
          refine Vw.ivv1 (mi' := mX12_takesBack) (de_invokevirtual (B 121 _ rfl) (B 122 _ rfl) (B 123 _ rfl)) ml_X12_446 mv_X12_takesBack hM.k (Nat.le_of_ble_eq_true rfl) (n := 124) rfl (c_X12_takesBack (k := 1) hM (by decide) ?_)
          refine Vw.iconst (v := 0) (de_iconst_0 (B 124 _ rfl)) rfl (n := 125) rfl ?_
          refine Vw.istore (lv2 := [(0, _), (1, _), (2, _), (3, _), (4, _)]) (de_istore (B 125 _ rfl) (B 126 _ rfl)) (by decide) [1, 2, 3, 4, 0] rfl (n := 127) rfl ?_
          have g := bad J nt cs K1 n2 g1 g2 g3 g4 hE (cpR I3 (r + 5) (r + 2) (122 * 1) 0 122) M3 ((fJ.trans f3.fw).trans (fun a k q1 q2 q3 q4 => cpR_o q2)) fM3 (by rw [cpR_o (by omega), f3 _ _ (by omega) (by omega) (by omega) (by omega) (by omega)]; exact e11) (by rw [cpR_o (by omega), f3 _ _ (by omega) (by omega) (by omega) (by omega) (by omega)]; exact e12) (fun x hx => by
            by_cases hx2 : x < 122
            · rw [cpR_i (by omega) (by omega), show 122 * 1 + (x - 0) = 122 + x by omega, f3 _ _ (by omega) (by omega) (by omega) (by omega) (by omega)]; exact eA x hx2
            · rw [cpR_u (by omega), r3 x (by omega), kJ, hS.2.1 x (by omega)]; exact g4.1 x hx) (fun x hx => by rw [cpR_o (by omega), f3 _ _ (by omega) (by omega) (by omega) (by omega) (by omega)]; exact eL x hx) 0 (Nat.zero_le _)
          rw [cpR_0] at g
          exact g
        exact absurd rfl c_113
      · rw [a1] at hE
        have fM3 : Ls r L M3 := fun a k q => (m3 a k q).trans (fM a k q)
        refine Vw.if_eq (tgt := 119) (n := 116) (de_if_eq (B 113 _ rfl) (B 114 _ rfl) (B 115 _ rfl)) rfl rfl (fun c_113 => ?_) (fun c_113 => ?_)
        · exact absurd c_113 (by decide)
        refine Vw.goto_ (n := 172) (de_goto_ (B 116 _ rfl) (B 117 _ rfl) (B 118 _ rfl)) rfl ?_
        refine Vw.iinc (v := nI (n2 + 1)) (lv2 := [(0, _), (1, _), (2, _), (3, _)]) (de_iinc (B 172 _ rfl) (B 173 _ rfl) (B 174 _ rfl)) 3 rfl (nI_1 n2) (by decide) [1, 2, 3, 0] rfl (n := 175) rfl ?_
        refine Vw.goto_ (n := 100) (de_goto_ (B 175 _ rfl) (B 176 _ rfl) (B 177 _ rfl)) rfl ?_
        exact ih (j + 1) (n2 + 1) s3 hC2 hE ⟨k3.1, fun x hx => (k3.2.1 x hx).trans (hS.2.1 x hx), k3.2.2⟩ hR I3 M3 (fJ.trans f3.fw) fM3 ((f3 _ _ (by omega) (by omega) (by omega) (by omega) (by omega)).trans e11) ((f3 _ _ (by omega) (by omega) (by omega) (by omega) (by omega)).trans e12) ((f3 _ _ (by omega) (by omega) (by omega) (by omega) (by omega)).trans e43) (fun x hx => (f3 _ _ (by omega) (by omega) (by omega) (by omega) (by omega)).trans (eL x hx)) (fun x hx => (f3 _ _ (by omega) (by omega) (by omega) (by omega) (by omega)).trans (eA x hx)) o3 e3 (by omega)
  have copy : ∀ J nt cs t l, RD (up2 (up2 I r 43 (-1)) r 8 1) J r n nt → nt ≤ 400 → txt J r nt = .ok cs → ∀ j, j ≤ 1968 → Vw mX12_orders (d + 50) 0 0 0 0 (ViQ Q) 31 [(0, .ref r), (1, .int (nI j))] [] S (cpR (cpR (up2 (pm J r t l (-1)) r 12 (-1)) (r + 2) (r + 5) 0 (122 * 1) 122) (r + 14) (r + 15) 0 0 j) L := by
    intro J nt cs t l g1 g2 g3
    have oJ : ∀ a k, ¬ (a = r ∧ (k = 8 ∨ k = 43 ∨ k = 16 ∨ k = 11)) → a ≠ r + 9 → a ≠ r + 10 → a ≠ r + 11 → J a k = I a k := by
      intro a k q1 q2 q3 q4
      rw [g1.same q2 q3 q4 (by omega) (by omega), up2_n (by omega), up2_n (by omega)]
    have o1 : ∀ a k, ¬ (a = r ∧ (k = 8 ∨ k = 43 ∨ 16 ≤ k ∧ k ≤ 19 ∨ k = 11 ∨ k = 12)) → a ≠ r + 9 → a ≠ r + 10 → a ≠ r + 11 → (up2 (pm J r t l (-1)) r 12 (-1)) a k = I a k := by
      intro a k q1 q2 q3 q4
      rw [up2_n (by omega)]
      by_cases ha : a = r
      · rw [ha, pm_k (by omega) (by omega) (by omega), ← ha]; exact oJ a k (by omega) q2 q3 q4
      · rw [pm_o ha]; exact oJ a k (by omega) q2 q3 q4
    have c1 : ∀ j a k, a ≠ r + 5 → a ≠ r + 15 → (cpR (cpR (up2 (pm J r t l (-1)) r 12 (-1)) (r + 2) (r + 5) 0 (122 * 1) 122) (r + 14) (r + 15) 0 0 j) a k = (up2 (pm J r t l (-1)) r 12 (-1)) a k := by
      intro j a k q1 q2
      rw [cpR_o q2, cpR_o q1]
    have p9 : ∀ a k, a ≠ r → (up2 (pm J r t l (-1)) r 12 (-1)) a k = J a k := by
      intro a k q
      rw [up2_a q, pm_o q]
    refine loop_up (fun j hj ih => ?_)
    refine Vw.iload_n (de_iload_1 (B 31 _ rfl)) 1 rfl (n := 32) rfl ?_
    refine Vw.sipush (v := 1968) (de_sipush (B 32 _ rfl) (B 33 _ rfl) (B 34 _ rfl)) rfl (n := 35) rfl ?_
    refine Vw.icmp_ge (tgt := 56) (n := 38) (de_icmp_ge (B 35 _ rfl) (B 36 _ rfl) (B 37 _ rfl)) rfl rfl (fun c_35 => ?_) (fun c_35 => ?_)
    · have z_35 : 1968 ≤ j := ((nI_leI (a := 1968) (b := j) (by omega) (by omega)).mp c_35)
      obtain rfl : j = 1968 := by omega
      refine Vw.aload_n (de_aload_0 (B 56 _ rfl)) 0 rfl (n := 57) rfl ?_
      refine Vw.getI (de_getfield (B 57 _ rfl) (B 58 _ rfl) (B 59 _ rfl)) fl_X12_11 rfl hM.k (n := 60) rfl ?_
      rw [show (cpR (cpR (up2 (pm J r t l (-1)) r 12 (-1)) (r + 2) (r + 5) 0 (122 * 1) 122) (r + 14) (r + 15) 0 0 1968) r 32 = nI u from by rw [c1 _ _ _ (by omega) (by omega), o1 _ _ (by omega) (by omega) (by omega) (by omega)]; exact hu]
      refine Vw.istore_n (lv2 := [(0, _), (1, _)]) (de_istore_1 (B 60 _ rfl)) rfl (by decide) [1, 0] rfl (n := 61) rfl ?_
      refine Vw.aload_n (de_aload_0 (B 61 _ rfl)) 0 rfl (n := 62) rfl ?_
      refine Vw.bipush (v := 6) (de_bipush (B 62 _ rfl) (B 63 _ rfl)) rfl (n := 64) rfl ?_
      have h16b : (cpR (cpR (up2 (pm J r t l (-1)) r 12 (-1)) (r + 2) (r + 5) 0 (122 * 1) 122) (r + 14) (r + 15) 0 0 1968) r 16 = nI nt := by rw [c1 _ _ _ (by omega) (by omega), up2_k (by decide), pm_k (by decide) (by decide) (by decide)]; exact (g1.ok g2 hn).2
      refine Vw.ivv1 (mi' := mX12_lays) (de_invokevirtual (B 64 _ rfl) (B 65 _ rfl) (B 66 _ rfl)) ml_X12_264 mv_X12_lays hM.k (Nat.le_of_ble_eq_true rfl) (n := 67) rfl (c_X12_lays (t := 6) hM h16b g2 (by decide) ?_)
      refine Vw.aload_n (de_aload_0 (B 67 _ rfl)) 0 rfl (n := 68) rfl ?_
      refine Vw.iconst (v := 0) (de_iconst_0 (B 68 _ rfl)) rfl (n := 69) rfl ?_
      refine Vw.putI (de_putfield (B 69 _ rfl) (B 70 _ rfl) (B 71 _ rfl)) fl_X12_434 hM.k rfl rfl (n := 72) rfl ?_
      refine Vw.aload_n (de_aload_0 (B 72 _ rfl)) 0 rfl (n := 73) rfl ?_
      refine Vw.iconst (v := 0) (de_iconst_0 (B 73 _ rfl)) rfl (n := 74) rfl ?_
      refine Vw.putI (de_putfield (B 74 _ rfl) (B 75 _ rfl) (B 76 _ rfl)) fl_X12_437 hM.k rfl rfl (n := 77) rfl ?_
      refine Vw.aload_n (de_aload_0 (B 77 _ rfl)) 0 rfl (n := 78) rfl ?_
      refine Vw.sipush (v := 2400) (de_sipush (B 78 _ rfl) (B 79 _ rfl) (B 80 _ rfl)) rfl (n := 81) rfl ?_
      refine Vw.putI (de_putfield (B 81 _ rfl) (B 82 _ rfl) (B 83 _ rfl)) fl_X12_440 hM.k rfl rfl (n := 84) rfl ?_
      refine Vw.aload_n (de_aload_0 (B 84 _ rfl)) 0 rfl (n := 85) rfl ?_
      refine Vw.getI (de_getfield (B 85 _ rfl) (B 86 _ rfl) (B 87 _ rfl)) fl_X12_440 rfl hM.k (n := 88) rfl ?_
      rw [up2_s]
      refine Vw.aload_n (de_aload_0 (B 88 _ rfl)) 0 rfl (n := 89) rfl ?_
      refine Vw.getR (de_getfield (B 89 _ rfl) (B 90 _ rfl) (B 91 _ rfl)) fl_X12_24 rfl hM.k (MS_kept hM).1 (n := 92) rfl ?_
      refine Vw.sipush (v := 152) (de_sipush (B 92 _ rfl) (B 93 _ rfl) (B 94 _ rfl)) rfl (n := 95) rfl ?_
      refine Vw.iald (de_iaload (B 95 _ rfl)) (MS_kept hM).2 (j := 152) ⟨rfl, by decide, by decide⟩ (n := 96) rfl ?_
      rw [up2_a (show r + 2 ≠ r by omega), up2_a (show r + 2 ≠ r by omega), up2_a (show r + 2 ≠ r by omega), show (mLay (cpR (cpR (up2 (pm J r t l (-1)) r 12 (-1)) (r + 2) (r + 5) 0 (122 * 1) 122) (r + 14) (r + 15) 0 0 1968) r 6 nt nt) (r + 2) 152 = nI nt from by unfold mLay; rw [if_pos ⟨rfl, rfl⟩]]
      refine Vw.iadd (de_iadd (B 96 _ rfl)) (n := 97) rfl ?_
      rw [show (2400 : Int32) + nI nt = nI (2400 + nt) from (nI_A 2400 nt).symm]
      refine Vw.istore_n (lv2 := [(0, _), (1, _), (2, _)]) (de_istore_2 (B 97 _ rfl)) rfl (by decide) [1, 2, 0] rfl (n := 98) rfl ?_
      refine Vw.iconst (v := 0) (de_iconst_0 (B 98 _ rfl)) rfl (n := 99) rfl ?_
      refine Vw.istore_n (lv2 := [(0, _), (1, _), (2, _), (3, _)]) (de_istore_3 (B 99 _ rfl)) rfl (by decide) [1, 2, 3, 0] rfl (n := 100) rfl ?_
      have hg9 : (J (r + 9)) nt = 0 := (g1.ok g2 hn).1.2.1
      have h8 : ¬ J r 8 = 0 := by
        rw [g1.same (by omega) (by omega) (by omega) (by omega) (by omega), up2_s]; decide
      have g3b : pText (J (r + 9)) (J (r + 10)) true nt = .ok cs := by
        have e := g3
        unfold txt at e
        rw [decide_eq_true h8] at e
        exact e
      have cK : (cpR (cpR (up2 (pm J r t l (-1)) r 12 (-1)) (r + 2) (r + 5) 0 (122 * 1) 122) (r + 14) (r + 15) 0 0 1968) (r + 2) = I (r + 2) := funext fun x => by rw [c1 _ _ _ (by omega) (by omega), o1 _ _ (by omega) (by omega) (by omega) (by omega)]
      have bK : SameK (I (r + 2)) ((mLay (cpR (cpR (up2 (pm J r t l (-1)) r 12 (-1)) (r + 2) (r + 5) 0 (122 * 1) 122) (r + 14) (r + 15) 0 0 1968) r 6 nt nt) (r + 2)) := by
        have e := mLay_scr (I := (cpR (cpR (up2 (pm J r t l (-1)) r 12 (-1)) (r + 2) (r + 5) 0 (122 * 1) 122) (r + 14) (r + 15) 0 0 1968)) (r := r) g2
        rw [cK] at e
        exact e
      have bF : (up2 (up2 (up2 (mLay (cpR (cpR (up2 (pm J r t l (-1)) r 12 (-1)) (r + 2) (r + 5) 0 (122 * 1) 122) (r + 14) (r + 15) 0 0 1968) r 6 nt nt) r 44 0) r 45 0) r 46 2400) (r + 2) = (mLay (cpR (cpR (up2 (pm J r t l (-1)) r 12 (-1)) (r + 2) (r + 5) 0 (122 * 1) 122) (r + 14) (r + 15) 0 0 1968) r 6 nt nt) (r + 2) := by rw [up2_row (by omega), up2_row (by omega), up2_row (by omega)]
      have bo : ∀ a k, a ≠ r + 2 → ¬ (a = r ∧ 44 ≤ k ∧ k ≤ 46) → (up2 (up2 (up2 (mLay (cpR (cpR (up2 (pm J r t l (-1)) r 12 (-1)) (r + 2) (r + 5) 0 (122 * 1) 122) (r + 14) (r + 15) 0 0 1968) r 6 nt nt) r 44 0) r 45 0) r 46 2400) a k = (cpR (cpR (up2 (pm J r t l (-1)) r 12 (-1)) (r + 2) (r + 5) 0 (122 * 1) 122) (r + 14) (r + 15) 0 0 1968) a k := by
        intro a k q1 q2
        rw [up2_n (by omega), up2_n (by omega), up2_n (by omega), mLay_o q1]
      have b14 : (up2 (up2 (up2 (mLay (cpR (cpR (up2 (pm J r t l (-1)) r 12 (-1)) (r + 2) (r + 5) 0 (122 * 1) 122) (r + 14) (r + 15) 0 0 1968) r 6 nt nt) r 44 0) r 45 0) r 46 2400) (r + 14) = I (r + 14) := funext fun x => by rw [bo _ _ (by omega) (by omega), c1 _ _ _ (by omega) (by omega), o1 _ _ (by omega) (by omega) (by omega) (by omega)]
      have bT : TN ((mLay (cpR (cpR (up2 (pm J r t l (-1)) r 12 (-1)) (r + 2) (r + 5) 0 (122 * 1) 122) (r + 14) (r + 15) 0 0 1968) r 6 nt nt) (r + 2)) np nc := hT.of (fun x h1 h2 => bK x (by unfold scrK; omega))
      have bKO : KOx J r nt (I (r + 2)) ((mLay (cpR (cpR (up2 (pm J r t l (-1)) r 12 (-1)) (r + 2) (r + 5) 0 (122 * 1) 122) (r + 14) (r + 15) 0 0 1968) r 6 nt nt) (r + 2)) := by
        intro y
        unfold mLay
        by_cases z1 : y = 152
        · rw [if_pos ⟨rfl, z1⟩, if_pos z1]
        · rw [if_neg (by omega), if_neg z1]
          by_cases z2 : 2553 ≤ y ∧ y < 2553 + nt
          · rw [if_pos (by omega), if_pos z2, c1 _ _ _ (by omega) (by omega), p9 _ _ (by omega)]
          · rw [if_neg (by omega), if_neg z2]
            by_cases z3 : 5353 ≤ y ∧ y < 5353 + nt
            · rw [if_pos (by omega), if_pos z3, c1 _ _ _ (by omega) (by omega), p9 _ _ (by omega)]
            · rw [if_neg (by omega), if_neg z3, cK]
      refine run J nt cs ((mLay (cpR (cpR (up2 (pm J r t l (-1)) r 12 (-1)) (r + 2) (r + 5) 0 (122 * 1) 122) (r + 14) (r + 15) 0 0 1968) r 6 nt nt) (r + 2)) g1 g2 g3 ⟨bK, bKO⟩ cs 0 0 ((mLay (cpR (cpR (up2 (pm J r t l (-1)) r 12 (-1)) (r + 2) (r + 5) 0 (122 * 1) 122) (r + 14) (r + 15) 0 0 1968) r 6 nt nt) (r + 2), I (r + 14), u, 0, 0) (pText_C hg9 g3b) rfl ⟨bT, fun _ _ => rfl, h16⟩ ⟨fun i hi => ?_, hg9, g2⟩ _ L ?_ (fun _ _ _ => rfl) ?_ ?_ ?_ (fun x hx => ?_) (fun x hx => ?_) ⟨bF, b14, ?_, ?_, ?_⟩ ?_ (by omega)
      · have e := mLay_row (I := (cpR (cpR (up2 (pm J r t l (-1)) r 12 (-1)) (r + 2) (r + 5) 0 (122 * 1) 122) (r + 14) (r + 15) 0 0 1968)) (r := r) g2 hi
        rw [e.1, e.2, c1 _ _ _ (by omega) (by omega), c1 _ _ _ (by omega) (by omega), p9 _ _ (by omega), p9 _ _ (by omega)]
        exact ⟨rfl, rfl⟩
      · intro a k q1 q2 q3 q4
        rw [bo _ _ q2 (by omega), c1 _ _ _ q3 (by omega), o1 _ _ (by omega) (by omega) (by omega) (by omega)]
      · rw [bo _ _ (by omega) (by omega), c1 _ _ _ (by omega) (by omega), up2_k (by decide), pm_k (by decide) (by decide) (by decide)]
        obtain ⟨I5, _, e5⟩ := g1
        rw [e5, up2_s]
      · rw [bo _ _ (by omega) (by omega), c1 _ _ _ (by omega) (by omega), up2_s]
      · rw [bo _ _ (by omega) (by omega), c1 _ _ _ (by omega) (by omega), up2_k (by decide), pm_k (by decide) (by decide) (by decide), g1.same (by omega) (by omega) (by omega) (by omega) (by omega), up2_k (by decide), up2_s]
      · rw [bo _ _ (by omega) (by omega), cpR_i (by omega) (by omega), show 0 + (x - 0) = x by omega, cpR_o (by omega), o1 _ _ (by omega) (by omega) (by omega) (by omega)]
      · rw [bo _ _ (by omega) (by omega), cpR_o (by omega), cpR_i (by omega) (by omega), show 0 + (122 + x - 122 * 1) = x by omega, o1 _ _ (by omega) (by omega) (by omega) (by omega)]
      · rw [up2_k (by decide), up2_k (by decide), up2_k (by decide), mLay_o (by omega), c1 _ _ _ (by omega) (by omega), o1 _ _ (by omega) (by omega) (by omega) (by omega)]; exact hu
      · rw [up2_k (by decide), up2_k (by decide), up2_s]
      · rw [up2_k (by decide), up2_s]
      · rw [up2_s]; rfl
    have z_35 : j < 1968 := by rcases Nat.lt_or_ge j 1968 with z | z; exact z; exact absurd ((nI_leI (a := 1968) (b := j) (by omega) (by omega)).mpr z) c_35
    refine Vw.aload_n (de_aload_0 (B 38 _ rfl)) 0 rfl (n := 39) rfl ?_
    refine Vw.getR (de_getfield (B 39 _ rfl) (B 40 _ rfl) (B 41 _ rfl)) fl_X12_68 rfl hM.k (MS_leftAhead hM).1 (n := 42) rfl ?_
    refine Vw.iload_n (de_iload_1 (B 42 _ rfl)) 1 rfl (n := 43) rfl ?_
    refine Vw.aload_n (de_aload_0 (B 43 _ rfl)) 0 rfl (n := 44) rfl ?_
    refine Vw.getR (de_getfield (B 44 _ rfl) (B 45 _ rfl) (B 46 _ rfl)) fl_X12_65 rfl hM.k (MS_left hM).1 (n := 47) rfl ?_
    refine Vw.iload_n (de_iload_1 (B 47 _ rfl)) 1 rfl (n := 48) rfl ?_
    refine Vw.iald (de_iaload (B 48 _ rfl)) (MS_left hM).2 (vIx_n (k := j) (by simp only [nI_A, nI_M, Int32.zero_add, Int32.add_zero] <;> rfl) (by omega)) (n := 49) rfl ?_
    refine Vw.iast (de_iastore (B 49 _ rfl)) (MS_leftAhead hM).2 (vIx_n (k := j) (by simp only [nI_A, nI_M, Int32.zero_add, Int32.add_zero] <;> rfl) (by omega)) (n := 50) rfl ?_
    refine Vw.iinc (v := nI (j + 1)) (lv2 := [(0, _), (1, _)]) (de_iinc (B 50 _ rfl) (B 51 _ rfl) (B 52 _ rfl)) 1 rfl (nI_1 j) (by decide) [1, 0] rfl (n := 53) rfl ?_
    refine Vw.goto_ (n := 31) (de_goto_ (B 53 _ rfl) (B 54 _ rfl) (B 55 _ rfl)) rfl ?_
    rw [cpR_step (by omega) (by omega) (by omega)]
    exact ih z_35
  refine Vw.aload_n (de_aload_0 (B 0 _ rfl)) 0 rfl (n := 1) rfl ?_
  refine Vw.iconst (v := -1) (de_iconst_m1 (B 1 _ rfl)) rfl (n := 2) rfl ?_
  refine Vw.putI (de_putfield (B 2 _ rfl) (B 3 _ rfl) (B 4 _ rfl)) fl_X12_99 hM.k rfl rfl (n := 5) rfl ?_
  refine Vw.aload_n (de_aload_0 (B 5 _ rfl)) 0 rfl (n := 6) rfl ?_
  refine Vw.iconst (v := 1) (de_iconst_1 (B 6 _ rfl)) rfl (n := 7) rfl ?_
  refine Vw.putZ (de_putfield (B 7 _ rfl) (B 8 _ rfl) (B 9 _ rfl)) fl_X12_207 hM.k rfl rfl rfl rfl (n := 10) rfl ?_
  refine Vw.aload_n (de_aload_0 (B 10 _ rfl)) 0 rfl (n := 11) rfl ?_
  refine Vw.ivi0 (mi' := mX12_reads) (de_invokevirtual (B 11 _ rfl) (B 12 _ rfl) (B 13 _ rfl)) ml_X12_261 mv_X12_reads hM.k (Nat.le_of_ble_eq_true rfl) (n := 14) rfl (c_X12_reads hM (n := n) (by rw [up2_k (by decide), up2_k (by decide)]; exact ht) hn (by rw [up2_row (by omega), up2_row (by omega)]; exact hWd) (fun J nt cs t l g1 g2 g3 => ?_) (fun J nt f t l g1 g2 g3 g4 => ?_))
  · refine Vw.if_ne (tgt := 24) (n := 17) (de_if_ne (B 14 _ rfl) (B 15 _ rfl) (B 16 _ rfl)) rfl rfl (fun c_14 => ?_) (fun c_14 => ?_)
    · refine Vw.aload_n (de_aload_0 (B 24 _ rfl)) 0 rfl (n := 25) rfl ?_
      refine Vw.iconst (v := 1) (de_iconst_1 (B 25 _ rfl)) rfl (n := 26) rfl ?_
      refine Vw.ivv1 (mi' := mX12_laysAside) (de_invokevirtual (B 26 _ rfl) (B 27 _ rfl) (B 28 _ rfl)) ml_X12_431 mv_X12_laysAside hM.k (Nat.le_of_ble_eq_true rfl) (n := 29) rfl (c_X12_laysAside (k := 1) hM (by decide) ?_)
      refine Vw.iconst (v := 0) (de_iconst_0 (B 29 _ rfl)) rfl (n := 30) rfl ?_
      refine Vw.istore_n (lv2 := [(0, _), (1, _)]) (de_istore_1 (B 30 _ rfl)) rfl (by decide) [1, 0] rfl (n := 31) rfl ?_
      have g := copy J nt cs t l g1 g2 g3 0 (Nat.zero_le _)
      rw [cpR_0] at g
      exact g
    exact absurd c_14 (by decide)
  · refine Vw.if_ne (tgt := 24) (n := 17) (de_if_ne (B 14 _ rfl) (B 15 _ rfl) (B 16 _ rfl)) rfl rfl (fun c_14 => ?_) (fun c_14 => ?_)
    · exact absurd rfl c_14
    refine Vw.aload_n (de_aload_0 (B 17 _ rfl)) 0 rfl (n := 18) rfl ?_
    refine Vw.bipush (v := -6) (de_bipush (B 18 _ rfl) (B 19 _ rfl)) rfl (n := 20) rfl ?_
    refine Vw.ivi1 (mi' := mX12_refuses) (de_invokevirtual (B 20 _ rfl) (B 21 _ rfl) (B 22 _ rfl)) ml_X12_115 mv_X12_refuses hM.k (Nat.le_of_ble_eq_true rfl) (n := 23) rfl (c_X12_refuses hM (j := 6) ⟨rfl, by decide, by decide⟩ ?_)
    exact Vw.iret (de_ireturn (B 23 _ rfl)) rfl ⟨_, rfl, (h1 J nt f t l g1 g2 g3 g4)⟩
def KOf (K u : Nat → Int32) (n : Nat) : Nat → Int32 := fun y => if y = 152 then nI (tkL u n 401 0).length else if 2553 ≤ y ∧ y < 2553 + (tkL u n 401 0).length then cdT u n (y - 2553) else if 5353 ≤ y ∧ y < 5353 + (tkL u n 401 0).length then vlT u n (y - 5353) else K y
theorem KOf_same {K u : Nat → Int32} {n : Nat} (hn : n ≤ 400) : SameK K (KOf K u n) := by
  have hl : (tkL u n 401 0).length ≤ n := by have := tkL_len (u := u) (n := n) (f := 401) (k := 0); omega
  intro y hy
  unfold scrK at hy
  unfold KOf
  rw [if_neg (by omega), if_neg (by omega), if_neg (by omega)]
theorem KOx.eq {I J : vI} {r n nt : Nat} {K K1 : Nat → Int32} (rd : RD I J r n nt) (h : KOx J r nt K K1) : K1 = KOf K (I (r + 7)) n := by
  obtain ⟨t1, t2, t3, -, -⟩ := rd.rows_
  subst t1
  funext y
  rw [h y]; unfold KOf
  by_cases z1 : y = 152
  · rw [if_pos z1, if_pos z1]
  · rw [if_neg z1, if_neg z1]
    by_cases z2 : 2553 ≤ y ∧ y < 2553 + (tkL (I (r + 7)) n 401 0).length
    · rw [if_pos z2, if_pos z2]; exact t2 _ (by omega)
    · rw [if_neg z2, if_neg z2]
      by_cases z3 : 5353 ≤ y ∧ y < 5353 + (tkL (I (r + 7)) n 401 0).length
      · rw [if_pos z3, if_pos z3]; exact t3 _ (by omega)
      · rw [if_neg z3, if_neg z3]
theorem WC.mv {S S2 : vS} {I J : vI} {s lb : Nat} {W : tW} (h : WC S I s lb W) (e1 : J s = I s) (e2 : ∀ b, lb ≤ b → J b = I b) (e : ∀ t, t < 6 → S2.2.1 (s + 24) t = S.2.1 (s + 24) t) (f : ∀ a cs m, lb ≤ a → ScS S a cs m → ScS S2 a cs m) : WC S2 J s lb W := by
  obtain ⟨h1, h2⟩ := h.of e1 e2
  refine ⟨h1, ?_⟩
  rcases h2 with h2 | ⟨t, n, a, cs, m, q1, q2, q3, q4, q5, q6, q7, q8⟩
  · exact Or.inl h2
  · exact Or.inr ⟨t, n, a, cs, m, q1, q2, q3, q4, q5, (e t (by omega)).trans q6, f _ _ _ q1 q7, q8⟩
theorem ordsL_lt {W : tW} {np nc : Nat} : ∀ cs n q m, ordsL W np nc cs n q = .error m → m < n + cs.length
  | [], n, q, m, h => by rw [ordsL] at h; cases h
  | c :: cs, n, q, m, h => by
    rw [ordsL] at h
    simp only [List.length_cons]
    cases hz : rndsL W np nc c c.2.2.2.1.toNatClampNeg q with
    | none => rw [hz] at h; cases h; omega
    | some s2 =>
      rw [hz] at h
      have := ordsL_lt cs (n + 1) s2 m h
      omega
theorem LfR.lo {F G : Nat → Int32} {l : List tH} {np : Nat} (h : LfR F l np) (hl : l.length ≤ 16) (e : ∀ y, y < 1968 → G y = F y) : LfR G l np := by
  intro i k c q
  have hi : i < l.length := (List.getElem?_eq_some_iff.mp q).1
  obtain ⟨h1, h2, h3⟩ := h i k c q
  exact ⟨fun j hj => by rw [e _ (by omega)]; exact h1 j hj, by rw [e _ (by omega)]; exact h2, h3⟩
/-- what orders may change in the class -/
def FOx (x : Nat) (I I2 : vI) : Prop := ∀ b k, ¬ (x + 2 ≤ b ∧ b ≤ x + 24) → b ≠ x + 29 → b ≠ x + 30 → b ≠ x + 32 → b ≠ x + 33 → ¬ (x + 75 ≤ b ∧ b ≤ x + 87) → ¬ (x + 89 ≤ b ∧ b ≤ x + 459) → ¬ (x + 460 ≤ b ∧ b ≤ x + 853) → ¬ (b = x ∧ (k = 12 ∨ k = 14 ∨ k = 15)) → I2 b k = I b k
theorem k_orders {d : Nat} {S : vS} {I : vI} {L : vL} {Q : Int32 → vS → vI → vL → Prop} {x lb np nc ns nl : Nat} {K : Nat → Int32} {l : List tH} {n : Nat} {u KO : Nat → Int32} {W : tW} (hC : ClsS S x) (hs : STR S I (x + 1) lb K np nc ns nl) (hH : HC I (x + 89) l np) (hlb : x + 942 ≤ lb) (hn : I x 12 = nI n) (h4 : n ≤ 400) (hu : ∀ j, j < 400 → I (x + 856) j = u j &&& 255 ∧ bt (u j)) (htx : ∀ k, k < 11 → ∃ z, TxS S k z) (hW : WC S I (x + 1) lb W) (ht460 : ∃ old, old < 16 ∧ I (x + 460) 2 = nI old) (hKO : TR I (x + 1 + 1) KO np nc) (hO : OkL np nc KO) (h0 : ∀ e I2, pText (cdT u n) (vlT u n) true (tkL u n 401 0).length = .error e → e ≤ (tkL u n 401 0).length → FrT (x + 1) I I2 → Q (-6) (sUp S (x + 1 + 74) 5 (some (x + 856))) (cRef (up2 (up2 (up2 I2 x 12 0) x 14 (nI (plcT (tkL u n 401 0) n e))) x 15 (-1)) x (-6) 6) L) (h2 : ∀ cs m I2 M, pText (cdT u n) (vlT u n) true (tkL u n 401 0).length = .ok cs → ordsL W np nc cs 0 (KO, [], 0, 0) = .error m → FOx x I I2 → (∀ b, x + 89 ≤ b → b ≤ x + 459 → I2 b = I b) → TR I2 (x + 1 + 1) KO np nc → (∃ old, old < 16 ∧ I2 (x + 460) 2 = nI old) → I2 x 12 = 0 → I2 x 14 = -1 → I2 x 15 = nI m → Q (-3) (sUp S (x + 1 + 74) 5 (some (x + 856))) (cRef I2 x (-3) 3) M) (h : ∀ cs s2 I2 M, pText (cdT u n) (vlT u n) true (tkL u n 401 0).length = .ok cs → ordsL W np nc cs 0 (KO, [], 0, 0) = .ok s2 → FOx x I I2 → TR I2 (x + 1 + 1) s2.1 np nc → HC I2 (x + 89) (s2.2.1.foldl psh l) np → (∃ old, old < 16 ∧ I2 (x + 460) 2 = nI old) → I2 x 12 = 0 → I2 x 14 = -1 → I2 x 15 = -1 → Q s2.2.2.1 (sUp S (x + 1 + 74) 5 (some (x + 856))) (cAcc I2 x) M) : Vc mX11_orders (d + 80) 0 0 [.ref x] S I L (ViQ Q) := by
  refine Vc.of rfl (Nat.le_of_ble_eq_true rfl) ?_
  have B := bs_X11_orders
  show Vw mX11_orders (d + 80) 0 0 0 0 (ViQ Q) 0 [(0, .ref x)] [] S I L
  have hT := hC.p0.p0
  have hN := hs.tn
  have h8 := hN.1
  have h10 := hN.2.1
  have hK := hs.tr
  have hold : ∃ old, old < 16 ∧ I (x + 89) 2 = nI old := by obtain ⟨_, _, old, o1, o2, _⟩ := hH; exact ⟨old, o1, o2⟩
  refine Vw.aload_n (de_aload_0 (B 0 _ rfl)) 0 rfl (n := 1) rfl ?_
  refine Vw.getR (de_getfield (B 1 _ rfl) (B 2 _ rfl) (B 3 _ rfl)) fl_X11_53 rfl hC.k hC.f5 (n := 4) rfl ?_
  refine Vw.aload_n (de_aload_0 (B 4 _ rfl)) 0 rfl (n := 5) rfl ?_
  refine Vw.getR (de_getfield (B 5 _ rfl) (B 6 _ rfl) (B 7 _ rfl)) fl_X11_82 rfl hC.k hC.f11 (n := 8) rfl ?_
  refine Vw.aload_n (de_aload_0 (B 8 _ rfl)) 0 rfl (n := 9) rfl ?_
  refine Vw.getI (de_getfield (B 9 _ rfl) (B 10 _ rfl) (B 11 _ rfl)) fl_X11_191 rfl hC.k (n := 12) rfl ?_
  rw [hn]
  refine Vw.iconst (v := 1) (de_iconst_1 (B 12 _ rfl)) rfl (n := 13) rfl ?_
  refine Vw.ivi3 (mi' := mX5_readText) (de_invokevirtual (B 13 _ rfl) (B 14 _ rfl) (B 15 _ rfl)) ml_X11_207 mv_X5_readText hC.p5.k (Nat.le_of_ble_eq_true rfl) (n := 16) rfl (k_readText2 (d := d + 32) (s := x + 1) (tp := x + 856) (n := n) (u := u) (cd := cdT u n) (vl := vlT u n) (o := true) hC.p5 hC.r11 (by omega) htx hu h4 (fun i a e q => cdT_s q) cdT_n (fun cs c I2 ep f2 hsc e11 len1 eend => ?_) (fun e I2 ep elen f2 e11 => ?_))
  · have hSA : SKr x S (sUp S (x + 1 + 74) 5 (some (x + 856))) := SKr.sup
    have hC0 := hC
    have hC : ClsS (sUp S (x + 1 + 74) 5 (some (x + 856))) x := hC0.sk (N := x + 942) SK.sup (Nat.le_refl _)
    have vs := all_text (fun i l j l2 c q => fit_one q) ep
    generalize (sUp S (x + 1 + 74) 5 (some (x + 856))) = SA at hSA hC h0 h2 h ⊢
    refine Vw.istore_n (lv2 := [(0, _), (1, _)]) (de_istore_1 (B 16 _ rfl)) rfl (by decide) [1, 0] rfl (n := 17) rfl ?_
    refine Vw.aload_n (de_aload_0 (B 17 _ rfl)) 0 rfl (n := 18) rfl ?_
    refine Vw.iconst (v := 0) (de_iconst_0 (B 18 _ rfl)) rfl (n := 19) rfl ?_
    refine Vw.putI (de_putfield (B 19 _ rfl) (B 20 _ rfl) (B 21 _ rfl)) fl_X11_191 hC.k rfl rfl (n := 22) rfl ?_
    refine Vw.aload_n (de_aload_0 (B 22 _ rfl)) 0 rfl (n := 23) rfl ?_
    refine Vw.aload_n (de_aload_0 (B 23 _ rfl)) 0 rfl (n := 24) rfl ?_
    refine Vw.getR (de_getfield (B 24 _ rfl) (B 25 _ rfl) (B 26 _ rfl)) fl_X11_53 rfl hC.k hC.f5 (n := 27) rfl ?_
    refine Vw.getI (de_getfield (B 27 _ rfl) (B 28 _ rfl) (B 29 _ rfl)) fl_X11_211 rfl hC.p5.k (n := 30) rfl ?_
    rw [show up2 I2 x 12 0 (x + 75) 11 = -1 from by rw [up2_a (by omega)]; exact e11]
    refine Vw.putI (de_putfield (B 30 _ rfl) (B 31 _ rfl) (B 32 _ rfl)) fl_X11_86 hC.k rfl rfl (n := 33) rfl ?_
    refine Vw.aload_n (de_aload_0 (B 33 _ rfl)) 0 rfl (n := 34) rfl ?_
    refine Vw.iconst (v := -1) (de_iconst_m1 (B 34 _ rfl)) rfl (n := 35) rfl ?_
    refine Vw.putI (de_putfield (B 35 _ rfl) (B 36 _ rfl) (B 37 _ rfl)) fl_X11_90 hC.k rfl rfl (n := 38) rfl ?_
    refine Vw.iload_n (de_iload_1 (B 38 _ rfl)) 1 rfl (n := 39) rfl ?_
    refine Vw.if_ne (tgt := 49) (n := 42) (de_if_ne (B 39 _ rfl) (B 40 _ rfl) (B 41 _ rfl)) rfl rfl (fun c_39 => ?_) (fun c_39 => ?_)
    · obtain ⟨A, eA⟩ : ∃ z, z = up2 (up2 (up2 I2 x 12 0) x 14 (-1)) x 15 (-1) := ⟨_, rfl⟩
      rw [← eA]
      have fA : ∀ b k, ¬ (x + 75 ≤ b ∧ b ≤ x + 87) → ¬ (b = x ∧ (k = 12 ∨ k = 14 ∨ k = 15)) → A b k = I b k := fun b k q1 q2 => by rw [eA, up2_n (by omega), up2_n (by omega), up2_n (by omega), f2 b (by omega)]
      have rA : ∀ b, ¬ (x + 75 ≤ b ∧ b ≤ x + 87) → b ≠ x → A b = I b := fun b q1 q2 => funext fun k => fA b k q1 (by omega)
      have aA : ∀ b, b ≠ x → A b = I2 b := fun b q => by rw [eA, up2_row q, up2_row q, up2_row q]
      have x12 : A x 12 = 0 := by rw [eA, up2_k (by decide), up2_k (by decide), up2_s]
      have x14 : A x 14 = -1 := by rw [eA, up2_k (by decide), up2_s]
      have kA : TR A (x + 1 + 1) KO np nc := hKO.of (fun b g1 g2 => rA b (by omega) (by omega)) h8 h10
      refine Vw.aload_n (de_aload_0 (B 49 _ rfl)) 0 rfl (n := 50) rfl ?_
      refine Vw.getR (de_getfield (B 50 _ rfl) (B 51 _ rfl) (B 52 _ rfl)) fl_X11_70 rfl hC.k hC.f8 (n := 53) rfl ?_
      refine Vw.aload_n (de_aload_0 (B 53 _ rfl)) 0 rfl (n := 54) rfl ?_
      refine Vw.getR (de_getfield (B 54 _ rfl) (B 55 _ rfl) (B 56 _ rfl)) fl_X11_12 rfl hC.k hC.f0 (n := 57) rfl ?_
      refine Vw.getR (de_getfield (B 57 _ rfl) (B 58 _ rfl) (B 59 _ rfl)) fl_X11_104 rfl hC.p0.k hC.p0.f0 (n := 60) rfl ?_
      refine Vw.ivv1 (mi' := mX9_copyFrom) (de_invokevirtual (B 60 _ rfl) (B 61 _ rfl) (B 62 _ rfl)) ml_X11_228 mv_X9_copyFrom hC.p8.k (Nat.le_of_ble_eq_true rfl) (n := 63) rfl (c_X9_copyFrom (t := x + 831) (o := x + 1 + 1) hC.p8 hC.p0.p0 kA h8 h10 (by omega) (fun I3 f3 t3 => ?_))
      refine Vw.aload_n (de_aload_0 (B 63 _ rfl)) 0 rfl (n := 64) rfl ?_
      refine Vw.getR (de_getfield (B 64 _ rfl) (B 65 _ rfl) (B 66 _ rfl)) fl_X11_64 rfl hC.k hC.f7 (n := 67) rfl ?_
      refine Vw.ivv0 (mi' := mX2_clear) (de_invokevirtual (B 67 _ rfl) (B 68 _ rfl) (B 69 _ rfl)) ml_X11_110 mv_X2_clear hC.p7.k (Nat.le_of_ble_eq_true rfl) (n := 70) rfl (c_X2_clear (np := np) hC.p7 (by rw [f3 _ (by omega), rA _ (by omega) (by omega)]; exact ht460) (fun I4 f4 f4k h4c => ?_))
      have e4 : ∀ b, b ≠ x + 460 → ¬ (x + 831 ≤ b ∧ b ≤ x + 853) → I4 b = A b := fun b q1 q2 => by rw [f4 b q1, f3 b (by omega)]
      have hW4 : WC SA I4 (x + 1) lb W := hW.mv (by rw [e4 _ (by omega) (by omega), rA _ (by omega) (by omega)]) (fun b hb => by rw [e4 _ (by omega) (by omega), rA _ (by omega) (by omega)]) (fun t _ => hSA.2.2 _ _ (by omega)) (hSA.sc (by omega))
      have k4 : TR I4 (x + 1 + 1) KO np nc := kA.of (fun b g1 g2 => e4 b (by omega) (by omega)) h8 h10
      have sc4 : ScR I4 (x + 1 + 75) cs vbO 19 c 16 tD0 := ScR.of (I := I2) hsc (fun k hk => by rw [e4 _ (by omega) (by omega), aA _ (by omega)])
      refine Vw.aload_n (de_aload_0 (B 70 _ rfl)) 0 rfl (n := 71) rfl ?_
      refine Vw.aload_n (de_aload_0 (B 71 _ rfl)) 0 rfl (n := 72) rfl ?_
      refine Vw.getR (de_getfield (B 72 _ rfl) (B 73 _ rfl) (B 74 _ rfl)) fl_X11_30 rfl hC.k hC.f2 (n := 75) rfl ?_
      refine Vw.aload_n (de_aload_0 (B 75 _ rfl)) 0 rfl (n := 76) rfl ?_
      refine Vw.getR (de_getfield (B 76 _ rfl) (B 77 _ rfl) (B 78 _ rfl)) fl_X11_53 rfl hC.k hC.f5 (n := 79) rfl ?_
      refine Vw.getR (de_getfield (B 79 _ rfl) (B 80 _ rfl) (B 81 _ rfl)) fl_X11_214 rfl hC.p5.k hC.p5.f0 (n := 82) rfl ?_
      refine Vw.aload_n (de_aload_0 (B 82 _ rfl)) 0 rfl (n := 83) rfl ?_
      refine Vw.getR (de_getfield (B 83 _ rfl) (B 84 _ rfl) (B 85 _ rfl)) fl_X11_64 rfl hC.k hC.f7 (n := 86) rfl ?_
      refine Vw.ivi2 (mi' := mX10_runOrders) (de_invokevirtual (B 86 _ rfl) (B 87 _ rfl) (B 88 _ rfl)) ml_X11_232 mv_X10_runOrders hC.p2.k (Nat.le_of_ble_eq_true rfl) (n := 89) rfl (c_X10_runOrders (d := d + 72) (s := x + 1) (a := x + 460) (g := x + 1 + 75) (lb := lb) (np := np) (nc := nc) (K := KO) (l := []) (cs := cs) (W := W) (m := c) hC.p2 k4 hO hW4 (by omega) hC.p7 h4c (by omega) (by omega) hC.p5.p0 sc4 (by omega) (by omega) (fun c2 hc2 => (vs c2 hc2).1) (fun m I5 M5 l5 e5 fx5 _ hc5 => ?_) (fun s2 I5 M5 e5 fx5 _ t5 ok5 hc5 n5 => ?_))
      · have m12 : m < 12 + 0 := by have := ordsL_lt cs 0 _ m e5; have := hsc.2.1; omega
        have e5r : ∀ b, ¬ (x + 2 ≤ b ∧ b ≤ x + 24) → b ≠ x + 29 → b ≠ x + 30 → b ≠ x + 32 → b ≠ x + 33 → ¬ (x + 460 ≤ b ∧ b ≤ x + 830) → I5 b = I4 b := fun b q1 q2 q3 q4 q5 q6 => fx5 b (by omega) (by omega) (by omega) (by omega) (by omega) (by omega)
        refine Vw.putI (de_putfield (B 89 _ rfl) (B 90 _ rfl) (B 91 _ rfl)) fl_X11_90 hC.k rfl rfl (n := 92) rfl ?_
        refine Vw.aload_n (de_aload_0 (B 92 _ rfl)) 0 rfl (n := 93) rfl ?_
        refine Vw.getI (de_getfield (B 93 _ rfl) (B 94 _ rfl) (B 95 _ rfl)) fl_X11_90 rfl hC.k (n := 96) rfl ?_
        rw [up2_s]
        refine Vw.iconst (v := -1) (de_iconst_m1 (B 96 _ rfl)) rfl (n := 97) rfl ?_
        refine Vw.icmp_eq (tgt := 121) (n := 100) (de_icmp_eq (B 97 _ rfl) (B 98 _ rfl) (B 99 _ rfl)) rfl rfl (fun c_97 => ?_) (fun c_97 => ?_)
        · exact absurd c_97 (nI_m1 (by omega))
        have tb : TR (up2 I5 x 15 (nI m)) (x + 831) KO np nc := t3.of (fun b g1 g2 => by rw [up2_row (by omega), e5r b (by omega) (by omega) (by omega) (by omega) (by omega) (by omega), f4 b (by omega)]) h8 h10
        refine Vw.aload_n (de_aload_0 (B 100 _ rfl)) 0 rfl (n := 101) rfl ?_
        refine Vw.getR (de_getfield (B 101 _ rfl) (B 102 _ rfl) (B 103 _ rfl)) fl_X11_12 rfl hC.k hC.f0 (n := 104) rfl ?_
        refine Vw.getR (de_getfield (B 104 _ rfl) (B 105 _ rfl) (B 106 _ rfl)) fl_X11_104 rfl hC.p0.k hC.p0.f0 (n := 107) rfl ?_
        refine Vw.aload_n (de_aload_0 (B 107 _ rfl)) 0 rfl (n := 108) rfl ?_
        refine Vw.getR (de_getfield (B 108 _ rfl) (B 109 _ rfl) (B 110 _ rfl)) fl_X11_70 rfl hC.k hC.f8 (n := 111) rfl ?_
        refine Vw.ivv1 (mi' := mX9_copyFrom) (de_invokevirtual (B 111 _ rfl) (B 112 _ rfl) (B 113 _ rfl)) ml_X11_228 mv_X9_copyFrom hC.p0.p0.k (Nat.le_of_ble_eq_true rfl) (n := 114) rfl (c_X9_copyFrom (t := x + 1 + 1) (o := x + 831) hC.p0.p0 hC.p8 tb h8 h10 (by omega) (fun I6 f6 t6 => ?_))
        refine Vw.aload_n (de_aload_0 (B 114 _ rfl)) 0 rfl (n := 115) rfl ?_
        refine Vw.bipush (v := -3) (de_bipush (B 115 _ rfl) (B 116 _ rfl)) rfl (n := 117) rfl ?_
        refine Vw.ivi1 (mi' := mX11_refuse) (de_invokevirtual (B 117 _ rfl) (B 118 _ rfl) (B 119 _ rfl)) ml_X11_100 mv_X11_refuse hC.k (Nat.le_of_ble_eq_true rfl) (n := 120) rfl (c_X11_refuse (j := 3) hC rfl (by decide) ?_)
        exact Vw.iret (de_ireturn (B 120 _ rfl)) rfl ⟨_, rfl, (by
      have xr : I5 x = A x := by rw [e5r x (by omega) (by omega) (by omega) (by omega) (by omega) (by omega), e4 x (by omega) (by omega)]
      have xk : ∀ k, k ≠ 15 → I6 x k = A x k := fun k hk => by rw [f6 x (by omega), up2_k hk, xr]
      refine h2 cs m I6 M5 ep e5 (fun b k q1 q2 q3 q4 q5 q6 q7 q8 q9 => ?_) (fun b q1 q2 => ?_) t6 ?_ (by rw [xk _ (by decide)]; exact x12) (by rw [xk _ (by decide)]; exact x14) (by rw [f6 x (by omega), up2_s])
      · rw [f6 b (by omega), up2_n (by omega), e5r b (by omega) (by omega) (by omega) (by omega) (by omega) (by omega), e4 b (by omega) (by omega), fA b k (by omega) (by omega)]
      · rw [f6 b (by omega), up2_row (by omega), e5r b (by omega) (by omega) (by omega) (by omega) (by omega) (by omega), e4 b (by omega) (by omega), rA b (by omega) (by omega)]
      · obtain ⟨_, _, old, o1, o2, _⟩ := hc5
        exact ⟨old, o1, by rw [f6 _ (by omega), up2_a (by omega)]; exact o2⟩)⟩
      · have e5r : ∀ b, ¬ (x + 2 ≤ b ∧ b ≤ x + 24) → b ≠ x + 29 → b ≠ x + 30 → b ≠ x + 32 → b ≠ x + 33 → ¬ (x + 460 ≤ b ∧ b ≤ x + 830) → I5 b = I4 b := fun b q1 q2 q3 q4 q5 q6 => fx5 b (by omega) (by omega) (by omega) (by omega) (by omega) (by omega)
        refine Vw.putI (de_putfield (B 89 _ rfl) (B 90 _ rfl) (B 91 _ rfl)) fl_X11_90 hC.k rfl rfl (n := 92) rfl ?_
        refine Vw.aload_n (de_aload_0 (B 92 _ rfl)) 0 rfl (n := 93) rfl ?_
        refine Vw.getI (de_getfield (B 93 _ rfl) (B 94 _ rfl) (B 95 _ rfl)) fl_X11_90 rfl hC.k (n := 96) rfl ?_
        rw [up2_s]
        refine Vw.iconst (v := -1) (de_iconst_m1 (B 96 _ rfl)) rfl (n := 97) rfl ?_
        refine Vw.icmp_eq (tgt := 121) (n := 100) (de_icmp_eq (B 97 _ rfl) (B 98 _ rfl) (B 99 _ rfl)) rfl rfl (fun c_97 => ?_) (fun c_97 => ?_)
        · refine Vw.aload_n (de_aload_0 (B 121 _ rfl)) 0 rfl (n := 122) rfl ?_
          refine Vw.getR (de_getfield (B 122 _ rfl) (B 123 _ rfl) (B 124 _ rfl)) fl_X11_60 rfl hC.k hC.f6 (n := 125) rfl ?_
          refine Vw.aload_n (de_aload_0 (B 125 _ rfl)) 0 rfl (n := 126) rfl ?_
          refine Vw.getR (de_getfield (B 126 _ rfl) (B 127 _ rfl) (B 128 _ rfl)) fl_X11_64 rfl hC.k hC.f7 (n := 129) rfl ?_
          refine Vw.ivv1 (mi' := mX2_append) (de_invokevirtual (B 129 _ rfl) (B 130 _ rfl) (B 131 _ rfl)) ml_X11_236 mv_X2_append hC.p6.k (Nat.le_of_ble_eq_true rfl) (n := 132) rfl (c_X2_append (d := d + 75) (a := x + 89) (e := x + 460) (l := l) (g := s2.2.1) hC.p6 hC.p7 (hH.of h8 (fun b g1 g2 => by rw [up2_row (by omega), e5r b (by omega) (by omega) (by omega) (by omega) (by omega) (by omega), e4 b (by omega) (by omega), rA b (by omega) (by omega)])) (hc5.of h8 (fun b g1 g2 => up2_row (by omega))) h8 (by omega) (fun I6 f6 h6 => ?_))
          refine Vw.aload_n (de_aload_0 (B 132 _ rfl)) 0 rfl (n := 133) rfl ?_
          refine Vw.aload_n (de_aload_0 (B 133 _ rfl)) 0 rfl (n := 134) rfl ?_
          refine Vw.getR (de_getfield (B 134 _ rfl) (B 135 _ rfl) (B 136 _ rfl)) fl_X11_30 rfl hC.k hC.f2 (n := 137) rfl ?_
          refine Vw.getI (de_getfield (B 137 _ rfl) (B 138 _ rfl) (B 139 _ rfl)) fl_X11_240 rfl hC.p2.k (n := 140) rfl ?_
          rw [show I6 (x + 32) 3 = s2.2.2.1 from by rw [f6 _ (by omega), up2_a (by omega)]; exact n5]
          refine Vw.ivi1 (mi' := mX11_accept) (de_invokevirtual (B 140 _ rfl) (B 141 _ rfl) (B 142 _ rfl)) ml_X11_117 mv_X11_accept hC.k (Nat.le_of_ble_eq_true rfl) (n := 143) rfl (c_X11_accept hC ?_)
          exact Vw.iret (de_ireturn (B 143 _ rfl)) rfl ⟨_, rfl, (by
      have xr : I5 x = A x := by rw [e5r x (by omega) (by omega) (by omega) (by omega) (by omega) (by omega), e4 x (by omega) (by omega)]
      have xk : ∀ k, k ≠ 15 → I6 x k = A x k := fun k hk => by rw [f6 x (by omega), up2_k hk, xr]
      refine h cs s2 I6 M5 ep e5 (fun b k q1 q2 q3 q4 q5 q6 q7 q8 q9 => ?_) (t5.of (fun b g1 g2 => by rw [f6 b (by omega), up2_row (by omega)]) h8 h10) h6 ?_ (by rw [xk _ (by decide)]; exact x12) (by rw [xk _ (by decide)]; exact x14) (by rw [f6 x (by omega), up2_s])
      · rw [f6 b (by omega), up2_n (by omega), e5r b (by omega) (by omega) (by omega) (by omega) (by omega) (by omega), e4 b (by omega) (by omega), fA b k (by omega) (by omega)]
      · obtain ⟨_, _, old, o1, o2, _⟩ := hc5
        exact ⟨old, o1, by rw [f6 _ (by omega), up2_a (by omega)]; exact o2⟩)⟩
        exact absurd rfl c_97
    exact absurd c_39 (by decide)
  · have hSA : SKr x S (sUp S (x + 1 + 74) 5 (some (x + 856))) := SKr.sup
    have hC0 := hC
    have hC : ClsS (sUp S (x + 1 + 74) 5 (some (x + 856))) x := hC0.sk (N := x + 942) SK.sup (Nat.le_refl _)
    refine Vw.istore_n (lv2 := [(0, _), (1, _)]) (de_istore_1 (B 16 _ rfl)) rfl (by decide) [1, 0] rfl (n := 17) rfl ?_
    refine Vw.aload_n (de_aload_0 (B 17 _ rfl)) 0 rfl (n := 18) rfl ?_
    refine Vw.iconst (v := 0) (de_iconst_0 (B 18 _ rfl)) rfl (n := 19) rfl ?_
    refine Vw.putI (de_putfield (B 19 _ rfl) (B 20 _ rfl) (B 21 _ rfl)) fl_X11_191 hC.k rfl rfl (n := 22) rfl ?_
    refine Vw.aload_n (de_aload_0 (B 22 _ rfl)) 0 rfl (n := 23) rfl ?_
    refine Vw.aload_n (de_aload_0 (B 23 _ rfl)) 0 rfl (n := 24) rfl ?_
    refine Vw.getR (de_getfield (B 24 _ rfl) (B 25 _ rfl) (B 26 _ rfl)) fl_X11_53 rfl hC.k hC.f5 (n := 27) rfl ?_
    refine Vw.getI (de_getfield (B 27 _ rfl) (B 28 _ rfl) (B 29 _ rfl)) fl_X11_211 rfl hC.p5.k (n := 30) rfl ?_
    rw [show up2 I2 x 12 0 (x + 75) 11 = nI (plcT (tkL u n 401 0) n e) from by rw [up2_a (by omega)]; exact e11]
    refine Vw.putI (de_putfield (B 30 _ rfl) (B 31 _ rfl) (B 32 _ rfl)) fl_X11_86 hC.k rfl rfl (n := 33) rfl ?_
    refine Vw.aload_n (de_aload_0 (B 33 _ rfl)) 0 rfl (n := 34) rfl ?_
    refine Vw.iconst (v := -1) (de_iconst_m1 (B 34 _ rfl)) rfl (n := 35) rfl ?_
    refine Vw.putI (de_putfield (B 35 _ rfl) (B 36 _ rfl) (B 37 _ rfl)) fl_X11_90 hC.k rfl rfl (n := 38) rfl ?_
    refine Vw.iload_n (de_iload_1 (B 38 _ rfl)) 1 rfl (n := 39) rfl ?_
    refine Vw.if_ne (tgt := 49) (n := 42) (de_if_ne (B 39 _ rfl) (B 40 _ rfl) (B 41 _ rfl)) rfl rfl (fun c_39 => ?_) (fun c_39 => ?_)
    · exact absurd c_39 (by decide)
    refine Vw.aload_n (de_aload_0 (B 42 _ rfl)) 0 rfl (n := 43) rfl ?_
    refine Vw.bipush (v := -6) (de_bipush (B 43 _ rfl) (B 44 _ rfl)) rfl (n := 45) rfl ?_
    refine Vw.ivi1 (mi' := mX11_refuse) (de_invokevirtual (B 45 _ rfl) (B 46 _ rfl) (B 47 _ rfl)) ml_X11_100 mv_X11_refuse hC.k (Nat.le_of_ble_eq_true rfl) (n := 48) rfl (c_X11_refuse (j := 6) hC rfl (by decide) ?_)
    exact Vw.iret (de_ireturn (B 48 _ rfl)) rfl ⟨_, rfl, (h0 e I2 ep elen f2)⟩
