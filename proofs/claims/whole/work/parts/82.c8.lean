/-! What changes the town, in the class -/
abbrev tOl : Type := Int32 × (Nat → Int32) × List tH
def feedL (K : Nat → Int32) (l : List tH) (np : Nat) (a b : Int32) : tOl := if zLie b (-3) 3 = 0 then (-1, K, l) else if zLie a 0 (nI np - 1) = 0 then (-2, K, l) else (0, upK K (4 * a.toNatClampNeg + 3) b, l)
def letL (K : Nat → Int32) (l : List tH) (nc : Nat) (c : Int32) (j : Nat) : tOl := if zLie c 0 (nI nc - 1) = 0 then (-2, K, l) else if K (32 + 8 * c.toNatClampNeg + 5 + j) = 0 then (-3, K, l)
  else (letK K c.toNatClampNeg j (32 + 8 * c.toNatClampNeg + j), letK K c.toNatClampNeg j, psh l (K, 1))
def handL (W : tW) (K : Nat → Int32) (l : List tH) (np nc : Nat) (c p : Int32) : tOl := if zLie c 0 (nI nc - 1) = 0 ∨ zLie p 0 (nI np - 1) = 0 then (-2, K, l) else if ¬ K (32 + 8 * c.toNatClampNeg + 4) = -1 then (-3, K, l)
  else if fitAt (handK K c.toNatClampNeg p.toNatClampNeg) c.toNatClampNeg = 0 then (payAt W (handK K c.toNatClampNeg p.toNatClampNeg) c.toNatClampNeg, payK W (handK K c.toNatClampNeg p.toNatClampNeg) c.toNatClampNeg, psh l (K, 3))
  else (0, handK K c.toNatClampNeg p.toNatClampNeg, psh l (K, 3))
def quarL (W : tW) (K : Nat → Int32) (l : List tH) (np nc : Nat) : tOl := if K 121 = 999 then (-3, K, l) else ((quarterP W K np nc).2, (quarterP W K np nc).1, psh l (K, 2))
def FW (s a : Nat) (I I2 : vI) : Prop := ∀ b, ¬ (s + 1 ≤ b ∧ b ≤ s + 23) → b ≠ s + 28 → b ≠ s + 29 → ¬ (a ≤ b ∧ b ≤ a + 370) → I2 b = I b
theorem FW.rfl {s a : Nat} {I : vI} : FW s a I I := fun _ _ _ _ _ => Eq.refl _
theorem FW.trans {s a : Nat} {I I2 I3 : vI} (h : FW s a I I2) (g : FW s a I2 I3) : FW s a I I3 := fun b h1 h2 h3 h4 => (g b h1 h2 h3 h4).trans (h b h1 h2 h3 h4)
theorem Ft.fw {s a : Nat} {I I2 : vI} (h : Ft (s + 1) (s + 28) I I2) : FW s a I I2 := fun b h1 h2 h3 _ => h b (by omega) h2 h3
theorem TR.fed {I J : vI} {t np nc q : Nat} {K : Nat → Int32} {v : Int32} (h : TR I t K np nc) (hq : q < np) (h8 : np ≤ 8) (h10 : nc ≤ 10) (e : ∀ b, t ≤ b → b ≤ t + 22 → b ≠ t + 5 + q → J b = I b) (e1 : ∀ k, k ≠ 3 → J (t + 5 + q) k = I (t + 5 + q) k) (e3 : J (t + 5 + q) 3 = v) : TR J t (upK K (4 * q + 3) v) np nc := by
  obtain ⟨h1, h2, h3, h4, h5, h6⟩ := h
  refine ⟨by rw [e t (by omega) (by omega) (by omega)]; exact h1, by rw [e t (by omega) (by omega) (by omega)]; exact h2, by rw [e t (by omega) (by omega) (by omega), upK_n (by omega)]; exact h3, fun q2 k hq2 hk => ?_, fun c k hc hk => by rw [e _ (by omega) (by omega) (by omega), upK_n (by omega)]; exact h5 c k hc hk, fun j hj => by rw [e _ (by omega) (by omega) (by omega), e _ (by omega) (by omega) (by omega), upK_n (by omega), upK_n (by omega)]; exact h6 j hj⟩
  by_cases g : q2 = q
  · subst g
    by_cases z : k = 3
    · subst z; rw [upK_s]; exact e3
    · rw [e1 k z, upK_n (by omega)]; exact h4 q2 k hq hk
  · rw [e _ (by omega) (by omega) (by omega), upK_n (by omega)]; exact h4 q2 k hq2 hk
/-- a coat's own row has changed -/
theorem TR.coat {I J : vI} {t np nc c : Nat} {K G : Nat → Int32} (h : TR I t K np nc) (hc : c < nc) (h8 : np ≤ 8) (h10 : nc ≤ 10) (e : ∀ b, t ≤ b → b ≤ t + 22 → b ≠ t + 13 + c → J b = I b) (e1 : ∀ k, k < 8 → J (t + 13 + c) k = G (32 + 8 * c + k)) (eG : ∀ x, ¬ (32 + 8 * c ≤ x ∧ x < 32 + 8 * c + 8) → G x = K x) : TR J t G np nc := by
  obtain ⟨h1, h2, h3, h4, h5, h6⟩ := h
  refine ⟨by rw [e t (by omega) (by omega) (by omega)]; exact h1, by rw [e t (by omega) (by omega) (by omega)]; exact h2, by rw [e t (by omega) (by omega) (by omega), eG _ (by omega)]; exact h3, fun q k hq hk => by rw [e _ (by omega) (by omega) (by omega), eG _ (by omega)]; exact h4 q k hq hk, fun c2 k hc2 hk => ?_, fun j hj => by rw [e _ (by omega) (by omega) (by omega), e _ (by omega) (by omega) (by omega), eG _ (by omega), eG _ (by omega)]; exact h6 j hj⟩
  by_cases z : c2 = c
  · subst z; exact e1 k hk
  · rw [e _ (by omega) (by omega) (by omega), eG _ (by omega)]; exact h5 c2 k hc2 hk
theorem zl3 {v : Int32} : zLie v (-3) 3 = 0 ↔ v < -3 ∨ 3 < v := by
  unfold zLie
  by_cases a : v < -3
  · rw [if_pos a]; exact ⟨fun _ => Or.inl a, fun _ => rfl⟩
  · rw [if_neg a]
    by_cases b : 3 < v
    · rw [if_pos b]; exact ⟨fun _ => Or.inr b, fun _ => rfl⟩
    · rw [if_neg b]; exact ⟨fun z => absurd z (by decide), fun z => (z.elim a b).elim⟩
theorem zl01 {v : Int32} : zLie v 0 1 = 0 ↔ v < 0 ∨ 1 < v := by
  unfold zLie
  by_cases a : v < 0
  · rw [if_pos a]; exact ⟨fun _ => Or.inl a, fun _ => rfl⟩
  · rw [if_neg a]
    by_cases b : 1 < v
    · rw [if_pos b]; exact ⟨fun _ => Or.inr b, fun _ => rfl⟩
    · rw [if_neg b]; exact ⟨fun z => absurd z (by decide), fun z => (z.elim a b).elim⟩
theorem c_X10_feedOne {d : Nat} {S : vS} {I : vI} {L : vL} {Q : Int32 → vS → vI → vL → Prop} {s a np nc : Nat} {q v : Int32} {K : Nat → Int32} {l : List tH} (hw : WorksS S (s + 31) s (s + 28)) (hK : TR I (s + 1) K np nc) (hN : TN K np nc) (hC : HC I a l np) (ha : s + 64 ≤ a) (h : ∀ I2 M, FW s a I I2 → Lev (s + 28) L M → TR I2 (s + 1) (feedL K l np q v).2.1 np nc → HC I2 a (feedL K l np q v).2.2 np → Q (feedL K l np q v).1 S I2 M) : Vc mX10_feedOne (d + 1) 0 0 [.ref (s + 31), .int q, .int v] S I L (ViQ Q) := by
  refine Vc.of rfl (Nat.le_of_ble_eq_true rfl) ?_
  have B := bs_X10_feedOne
  show Vw mX10_feedOne (d + 1) 0 0 0 0 (ViQ Q) 0 [(0, .ref (s + 31)), (1, .int q), (2, .int v)] [] S I L
  have h8 := hN.1
  have h10 := hN.2.1
  have hT := hw.p0.p0
  refine Vw.iload_n (de_iload_2 (B 0 _ rfl)) 2 rfl (n := 1) rfl ?_
  refine Vw.bipush (v := -3) (de_bipush (B 1 _ rfl) (B 2 _ rfl)) rfl (n := 3) rfl ?_
  refine Vw.icmp_lt (tgt := 11) (n := 6) (de_icmp_lt (B 3 _ rfl) (B 4 _ rfl) (B 5 _ rfl)) rfl rfl (fun c_3 => ?_) (fun c_3 => ?_)
  · refine Vw.iconst (v := -1) (de_iconst_m1 (B 11 _ rfl)) rfl (n := 12) rfl ?_
    exact Vw.iret (de_ireturn (B 12 _ rfl)) rfl ⟨_, rfl, (by have e := h I L FW.rfl Lev.rfl; unfold feedL at e; rw [if_pos (zl3.mpr (by first | exact Or.inl c_3 | exact Or.inr (Int32.not_le.mp c_8)))] at e; exact e hK hC)⟩
  refine Vw.iload_n (de_iload_2 (B 6 _ rfl)) 2 rfl (n := 7) rfl ?_
  refine Vw.iconst (v := 3) (de_iconst_3 (B 7 _ rfl)) rfl (n := 8) rfl ?_
  refine Vw.icmp_le (tgt := 13) (n := 11) (de_icmp_le (B 8 _ rfl) (B 9 _ rfl) (B 10 _ rfl)) rfl rfl (fun c_8 => ?_) (fun c_8 => ?_)
  · refine Vw.aload_n (de_aload_0 (B 13 _ rfl)) 0 rfl (n := 14) rfl ?_
    refine Vw.getR (de_getfield (B 14 _ rfl) (B 15 _ rfl) (B 16 _ rfl)) fl_X10_15 rfl hw.k hw.f0 (n := 17) rfl ?_
    refine Vw.getR (de_getfield (B 17 _ rfl) (B 18 _ rfl) (B 19 _ rfl)) fl_X10_23 rfl hw.p0.k hw.p0.f0 (n := 20) rfl ?_
    refine Vw.iload_n (de_iload_1 (B 20 _ rfl)) 1 rfl (n := 21) rfl ?_
    refine Vw.ivi1 (mi' := mX9_hasPerson) (de_invokevirtual (B 21 _ rfl) (B 22 _ rfl) (B 23 _ rfl)) ml_X10_29 mv_X9_hasPerson hw.p0.p0.k (Nat.le_of_ble_eq_true rfl) (n := 24) rfl (c_X9_hasPerson hT hK.1 (by omega) ?_)
    refine Vw.if_ne (tgt := 30) (n := 27) (de_if_ne (B 24 _ rfl) (B 25 _ rfl) (B 26 _ rfl)) rfl rfl (fun c_24 => ?_) (fun c_24 => ?_)
    · obtain ⟨j, hj, ej⟩ := lie_ex (by omega) c_24
      subst ej
      refine Vw.aload_n (de_aload_0 (B 30 _ rfl)) 0 rfl (n := 31) rfl ?_
      refine Vw.getR (de_getfield (B 31 _ rfl) (B 32 _ rfl) (B 33 _ rfl)) fl_X10_15 rfl hw.k hw.f0 (n := 34) rfl ?_
      refine Vw.getR (de_getfield (B 34 _ rfl) (B 35 _ rfl) (B 36 _ rfl)) fl_X10_23 rfl hw.p0.k hw.p0.f0 (n := 37) rfl ?_
      refine Vw.getR (de_getfield (B 37 _ rfl) (B 38 _ rfl) (B 39 _ rfl)) fl_X10_35 rfl hw.p0.p0.k hw.p0.p0.f0 (n := 40) rfl ?_
      refine Vw.iload_n (de_iload_1 (B 40 _ rfl)) 1 rfl (n := 41) rfl ?_
      refine Vw.aald3 (b := 0) (de_aaload (B 41 _ rfl)) hw.p0.p0.r0 (vIx_n (k := j) rfl (by omega)) (hT.pr (show j < 8 by omega)) (n := 42) rfl ?_
      refine Vw.iload_n (de_iload_2 (B 42 _ rfl)) 2 rfl (n := 43) rfl ?_
      refine Vw.putI (de_putfield (B 43 _ rfl) (B 44 _ rfl) (B 45 _ rfl)) fl_X10_39 (hT.pk (show j < 8 by omega)) rfl rfl (n := 46) rfl ?_
      refine Vw.iconst (v := 0) (de_iconst_0 (B 46 _ rfl)) rfl (n := 47) rfl ?_
      exact Vw.iret (de_ireturn (B 47 _ rfl)) rfl ⟨_, rfl, (by have e := h (up2 I (s + 1 + 5 + j) 3 v) L (fun b h1 h2 h3 h4 => up2_row (by omega)) Lev.rfl; unfold feedL at e; rw [if_neg (fun z => (zl3.mp z).elim c_3 (Int32.not_lt.mpr c_8)), if_neg c_24, nI_cl (by omega)] at e; exact e (hK.fed hj h8 h10 (fun b g1 g2 g3 => up2_row g3) (fun k hk => up2_k hk) (up2_s _ _ _ _)) (hC.of h8 (fun b g1 g2 => up2_row (by omega))))⟩
    refine Vw.bipush (v := -2) (de_bipush (B 27 _ rfl) (B 28 _ rfl)) rfl (n := 29) rfl ?_
    exact Vw.iret (de_ireturn (B 29 _ rfl)) rfl ⟨_, rfl, (by have e := h I L FW.rfl Lev.rfl; unfold feedL at e; rw [if_neg (fun z => (zl3.mp z).elim c_3 (Int32.not_lt.mpr c_8)), if_pos c_24] at e; exact e hK hC)⟩
  refine Vw.iconst (v := -1) (de_iconst_m1 (B 11 _ rfl)) rfl (n := 12) rfl ?_
  exact Vw.iret (de_ireturn (B 12 _ rfl)) rfl ⟨_, rfl, (by have e := h I L FW.rfl Lev.rfl; unfold feedL at e; rw [if_pos (zl3.mpr (by first | exact Or.inl c_3 | exact Or.inr (Int32.not_le.mp c_8)))] at e; exact e hK hC)⟩
theorem c_X10_letOut {d : Nat} {S : vS} {I : vI} {L : vL} {Q : Int32 → vS → vI → vL → Prop} {s a np nc : Nat} {c x : Int32} {K : Nat → Int32} {l : List tH} (hw : WorksS S (s + 31) s (s + 28)) (hK : TR I (s + 1) K np nc) (hN : TN K np nc) (hH : HistS S a) (hC : HC I a l np) (ha : s + 64 ≤ a) (h1 : zLie x 0 1 = 0 → Q (-1) S I L) (h : ∀ j, j ≤ 1 → x = nI j → ∀ I2 M, FW s a I I2 → Lev (s + 28) L M → TR I2 (s + 1) (letL K l nc c j).2.1 np nc → HC I2 a (letL K l nc c j).2.2 np → Q (letL K l nc c j).1 S I2 M) : Vc mX10_letOut (d + 4) 0 0 [.ref (s + 31), .int c, .int x, .ref a] S I L (ViQ Q) := by
  refine Vc.of rfl (Nat.le_of_ble_eq_true rfl) ?_
  have B := bs_X10_letOut
  show Vw mX10_letOut (d + 4) 0 0 0 0 (ViQ Q) 0 [(0, .ref (s + 31)), (1, .int c), (2, .int x), (3, .ref a)] [] S I L
  have h8 := hN.1
  have h10 := hN.2.1
  have hT := hw.p0.p0
  by_cases e0 : x = 0
  · subst e0
    refine Vw.iload_n (de_iload_2 (B 0 _ rfl)) 2 rfl (n := 1) rfl ?_
    refine Vw.if_lt (tgt := 9) (n := 4) (de_if_lt (B 1 _ rfl) (B 2 _ rfl) (B 3 _ rfl)) rfl rfl (fun c_1 => ?_) (fun c_1 => ?_)
    · exact absurd c_1 (by decide)
    refine Vw.iload_n (de_iload_2 (B 4 _ rfl)) 2 rfl (n := 5) rfl ?_
    refine Vw.iconst (v := 1) (de_iconst_1 (B 5 _ rfl)) rfl (n := 6) rfl ?_
    refine Vw.icmp_le (tgt := 11) (n := 9) (de_icmp_le (B 6 _ rfl) (B 7 _ rfl) (B 8 _ rfl)) rfl rfl (fun c_6 => ?_) (fun c_6 => ?_)
    · refine Vw.aload_n (de_aload_0 (B 11 _ rfl)) 0 rfl (n := 12) rfl ?_
      refine Vw.getR (de_getfield (B 12 _ rfl) (B 13 _ rfl) (B 14 _ rfl)) fl_X10_15 rfl hw.k hw.f0 (n := 15) rfl ?_
      refine Vw.getR (de_getfield (B 15 _ rfl) (B 16 _ rfl) (B 17 _ rfl)) fl_X10_23 rfl hw.p0.k hw.p0.f0 (n := 18) rfl ?_
      refine Vw.iload_n (de_iload_1 (B 18 _ rfl)) 1 rfl (n := 19) rfl ?_
      refine Vw.ivi1 (mi' := mX9_hasCoat) (de_invokevirtual (B 19 _ rfl) (B 20 _ rfl) (B 21 _ rfl)) ml_X10_69 mv_X9_hasCoat hw.p0.p0.k (Nat.le_of_ble_eq_true rfl) (n := 22) rfl (c_X9_hasCoat hT hK.2.1 (by omega) ?_)
      refine Vw.if_ne (tgt := 28) (n := 25) (de_if_ne (B 22 _ rfl) (B 23 _ rfl) (B 24 _ rfl)) rfl rfl (fun c_22 => ?_) (fun c_22 => ?_)
      · obtain ⟨i, hi, ei⟩ := lie_ex (by omega) c_22
        subst ei
        refine Vw.aload_n (de_aload_0 (B 28 _ rfl)) 0 rfl (n := 29) rfl ?_
        refine Vw.getR (de_getfield (B 29 _ rfl) (B 30 _ rfl) (B 31 _ rfl)) fl_X10_15 rfl hw.k hw.f0 (n := 32) rfl ?_
        refine Vw.getR (de_getfield (B 32 _ rfl) (B 33 _ rfl) (B 34 _ rfl)) fl_X10_23 rfl hw.p0.k hw.p0.f0 (n := 35) rfl ?_
        refine Vw.getR (de_getfield (B 35 _ rfl) (B 36 _ rfl) (B 37 _ rfl)) fl_X10_72 rfl hw.p0.p0.k hw.p0.p0.f1 (n := 38) rfl ?_
        refine Vw.iload_n (de_iload_1 (B 38 _ rfl)) 1 rfl (n := 39) rfl ?_
        refine Vw.aald0 (b := 0) (de_aaload (B 39 _ rfl)) hw.p0.p0.r1 (vIx_n (k := i) rfl (by omega)) (hT.cr (show i < 10 by omega)) (n := 40) rfl ?_
        refine Vw.astore (lv2 := [(0, _), (1, _), (2, _), (3, _), (4, _)]) (de_astore (B 40 _ rfl) (B 41 _ rfl)) (by decide) [1, 2, 3, 4, 0] rfl (n := 42) rfl ?_
        refine Vw.iload_n (de_iload_2 (B 42 _ rfl)) 2 rfl (n := 43) rfl ?_
        refine Vw.if_ne (tgt := 54) (n := 46) (de_if_ne (B 43 _ rfl) (B 44 _ rfl) (B 45 _ rfl)) rfl rfl (fun c_43 => ?_) (fun c_43 => ?_)
        · exact absurd c_43 (by decide)
        refine Vw.aload (de_aload (B 46 _ rfl) (B 47 _ rfl)) 4 rfl (n := 48) rfl ?_
        refine Vw.getI (de_getfield (B 48 _ rfl) (B 49 _ rfl) (B 50 _ rfl)) fl_X10_76 rfl (hT.ck (show i < 10 by omega)) (n := 51) rfl ?_
        refine Vw.goto_ (n := 59) (de_goto_ (B 51 _ rfl) (B 52 _ rfl) (B 53 _ rfl)) rfl ?_
        rw [hK.co hi (by decide)]
        refine Vw.if_ne (tgt := 65) (n := 62) (de_if_ne (B 59 _ rfl) (B 60 _ rfl) (B 61 _ rfl)) rfl rfl (fun c_59 => ?_) (fun c_59 => ?_)
        · refine Vw.aload_n (de_aload_3 (B 65 _ rfl)) 3 rfl (n := 66) rfl ?_
          refine Vw.iconst (v := 1) (de_iconst_1 (B 66 _ rfl)) rfl (n := 67) rfl ?_
          refine Vw.aload_n (de_aload_0 (B 67 _ rfl)) 0 rfl (n := 68) rfl ?_
          refine Vw.getR (de_getfield (B 68 _ rfl) (B 69 _ rfl) (B 70 _ rfl)) fl_X10_15 rfl hw.k hw.f0 (n := 71) rfl ?_
          refine Vw.getR (de_getfield (B 71 _ rfl) (B 72 _ rfl) (B 73 _ rfl)) fl_X10_23 rfl hw.p0.k hw.p0.f0 (n := 74) rfl ?_
          refine Vw.ivv2 (mi' := mX2_push) (de_invokevirtual (B 74 _ rfl) (B 75 _ rfl) (B 76 _ rfl)) ml_X10_84 mv_X2_push hH.k (Nat.le_of_ble_eq_true rfl) (n := 77) rfl (c_X2_push hH hT hC hK h8 h10 hN.2.2.2.1 (by omega) (fun I3 f3 c3 => ?_))
          refine Vw.iload_n (de_iload_2 (B 77 _ rfl)) 2 rfl (n := 78) rfl ?_
          refine Vw.if_ne (tgt := 109) (n := 81) (de_if_ne (B 78 _ rfl) (B 79 _ rfl) (B 80 _ rfl)) rfl rfl (fun c_78 => ?_) (fun c_78 => ?_)
          · exact absurd c_78 (by decide)
          refine Vw.aload (de_aload (B 81 _ rfl) (B 82 _ rfl)) 4 rfl (n := 83) rfl ?_
          refine Vw.dup (de_dup (B 83 _ rfl)) rfl (n := 84) rfl ?_
          refine Vw.getI (de_getfield (B 84 _ rfl) (B 85 _ rfl) (B 86 _ rfl)) fl_X10_76 rfl (hT.ck (show i < 10 by omega)) (n := 87) rfl ?_
          rw [f3 _ (show ¬ (a ≤ s + 1 + 13 + i ∧ s + 1 + 13 + i ≤ a + 370) by omega)]
          refine Vw.iconst (v := 1) (de_iconst_1 (B 87 _ rfl)) rfl (n := 88) rfl ?_
          refine Vw.isub (de_isub (B 88 _ rfl)) (n := 89) rfl ?_
          refine Vw.putI (de_putfield (B 89 _ rfl) (B 90 _ rfl) (B 91 _ rfl)) fl_X10_76 (hT.ck (show i < 10 by omega)) rfl rfl (n := 92) rfl ?_
          refine Vw.aload (de_aload (B 92 _ rfl) (B 93 _ rfl)) 4 rfl (n := 94) rfl ?_
          refine Vw.dup (de_dup (B 94 _ rfl)) rfl (n := 95) rfl ?_
          refine Vw.getI (de_getfield (B 95 _ rfl) (B 96 _ rfl) (B 97 _ rfl)) fl_X10_90 rfl (hT.ck (show i < 10 by omega)) (n := 98) rfl ?_
          rw [up2_k (by decide), f3 _ (show ¬ (a ≤ s + 1 + 13 + i ∧ s + 1 + 13 + i ≤ a + 370) by omega)]
          refine Vw.iconst (v := 2) (de_iconst_2 (B 98 _ rfl)) rfl (n := 99) rfl ?_
          refine Vw.iadd (de_iadd (B 99 _ rfl)) (n := 100) rfl ?_
          refine Vw.putI (de_putfield (B 100 _ rfl) (B 101 _ rfl) (B 102 _ rfl)) fl_X10_90 (hT.ck (show i < 10 by omega)) rfl rfl (n := 103) rfl ?_
          have fi : I3 (s + 1 + 13 + i) = I (s + 1 + 13 + i) := f3 _ (by omega)
          have f5 : FW s a I (up2 (up2 I3 (s + 1 + 13 + i) 5 (I (s + 1 + 13 + i) 5 - 1)) (s + 1 + 13 + i) 0 (I (s + 1 + 13 + i) 0 + 2)) := fun b g1 g2 g3 g4 => by rw [up2_row (by omega), up2_row (by omega)]; exact f3 b g4
          have eK : ∀ k, k < 8 → (up2 (up2 I3 (s + 1 + 13 + i) 5 (I (s + 1 + 13 + i) 5 - 1)) (s + 1 + 13 + i) 0 (I (s + 1 + 13 + i) 0 + 2)) (s + 1 + 13 + i) k = letK K i 0 (32 + 8 * i + k) := by
            intro k hk
            unfold letK
            by_cases z1 : k = 0
            · subst z1; rw [up2_s, upK_s, hK.co0 hi]; rfl
            · rw [up2_k z1, upK_n (by omega)]
              by_cases z2 : k = 5
              · subst z2; rw [up2_s, show 32 + 8 * i + 5 = 32 + 8 * i + 5 + 0 from rfl, upK_s, hK.co hi (by decide)]
              · rw [up2_k z2, upK_n (by omega), fi]; exact hK.co hi hk
          have k5 : TR (up2 (up2 I3 (s + 1 + 13 + i) 5 (I (s + 1 + 13 + i) 5 - 1)) (s + 1 + 13 + i) 0 (I (s + 1 + 13 + i) 0 + 2)) (s + 1) (letK K i 0) np nc := hK.coat hi h8 h10 (fun b g1 g2 g3 => by rw [up2_row g3, up2_row g3]; exact f3 b (by omega)) eK (fun x hx => letK_o (by omega) (by omega))
          have c5 : HC (up2 (up2 I3 (s + 1 + 13 + i) 5 (I (s + 1 + 13 + i) 5 - 1)) (s + 1 + 13 + i) 0 (I (s + 1 + 13 + i) 0 + 2)) a (psh l (K, 1)) np := c3.of h8 (fun b g1 g2 => by rw [up2_row (by omega), up2_row (by omega)])
          refine Vw.aload (de_aload (B 103 _ rfl) (B 104 _ rfl)) 4 rfl (n := 105) rfl ?_
          refine Vw.getI (de_getfield (B 105 _ rfl) (B 106 _ rfl) (B 107 _ rfl)) fl_X10_90 rfl (hT.ck (show i < 10 by omega)) (n := 108) rfl ?_
          rw [eK 0 (by decide)]
          exact Vw.iret (de_ireturn (B 108 _ rfl)) rfl ⟨_, rfl, (by have e := h 0 (by decide) rfl _ L f5 Lev.rfl; unfold letL at e; rw [if_neg c_22, nI_cl (by omega), if_neg c_59] at e; exact e k5 c5)⟩
        refine Vw.bipush (v := -3) (de_bipush (B 62 _ rfl) (B 63 _ rfl)) rfl (n := 64) rfl ?_
        exact Vw.iret (de_ireturn (B 64 _ rfl)) rfl ⟨_, rfl, (by have e := h 0 (by decide) rfl I L FW.rfl Lev.rfl; unfold letL at e; rw [if_neg c_22, nI_cl (by omega), if_pos c_59] at e; exact e hK hC)⟩
      refine Vw.bipush (v := -2) (de_bipush (B 25 _ rfl) (B 26 _ rfl)) rfl (n := 27) rfl ?_
      exact Vw.iret (de_ireturn (B 27 _ rfl)) rfl ⟨_, rfl, (by have e := h 0 (by decide) rfl I L FW.rfl Lev.rfl; unfold letL at e; rw [if_pos c_22] at e; exact e hK hC)⟩
    exact absurd c_6 (by decide)
  · by_cases e1 : x = 1
    · subst e1
      refine Vw.iload_n (de_iload_2 (B 0 _ rfl)) 2 rfl (n := 1) rfl ?_
      refine Vw.if_lt (tgt := 9) (n := 4) (de_if_lt (B 1 _ rfl) (B 2 _ rfl) (B 3 _ rfl)) rfl rfl (fun c_1 => ?_) (fun c_1 => ?_)
      · exact absurd c_1 (by decide)
      refine Vw.iload_n (de_iload_2 (B 4 _ rfl)) 2 rfl (n := 5) rfl ?_
      refine Vw.iconst (v := 1) (de_iconst_1 (B 5 _ rfl)) rfl (n := 6) rfl ?_
      refine Vw.icmp_le (tgt := 11) (n := 9) (de_icmp_le (B 6 _ rfl) (B 7 _ rfl) (B 8 _ rfl)) rfl rfl (fun c_6 => ?_) (fun c_6 => ?_)
      · refine Vw.aload_n (de_aload_0 (B 11 _ rfl)) 0 rfl (n := 12) rfl ?_
        refine Vw.getR (de_getfield (B 12 _ rfl) (B 13 _ rfl) (B 14 _ rfl)) fl_X10_15 rfl hw.k hw.f0 (n := 15) rfl ?_
        refine Vw.getR (de_getfield (B 15 _ rfl) (B 16 _ rfl) (B 17 _ rfl)) fl_X10_23 rfl hw.p0.k hw.p0.f0 (n := 18) rfl ?_
        refine Vw.iload_n (de_iload_1 (B 18 _ rfl)) 1 rfl (n := 19) rfl ?_
        refine Vw.ivi1 (mi' := mX9_hasCoat) (de_invokevirtual (B 19 _ rfl) (B 20 _ rfl) (B 21 _ rfl)) ml_X10_69 mv_X9_hasCoat hw.p0.p0.k (Nat.le_of_ble_eq_true rfl) (n := 22) rfl (c_X9_hasCoat hT hK.2.1 (by omega) ?_)
        refine Vw.if_ne (tgt := 28) (n := 25) (de_if_ne (B 22 _ rfl) (B 23 _ rfl) (B 24 _ rfl)) rfl rfl (fun c_22 => ?_) (fun c_22 => ?_)
        · obtain ⟨i, hi, ei⟩ := lie_ex (by omega) c_22
          subst ei
          refine Vw.aload_n (de_aload_0 (B 28 _ rfl)) 0 rfl (n := 29) rfl ?_
          refine Vw.getR (de_getfield (B 29 _ rfl) (B 30 _ rfl) (B 31 _ rfl)) fl_X10_15 rfl hw.k hw.f0 (n := 32) rfl ?_
          refine Vw.getR (de_getfield (B 32 _ rfl) (B 33 _ rfl) (B 34 _ rfl)) fl_X10_23 rfl hw.p0.k hw.p0.f0 (n := 35) rfl ?_
          refine Vw.getR (de_getfield (B 35 _ rfl) (B 36 _ rfl) (B 37 _ rfl)) fl_X10_72 rfl hw.p0.p0.k hw.p0.p0.f1 (n := 38) rfl ?_
          refine Vw.iload_n (de_iload_1 (B 38 _ rfl)) 1 rfl (n := 39) rfl ?_
          refine Vw.aald0 (b := 0) (de_aaload (B 39 _ rfl)) hw.p0.p0.r1 (vIx_n (k := i) rfl (by omega)) (hT.cr (show i < 10 by omega)) (n := 40) rfl ?_
          refine Vw.astore (lv2 := [(0, _), (1, _), (2, _), (3, _), (4, _)]) (de_astore (B 40 _ rfl) (B 41 _ rfl)) (by decide) [1, 2, 3, 4, 0] rfl (n := 42) rfl ?_
          refine Vw.iload_n (de_iload_2 (B 42 _ rfl)) 2 rfl (n := 43) rfl ?_
          refine Vw.if_ne (tgt := 54) (n := 46) (de_if_ne (B 43 _ rfl) (B 44 _ rfl) (B 45 _ rfl)) rfl rfl (fun c_43 => ?_) (fun c_43 => ?_)
          · refine Vw.aload (de_aload (B 54 _ rfl) (B 55 _ rfl)) 4 rfl (n := 56) rfl ?_
            refine Vw.getI (de_getfield (B 56 _ rfl) (B 57 _ rfl) (B 58 _ rfl)) fl_X10_81 rfl (hT.ck (show i < 10 by omega)) (n := 59) rfl ?_
            rw [hK.co hi (by decide)]
            refine Vw.if_ne (tgt := 65) (n := 62) (de_if_ne (B 59 _ rfl) (B 60 _ rfl) (B 61 _ rfl)) rfl rfl (fun c_59 => ?_) (fun c_59 => ?_)
            · refine Vw.aload_n (de_aload_3 (B 65 _ rfl)) 3 rfl (n := 66) rfl ?_
              refine Vw.iconst (v := 1) (de_iconst_1 (B 66 _ rfl)) rfl (n := 67) rfl ?_
              refine Vw.aload_n (de_aload_0 (B 67 _ rfl)) 0 rfl (n := 68) rfl ?_
              refine Vw.getR (de_getfield (B 68 _ rfl) (B 69 _ rfl) (B 70 _ rfl)) fl_X10_15 rfl hw.k hw.f0 (n := 71) rfl ?_
              refine Vw.getR (de_getfield (B 71 _ rfl) (B 72 _ rfl) (B 73 _ rfl)) fl_X10_23 rfl hw.p0.k hw.p0.f0 (n := 74) rfl ?_
              refine Vw.ivv2 (mi' := mX2_push) (de_invokevirtual (B 74 _ rfl) (B 75 _ rfl) (B 76 _ rfl)) ml_X10_84 mv_X2_push hH.k (Nat.le_of_ble_eq_true rfl) (n := 77) rfl (c_X2_push hH hT hC hK h8 h10 hN.2.2.2.1 (by omega) (fun I3 f3 c3 => ?_))
              refine Vw.iload_n (de_iload_2 (B 77 _ rfl)) 2 rfl (n := 78) rfl ?_
              refine Vw.if_ne (tgt := 109) (n := 81) (de_if_ne (B 78 _ rfl) (B 79 _ rfl) (B 80 _ rfl)) rfl rfl (fun c_78 => ?_) (fun c_78 => ?_)
              · refine Vw.aload (de_aload (B 109 _ rfl) (B 110 _ rfl)) 4 rfl (n := 111) rfl ?_
                refine Vw.dup (de_dup (B 111 _ rfl)) rfl (n := 112) rfl ?_
                refine Vw.getI (de_getfield (B 112 _ rfl) (B 113 _ rfl) (B 114 _ rfl)) fl_X10_81 rfl (hT.ck (show i < 10 by omega)) (n := 115) rfl ?_
                rw [f3 _ (show ¬ (a ≤ s + 1 + 13 + i ∧ s + 1 + 13 + i ≤ a + 370) by omega)]
                refine Vw.iconst (v := 1) (de_iconst_1 (B 115 _ rfl)) rfl (n := 116) rfl ?_
                refine Vw.isub (de_isub (B 116 _ rfl)) (n := 117) rfl ?_
                refine Vw.putI (de_putfield (B 117 _ rfl) (B 118 _ rfl) (B 119 _ rfl)) fl_X10_81 (hT.ck (show i < 10 by omega)) rfl rfl (n := 120) rfl ?_
                refine Vw.aload (de_aload (B 120 _ rfl) (B 121 _ rfl)) 4 rfl (n := 122) rfl ?_
                refine Vw.dup (de_dup (B 122 _ rfl)) rfl (n := 123) rfl ?_
                refine Vw.getI (de_getfield (B 123 _ rfl) (B 124 _ rfl) (B 125 _ rfl)) fl_X10_93 rfl (hT.ck (show i < 10 by omega)) (n := 126) rfl ?_
                rw [up2_k (by decide), f3 _ (show ¬ (a ≤ s + 1 + 13 + i ∧ s + 1 + 13 + i ≤ a + 370) by omega)]
                refine Vw.iconst (v := 1) (de_iconst_1 (B 126 _ rfl)) rfl (n := 127) rfl ?_
                refine Vw.iadd (de_iadd (B 127 _ rfl)) (n := 128) rfl ?_
                refine Vw.putI (de_putfield (B 128 _ rfl) (B 129 _ rfl) (B 130 _ rfl)) fl_X10_93 (hT.ck (show i < 10 by omega)) rfl rfl (n := 131) rfl ?_
                have fi : I3 (s + 1 + 13 + i) = I (s + 1 + 13 + i) := f3 _ (by omega)
                have f5 : FW s a I (up2 (up2 I3 (s + 1 + 13 + i) 6 (I (s + 1 + 13 + i) 6 - 1)) (s + 1 + 13 + i) 1 (I (s + 1 + 13 + i) 1 + 1)) := fun b g1 g2 g3 g4 => by rw [up2_row (by omega), up2_row (by omega)]; exact f3 b g4
                have eK : ∀ k, k < 8 → (up2 (up2 I3 (s + 1 + 13 + i) 6 (I (s + 1 + 13 + i) 6 - 1)) (s + 1 + 13 + i) 1 (I (s + 1 + 13 + i) 1 + 1)) (s + 1 + 13 + i) k = letK K i 1 (32 + 8 * i + k) := by
                  intro k hk
                  unfold letK
                  by_cases z1 : k = 1
                  · subst z1; rw [up2_s, upK_s, hK.co hi (by decide)]; rfl
                  · rw [up2_k z1, upK_n (by omega)]
                    by_cases z2 : k = 6
                    · subst z2; rw [up2_s, show 32 + 8 * i + 6 = 32 + 8 * i + 5 + 1 from rfl, upK_s, hK.co hi (by decide)]
                    · rw [up2_k z2, upK_n (by omega), fi]; exact hK.co hi hk
                have k5 : TR (up2 (up2 I3 (s + 1 + 13 + i) 6 (I (s + 1 + 13 + i) 6 - 1)) (s + 1 + 13 + i) 1 (I (s + 1 + 13 + i) 1 + 1)) (s + 1) (letK K i 1) np nc := hK.coat hi h8 h10 (fun b g1 g2 g3 => by rw [up2_row g3, up2_row g3]; exact f3 b (by omega)) eK (fun x hx => letK_o (by omega) (by omega))
                have c5 : HC (up2 (up2 I3 (s + 1 + 13 + i) 6 (I (s + 1 + 13 + i) 6 - 1)) (s + 1 + 13 + i) 1 (I (s + 1 + 13 + i) 1 + 1)) a (psh l (K, 1)) np := c3.of h8 (fun b g1 g2 => by rw [up2_row (by omega), up2_row (by omega)])
                refine Vw.aload (de_aload (B 131 _ rfl) (B 132 _ rfl)) 4 rfl (n := 133) rfl ?_
                refine Vw.getI (de_getfield (B 133 _ rfl) (B 134 _ rfl) (B 135 _ rfl)) fl_X10_93 rfl (hT.ck (show i < 10 by omega)) (n := 136) rfl ?_
                rw [eK 1 (by decide)]
                exact Vw.iret (de_ireturn (B 136 _ rfl)) rfl ⟨_, rfl, (by have e := h 1 (by decide) rfl _ L f5 Lev.rfl; unfold letL at e; rw [if_neg c_22, nI_cl (by omega), if_neg c_59] at e; exact e k5 c5)⟩
              exact absurd c_78 (by decide)
            refine Vw.bipush (v := -3) (de_bipush (B 62 _ rfl) (B 63 _ rfl)) rfl (n := 64) rfl ?_
            exact Vw.iret (de_ireturn (B 64 _ rfl)) rfl ⟨_, rfl, (by have e := h 1 (by decide) rfl I L FW.rfl Lev.rfl; unfold letL at e; rw [if_neg c_22, nI_cl (by omega), if_pos c_59] at e; exact e hK hC)⟩
          exact absurd c_43 (by decide)
        refine Vw.bipush (v := -2) (de_bipush (B 25 _ rfl) (B 26 _ rfl)) rfl (n := 27) rfl ?_
        exact Vw.iret (de_ireturn (B 27 _ rfl)) rfl ⟨_, rfl, (by have e := h 1 (by decide) rfl I L FW.rfl Lev.rfl; unfold letL at e; rw [if_pos c_22] at e; exact e hK hC)⟩
      exact absurd c_6 (by decide)
    · have hz : x < 0 ∨ 1 < x := by
        have a1 := ne_ti e0 0 rfl
        have a2 := ne_ti e1 1 rfl
        rcases (show x.toInt < 0 ∨ 1 < x.toInt by omega) with z | z
        · exact Or.inl (i32_lt.mpr z)
        · exact Or.inr (i32_lt.mpr z)
      refine Vw.iload_n (de_iload_2 (B 0 _ rfl)) 2 rfl (n := 1) rfl ?_
      refine Vw.if_lt (tgt := 9) (n := 4) (de_if_lt (B 1 _ rfl) (B 2 _ rfl) (B 3 _ rfl)) rfl rfl (fun c_1 => ?_) (fun c_1 => ?_)
      · refine Vw.iconst (v := -1) (de_iconst_m1 (B 9 _ rfl)) rfl (n := 10) rfl ?_
        exact Vw.iret (de_ireturn (B 10 _ rfl)) rfl ⟨_, rfl, (h1 (zl01.mpr hz))⟩
      refine Vw.iload_n (de_iload_2 (B 4 _ rfl)) 2 rfl (n := 5) rfl ?_
      refine Vw.iconst (v := 1) (de_iconst_1 (B 5 _ rfl)) rfl (n := 6) rfl ?_
      refine Vw.icmp_le (tgt := 11) (n := 9) (de_icmp_le (B 6 _ rfl) (B 7 _ rfl) (B 8 _ rfl)) rfl rfl (fun c_6 => ?_) (fun c_6 => ?_)
      · exact absurd hz (fun z => z.elim c_1 (Int32.not_lt.mpr c_6))
      refine Vw.iconst (v := -1) (de_iconst_m1 (B 9 _ rfl)) rfl (n := 10) rfl ?_
      exact Vw.iret (de_ireturn (B 10 _ rfl)) rfl ⟨_, rfl, (h1 (zl01.mpr hz))⟩
