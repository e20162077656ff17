/-! A quarter of the class -/
theorem TR.put {I J : vI} {t np nc q : Nat} {K : Nat → Int32} {P : tP} (h : TR I t K np nc) (hq : q < np) (h8 : np ≤ 8) (h10 : nc ≤ 10) (e : ∀ b, t ≤ b → b ≤ t + 22 → b ≠ t + 5 + q → J b = I b) (ep : perA J (t + 5 + q) = P) (hf : P.2.2.2 = K (4 * q + 3)) : TR J t (putP K q P) np nc := by
  obtain ⟨h1, h2, h3, h4, h5, h6⟩ := h
  have z := perAe ep
  refine ⟨by rw [e t (by omega) (by omega) (by omega)]; exact h1, by rw [e t (by omega) (by omega) (by omega)]; exact h2, by rw [e t (by omega) (by omega) (by omega), putP_o (by omega)]; exact h3, fun q2 k hq2 hk => ?_, fun c k hc hk => ?_, fun j hj => ?_⟩
  · by_cases g : q2 = q
    · subst g
      unfold putP
      rcases (show k = 0 ∨ k = 1 ∨ k = 2 ∨ k = 3 by omega) with rfl | rfl | rfl | rfl
      · rw [upK_n (by omega), upK_n (by omega), show 4 * q2 + 0 = 4 * q2 from rfl, upK_s]; exact z.1
      · rw [upK_n (by omega), upK_s]; exact z.2.1
      · rw [upK_s]; exact z.2.2.1
      · rw [upK_n (by omega), upK_n (by omega), upK_n (by omega), z.2.2.2, hf]
    · rw [e _ (by omega) (by omega) (by omega), putP_o (by omega)]; exact h4 q2 k hq2 hk
  · rw [e _ (by omega) (by omega) (by omega), putP_o (by omega)]; exact h5 c k hc hk
  · rw [e _ (by omega) (by omega) (by omega), e _ (by omega) (by omega) (by omega), putP_o (by omega), putP_o (by omega)]; exact h6 j hj
theorem TR.now {I J : vI} {t np nc : Nat} {K : Nat → Int32} (h : TR I t K np nc) (h8 : np ≤ 8) (h10 : nc ≤ 10) (e : ∀ b, t < b → b ≤ t + 22 → J b = I b) (e4 : J t 4 = I t 4) (e5 : J t 5 = I t 5) (e6 : J t 6 = K 121 + 1) : TR J t (nowK K) np nc := by
  obtain ⟨h1, h2, h3, h4, h5, h6⟩ := h
  unfold nowK
  refine ⟨e4.trans h1, e5.trans h2, by rw [upK_s]; exact e6, fun q k hq hk => by rw [e _ (by omega) (by omega), upK_n (by omega)]; exact h4 q k hq hk, fun c k hc hk => by rw [e _ (by omega) (by omega), upK_n (by omega)]; exact h5 c k hc hk, fun j hj => by rw [e _ (by omega) (by omega), e _ (by omega) (by omega), upK_n (by omega), upK_n (by omega)]; exact h6 j hj⟩
theorem c_X9_growAll {d : Nat} {S : vS} {I : vI} {L : vL} {Q : vS → vI → vL → Prop} {t s u lb np nc : Nat} {K : Nat → Int32} {W : tW} (hT : TownS S t) (hK : TR I t K np nc) (h8 : np ≤ 8) (h10 : nc ≤ 10) (hR : RulesS S u s) (hW : WC S I s lb W) (hD : Dj t s u lb) (h : ∀ I2 M, Ft t u I I2 → Lev u L M → TR I2 t (nowK (growK W K np)) np nc → Q S I2 M) : Vc mX9_growAll (d + 3) 0 0 [.ref t, .ref u] S I L (VvQ Q) := by
  refine Vc.of rfl (Nat.le_of_ble_eq_true rfl) ?_
  have B := bs_X9_growAll
  show Vw mX9_growAll (d + 3) 0 0 0 0 (VvQ Q) 0 [(0, .ref t), (1, .ref u)] [] S I L
  have nsu : s ≠ u := ne_k hR.p0.k hR.k (by decide)
  have nsu1 : s ≠ u + 1 := ne_k hR.p0.k (show (S.1 (u + 1)).1 = 100 by rw [hR.r1]) (by decide)
  have hD2 := hD
  obtain ⟨dj1, dj2, dj3, dj4⟩ := hD
  have loop : ∀ n, n ≤ np → ∀ J M, Ft t u I J → Lev u L M → TR J t (growK W K n) np nc → Vw mX9_growAll (d + 3) 0 0 0 0 (VvQ Q) 2 [(0, .ref t), (1, .ref u), (2, .int (nI n))] [] S J M := by
    refine loop_up (fun n hn ih => ?_)
    intro J M fJ fM kJ
    have wJ : WC S J s lb W := hW.of (fJ s (by omega) nsu nsu1) (fun b hb => fJ b (by omega) (by omega) (by omega))
    refine Vw.iload_n (de_iload_2 (B 2 _ rfl)) 2 rfl (n := 3) rfl ?_
    refine Vw.aload_n (de_aload_0 (B 3 _ rfl)) 0 rfl (n := 4) rfl ?_
    refine Vw.getI (de_getfield (B 4 _ rfl) (B 5 _ rfl) (B 6 _ rfl)) fl_X9_32 rfl hT.k (n := 7) rfl ?_
    rw [kJ.1]
    refine Vw.icmp_ge (tgt := 31) (n := 10) (de_icmp_ge (B 7 _ rfl) (B 8 _ rfl) (B 9 _ rfl)) rfl rfl (fun c_7 => ?_) (fun c_7 => ?_)
    · have z_7 : np ≤ n := ((nI_leI (a := np) (b := n) (by omega) (by omega)).mp c_7)
      obtain rfl : n = np := by omega
      refine Vw.aload_n (de_aload_0 (B 31 _ rfl)) 0 rfl (n := 32) rfl ?_
      refine Vw.dup (de_dup (B 32 _ rfl)) rfl (n := 33) rfl ?_
      refine Vw.getI (de_getfield (B 33 _ rfl) (B 34 _ rfl) (B 35 _ rfl)) fl_X9_39 rfl hT.k (n := 36) rfl ?_
      rw [kJ.2.2.1]
      refine Vw.iconst (v := 1) (de_iconst_1 (B 36 _ rfl)) rfl (n := 37) rfl ?_
      refine Vw.iadd (de_iadd (B 37 _ rfl)) (n := 38) rfl ?_
      refine Vw.putI (de_putfield (B 38 _ rfl) (B 39 _ rfl) (B 40 _ rfl)) fl_X9_39 hT.k rfl rfl (n := 41) rfl ?_
      exact Vw.vret (de_return_ (B 41 _ rfl)) rfl ⟨rfl, (h _ M (fJ.trans (fun b g1 g2 g3 => up2_row (by omega))) fM (kJ.now h8 h10 (fun b g1 g2 => up2_row (by omega)) (up2_k (by decide)) (up2_k (by decide)) (up2_s _ _ _ _)))⟩
    have z_7 : n < np := by rcases Nat.lt_or_ge n np with z | z; exact z; exact absurd ((nI_leI (a := np) (b := n) (by omega) (by omega)).mpr z) c_7
    refine Vw.aload_n (de_aload_1 (B 10 _ rfl)) 1 rfl (n := 11) rfl ?_
    refine Vw.aload_n (de_aload_0 (B 11 _ rfl)) 0 rfl (n := 12) rfl ?_
    refine Vw.getR (de_getfield (B 12 _ rfl) (B 13 _ rfl) (B 14 _ rfl)) fl_X9_11 rfl hT.k hT.f0 (n := 15) rfl ?_
    refine Vw.iload_n (de_iload_2 (B 15 _ rfl)) 2 rfl (n := 16) rfl ?_
    refine Vw.aald3 (b := 0) (de_aaload (B 16 _ rfl)) hT.r0 (vIx_n (k := n) rfl (by omega)) (hT.pr (show n < 8 by omega)) (n := 17) rfl ?_
    refine Vw.iload_n (de_iload_2 (B 17 _ rfl)) 2 rfl (n := 18) rfl ?_
    refine Vw.aload_n (de_aload_0 (B 18 _ rfl)) 0 rfl (n := 19) rfl ?_
    refine Vw.getI (de_getfield (B 19 _ rfl) (B 20 _ rfl) (B 21 _ rfl)) fl_X9_39 rfl hT.k (n := 22) rfl ?_
    rw [kJ.2.2.1]
    refine Vw.ivv3 (mi' := mX6_growOlder) (de_invokevirtual (B 22 _ rfl) (B 23 _ rfl) (B 24 _ rfl)) ml_X9_97 mv_X6_growOlder hR.k (Nat.le_of_ble_eq_true rfl) (n := 25) rfl (c_X6_growOlder hR (hT.pk (show n < 8 by omega)) wJ dj4 (fun I3 M3 f3 m3 e3 => ?_))
    refine Vw.iinc (v := nI (n + 1)) (lv2 := [(0, _), (1, _), (2, _)]) (de_iinc (B 25 _ rfl) (B 26 _ rfl) (B 27 _ rfl)) 2 rfl (nI_1 n) (by decide) [1, 2, 0] rfl (n := 28) rfl ?_
    refine Vw.goto_ (n := 2) (de_goto_ (B 28 _ rfl) (B 29 _ rfl) (B 30 _ rfl)) rfl ?_
    refine ih z_7 I3 M3 (fJ.trans (fun b g1 g2 g3 => f3 b g3 (by omega))) (fM.trans m3) ?_
    rw [growK]
    refine kJ.put z_7 h8 h10 (fun b g1 g2 g3 => f3 b (by omega) g3) ?_ ?_
    · rw [e3, kJ.per z_7]
    · rfl
  refine Vw.iconst (v := 0) (de_iconst_0 (B 0 _ rfl)) rfl (n := 1) rfl ?_
  refine Vw.istore_n (lv2 := [(0, _), (1, _), (2, _)]) (de_istore_2 (B 1 _ rfl)) rfl (by decide) [1, 2, 0] rfl (n := 2) rfl ?_
  exact loop 0 (Nat.zero_le _) I L Ft.rfl Lev.rfl hK
theorem TR.pay {I J : vI} {t np nc c f g : Nat} {K : Nat → Int32} {W : tW} (h : TR I t K np nc) (hN : TN K np nc) (hc : c < nc) (hf : f < 4) (hg : g < 4) (ef : K (32 + 8 * c + 2) = nI f) (eg : K (32 + 8 * c + 3) = nI g)
    (e : ∀ b, t ≤ b → b ≤ t + 22 → b ≠ t + 4 → b ≠ t + 13 + c → J b = I b) (e4 : ∀ k, k ≠ 4 → k ≠ 7 → J (t + 13 + c) k = I (t + 13 + c) k) (w4 : J (t + 13 + c) 4 = -1) (w7 : J (t + 13 + c) 7 = I (t + 13 + c) 7 + 1)
    (pu : ∀ j, j < 4 → J (t + 4) j = upK (upK (I (t + 4)) f (I (t + 4) f + (payAt W K c + 1) / 2)) g (upK (I (t + 4)) f (I (t + 4) f + (payAt W K c + 1) / 2) g + payAt W K c / 2) j) : TR J t (payK W K c) np nc := by
  have h8 := hN.1
  have h10 := hN.2.1
  have hk := hN.2.2.2.2 c hc
  obtain ⟨h1, h2, h3, h4, h5, h6⟩ := h
  refine ⟨by rw [e t (by omega) (by omega) (by omega) (by omega)]; exact h1, by rw [e t (by omega) (by omega) (by omega) (by omega)]; exact h2, by rw [e t (by omega) (by omega) (by omega) (by omega), payK_o hk (by omega) (by omega) (by omega)]; exact h3, fun q k hq hk4 => by rw [e _ (by omega) (by omega) (by omega) (by omega), payK_o hk (by omega) (by omega) (by omega)]; exact h4 q k hq hk4, fun c2 k hc2 hk8 => ?_, fun j hj => ⟨?_, ?_⟩⟩
  · by_cases z : c2 = c
    · subst z
      by_cases z4 : k = 4
      · subst z4; rw [w4, payK_4]
      · by_cases z7 : k = 7
        · subst z7; rw [w7, h5 c2 7 hc (by decide)]; unfold payK; rw [upK_s]
        · rw [e4 k z4 z7, payK_o hk (by omega) (by omega) (by omega)]; exact h5 c2 k hc hk8
    · rw [e _ (by omega) (by omega) (by omega) (by omega), payK_o hk (by omega) (by omega) (by omega)]; exact h5 c2 k hc2 hk8
  · rw [e _ (by omega) (by omega) (by omega) (by omega), (h6 j hj).1]
    unfold payK payK2 payK1
    rw [ef, eg, nI_cl (by omega), nI_cl (by omega), upK_n (by omega), upK_n (by omega), upK_n (by omega), upK_n (by omega)]
  · rw [pu j hj]
    unfold payK payK2 payK1
    rw [ef, eg, nI_cl (by omega), nI_cl (by omega), upK_n (show 113 + 2 * j + 1 ≠ 32 + 8 * c + 7 by omega), upK_n (show 113 + 2 * j + 1 ≠ 32 + 8 * c + 4 by omega)]
    have pf := (h6 f hf).2
    have pg := (h6 g hg).2
    by_cases zg : j = g
    · subst zg
      rw [upK_s, upK_s]
      by_cases zf : j = f
      · subst zf; rw [upK_s, upK_s, pf]
      · rw [upK_n zf, upK_n (by omega), pg]
    · rw [upK_n zg, upK_n (show 113 + 2 * j + 1 ≠ 113 + 2 * g + 1 by omega)]
      by_cases zf : j = f
      · subst zf; rw [upK_s, upK_s, pf]
      · rw [upK_n zf, upK_n (by omega)]; exact (h6 j hj).2
theorem c_X9_takeOff {d : Nat} {S : vS} {I : vI} {L : vL} {Q : vS → vI → vL → Prop} {t np nc c : Nat} {K : Nat → Int32} {W : tW} (hT : TownS S t) (hK : TR I t K np nc) (hN : TN K np nc) (hc : c < nc) (h : ∀ I2, (∀ b, ¬ (t ≤ b ∧ b ≤ t + 22) → I2 b = I b) → TR I2 t (payK W K c) np nc → Q S I2 L) : Vc mX9_takeOff d 0 0 [.ref t, .ref (t + 13 + c), .int (payAt W K c)] S I L (VvQ Q) := by
  refine Vc.of rfl (Nat.le_of_ble_eq_true rfl) ?_
  have B := bs_X9_takeOff
  show Vw mX9_takeOff d 0 0 0 0 (VvQ Q) 0 [(0, .ref t), (1, .ref (t + 13 + c)), (2, .int (payAt W K c))] [] S I L
  have h8 := hN.1
  have h10 := hN.2.1
  obtain ⟨⟨f, hf, ef⟩, ⟨g, hg, eg⟩, _⟩ := hN.2.2.2.2 c hc
  have pb : 0 ≤ (payAt W K c).toInt ∧ (payAt W K c).toInt ≤ 999 := payP_b W (K (32 + 8 * c + 4)) (K (32 + 8 * c + 2)) (K (32 + 8 * c)) (K (32 + 8 * c + 1)) (K 121) (perP K (wrN K c))
  refine Vw.iload_n (de_iload_2 (B 0 _ rfl)) 2 rfl (n := 1) rfl ?_
  refine Vw.iconst (v := 1) (de_iconst_1 (B 1 _ rfl)) rfl (n := 2) rfl ?_
  refine Vw.iadd (de_iadd (B 2 _ rfl)) (n := 3) rfl ?_
  refine Vw.iconst (v := 2) (de_iconst_2 (B 3 _ rfl)) rfl (n := 4) rfl ?_
  refine Vw.idiv (de_idiv (B 4 _ rfl)) (by decide) (n := 5) rfl ?_
  refine Vw.istore_n (lv2 := [(0, _), (1, _), (2, _), (3, _)]) (de_istore_3 (B 5 _ rfl)) rfl (by decide) [1, 2, 3, 0] rfl (n := 6) rfl ?_
  refine Vw.aload_n (de_aload_0 (B 6 _ rfl)) 0 rfl (n := 7) rfl ?_
  refine Vw.getR (de_getfield (B 7 _ rfl) (B 8 _ rfl) (B 9 _ rfl)) fl_X9_27 rfl hT.k hT.f3 (n := 10) rfl ?_
  refine Vw.aload_n (de_aload_1 (B 10 _ rfl)) 1 rfl (n := 11) rfl ?_
  refine Vw.getI (de_getfield (B 11 _ rfl) (B 12 _ rfl) (B 13 _ rfl)) fl_X9_76 rfl (hT.ck (show c < 10 by omega)) (n := 14) rfl ?_
  rw [hK.co hc (by decide), ef]
  refine Vw.dup2 (de_dup2 (B 14 _ rfl)) rfl rfl (n := 15) rfl ?_
  refine Vw.iald (de_iaload (B 15 _ rfl)) hT.r3 (vIx_n (k := f) rfl hf) (n := 16) rfl ?_
  refine Vw.iload_n (de_iload_3 (B 16 _ rfl)) 3 rfl (n := 17) rfl ?_
  refine Vw.iadd (de_iadd (B 17 _ rfl)) (n := 18) rfl ?_
  refine Vw.iast (de_iastore (B 18 _ rfl)) hT.r3 (vIx_n (k := f) rfl hf) (n := 19) rfl ?_
  refine Vw.aload_n (de_aload_0 (B 19 _ rfl)) 0 rfl (n := 20) rfl ?_
  refine Vw.getR (de_getfield (B 20 _ rfl) (B 21 _ rfl) (B 22 _ rfl)) fl_X9_27 rfl hT.k hT.f3 (n := 23) rfl ?_
  refine Vw.aload_n (de_aload_1 (B 23 _ rfl)) 1 rfl (n := 24) rfl ?_
  refine Vw.getI (de_getfield (B 24 _ rfl) (B 25 _ rfl) (B 26 _ rfl)) fl_X9_109 rfl (hT.ck (show c < 10 by omega)) (n := 27) rfl ?_
  rw [up2_a (show t + 13 + c ≠ t + 4 by omega), hK.co hc (by decide), eg]
  refine Vw.dup2 (de_dup2 (B 27 _ rfl)) rfl rfl (n := 28) rfl ?_
  refine Vw.iald (de_iaload (B 28 _ rfl)) hT.r3 (vIx_n (k := g) rfl hg) (n := 29) rfl ?_
  refine Vw.iload_n (de_iload_2 (B 29 _ rfl)) 2 rfl (n := 30) rfl ?_
  refine Vw.iload_n (de_iload_3 (B 30 _ rfl)) 3 rfl (n := 31) rfl ?_
  refine Vw.isub (de_isub (B 31 _ rfl)) (n := 32) rfl ?_
  rw [share_x pb]
  refine Vw.iadd (de_iadd (B 32 _ rfl)) (n := 33) rfl ?_
  refine Vw.iast (de_iastore (B 33 _ rfl)) hT.r3 (vIx_n (k := g) rfl hg) (n := 34) rfl ?_
  refine Vw.aload_n (de_aload_1 (B 34 _ rfl)) 1 rfl (n := 35) rfl ?_
  refine Vw.iconst (v := -1) (de_iconst_m1 (B 35 _ rfl)) rfl (n := 36) rfl ?_
  refine Vw.putI (de_putfield (B 36 _ rfl) (B 37 _ rfl) (B 38 _ rfl)) fl_X9_59 (hT.ck (show c < 10 by omega)) rfl rfl (n := 39) rfl ?_
  refine Vw.aload_n (de_aload_1 (B 39 _ rfl)) 1 rfl (n := 40) rfl ?_
  refine Vw.dup (de_dup (B 40 _ rfl)) rfl (n := 41) rfl ?_
  refine Vw.getI (de_getfield (B 41 _ rfl) (B 42 _ rfl) (B 43 _ rfl)) fl_X9_112 rfl (hT.ck (show c < 10 by omega)) (n := 44) rfl ?_
  rw [up2_k (by decide), up2_a (show t + 13 + c ≠ t + 4 by omega), up2_a (show t + 13 + c ≠ t + 4 by omega)]
  refine Vw.iconst (v := 1) (de_iconst_1 (B 44 _ rfl)) rfl (n := 45) rfl ?_
  refine Vw.iadd (de_iadd (B 45 _ rfl)) (n := 46) rfl ?_
  refine Vw.putI (de_putfield (B 46 _ rfl) (B 47 _ rfl) (B 48 _ rfl)) fl_X9_112 (hT.ck (show c < 10 by omega)) rfl rfl (n := 49) rfl ?_
  exact Vw.vret (de_return_ (B 49 _ rfl)) rfl ⟨rfl, (h _ (fun b hb => by rw [up2_row (by omega), up2_row (by omega), up2_row (by omega), up2_row (by omega)]) (hK.pay hN hc hf hg ef eg (fun b g1 g2 g3 g4 => by rw [up2_row g4, up2_row g4, up2_row g3, up2_row g3]) (fun k g1 g2 => by rw [up2_k g2, up2_k g1, up2_a (by omega), up2_a (by omega)]) (by rw [up2_k (by decide), up2_s]) (by rw [up2_s]) (fun j hj => by rw [up2_a (by omega), up2_a (by omega), up2_rs, up2_rs])))⟩
theorem c_X9_settle {d : Nat} {S : vS} {I : vI} {L : vL} {Q : Int32 → vS → vI → vL → Prop} {t s u lb np nc : Nat} {K : Nat → Int32} {W : tW} (hT : TownS S t) (hK : TR I t K np nc) (hN : TN K np nc) (hR : RulesS S u s) (hW : WC S I s lb W) (hD : Dj t s u lb) (h : ∀ I2 M, Ft t u I I2 → Lev u L M → TR I2 t (setlK W K nc).1 np nc → Q (setlK W K nc).2 S I2 M) : Vc mX9_settle (d + 3) 0 0 [.ref t, .ref u] S I L (ViQ Q) := by
  refine Vc.of rfl (Nat.le_of_ble_eq_true rfl) ?_
  have B := bs_X9_settle
  show Vw mX9_settle (d + 3) 0 0 0 0 (ViQ Q) 0 [(0, .ref t), (1, .ref u)] [] S I L
  have h8 := hN.1
  have h10 := hN.2.1
  have nsu : s ≠ u := ne_k hR.p0.k hR.k (by decide)
  have nsu1 : s ≠ u + 1 := ne_k hR.p0.k (show (S.1 (u + 1)).1 = 100 by rw [hR.r1]) (by decide)
  have hD2 := hD
  obtain ⟨dj1, dj2, dj3, dj4⟩ := hD
  have loop : ∀ c, c ≤ nc → ∀ J M, Ft t u I J → Lev u L M → TR J t (setlK W K c).1 np nc → Vw mX9_settle (d + 3) 0 0 0 0 (ViQ Q) 4 [(0, .ref t), (1, .ref u), (2, .int (setlK W K c).2), (3, .int (nI c))] [] S J M := by
    refine loop_up (fun c hc ih => ?_)
    intro J M fJ fM kJ
    have nJ := (setlK_ok (W := W) hN c hc).1
    have wJ : WC S J s lb W := hW.of (fJ s (by omega) nsu nsu1) (fun b hb => fJ b (by omega) (by omega) (by omega))
    refine Vw.iload_n (de_iload_3 (B 4 _ rfl)) 3 rfl (n := 5) rfl ?_
    refine Vw.aload_n (de_aload_0 (B 5 _ rfl)) 0 rfl (n := 6) rfl ?_
    refine Vw.getI (de_getfield (B 6 _ rfl) (B 7 _ rfl) (B 8 _ rfl)) fl_X9_36 rfl hT.k (n := 9) rfl ?_
    rw [kJ.2.1]
    refine Vw.icmp_ge (tgt := 92) (n := 12) (de_icmp_ge (B 9 _ rfl) (B 10 _ rfl) (B 11 _ rfl)) rfl rfl (fun c_9 => ?_) (fun c_9 => ?_)
    · have z_9 : nc ≤ c := ((nI_leI (a := nc) (b := c) (by omega) (by omega)).mp c_9)
      obtain rfl : c = nc := by omega
      refine Vw.iload_n (de_iload_2 (B 92 _ rfl)) 2 rfl (n := 93) rfl ?_
      exact Vw.iret (de_ireturn (B 93 _ rfl)) rfl ⟨_, rfl, (h J M fJ fM kJ)⟩
    have z_9 : c < nc := by rcases Nat.lt_or_ge c nc with z | z; exact z; exact absurd ((nI_leI (a := nc) (b := c) (by omega) (by omega)).mpr z) c_9
    refine Vw.aload_n (de_aload_0 (B 12 _ rfl)) 0 rfl (n := 13) rfl ?_
    refine Vw.getR (de_getfield (B 13 _ rfl) (B 14 _ rfl) (B 15 _ rfl)) fl_X9_19 rfl hT.k hT.f1 (n := 16) rfl ?_
    refine Vw.iload_n (de_iload_3 (B 16 _ rfl)) 3 rfl (n := 17) rfl ?_
    refine Vw.aald0 (b := 0) (de_aaload (B 17 _ rfl)) hT.r1 (vIx_n (k := c) rfl (by omega)) (hT.cr (show c < 10 by omega)) (n := 18) rfl ?_
    refine Vw.astore (lv2 := [(0, _), (1, _), (2, _), (3, _), (4, _)]) (de_astore (B 18 _ rfl) (B 19 _ rfl)) (by decide) [1, 2, 3, 4, 0] rfl (n := 20) rfl ?_
    refine Vw.aload_n (de_aload_0 (B 20 _ rfl)) 0 rfl (n := 21) rfl ?_
    refine Vw.aload (de_aload (B 21 _ rfl) (B 22 _ rfl)) 4 rfl (n := 23) rfl ?_
    refine Vw.ivi1 (mi' := mX9_isOutgrown) (de_invokevirtual (B 23 _ rfl) (B 24 _ rfl) (B 25 _ rfl)) ml_X9_101 mv_X9_isOutgrown hT.k (Nat.le_of_ble_eq_true rfl) (n := 26) rfl (c_X9_isOutgrown hT kJ nJ z_9 ?_)
    refine Vw.if_eq (tgt := 86) (n := 29) (de_if_eq (B 26 _ rfl) (B 27 _ rfl) (B 28 _ rfl)) rfl rfl (fun c_26 => ?_) (fun c_26 => ?_)
    · refine Vw.iinc (v := nI (c + 1)) (lv2 := [(0, _), (1, _), (2, _), (3, _), (4, _)]) (de_iinc (B 86 _ rfl) (B 87 _ rfl) (B 88 _ rfl)) 3 rfl (nI_1 c) (by decide) [1, 2, 3, 0, 4] rfl (n := 89) rfl ?_
      refine Vw.goto_ (n := 4) (de_goto_ (B 89 _ rfl) (B 90 _ rfl) (B 91 _ rfl)) rfl ?_
      refine Vw.lvs (lv2 := [(0, _), (1, _), (2, _), (3, _)]) [0, 1, 2, 3] rfl ?_
      first
      | (have e : setlK W K (c + 1) = setlK W K c := by
           by_cases z1 : (setlK W K c).1 (32 + 8 * c + 4) = -1
           · exact setl_a z1
           · exact setl_b z1 (fun z2 => absurd c_26 (by rw [outK_y z1 z2]; decide))
         have g := ih z_9 J M fJ fM (by rw [e]; exact kJ)
         rw [e] at g
         exact g)
      | (have e := setl_c (W := W) (K := K) (c := c) hw1 hw2
         have g := ih z_9 I4 M3 (fJ.trans (fun b g1 g2 g3 => ((f4 b g1).trans (f3 b g3)).trans (f2 b g2))) (fM.trans m3) (by rw [e]; exact k4)
         rw [e] at g
         exact g)
    have hw1 : ¬ (setlK W K c).1 (32 + 8 * c + 4) = -1 := fun z => c_26 (outK_n z)
    have hw2 : fitAt (setlK W K c).1 c = 0 := Classical.byContradiction fun z => c_26 (outK_f z)
    obtain ⟨q, hq, hw⟩ := nJ.at z_9 hw1
    refine Vw.aload_n (de_aload_1 (B 29 _ rfl)) 1 rfl (n := 30) rfl ?_
    refine Vw.aload (de_aload (B 30 _ rfl) (B 31 _ rfl)) 4 rfl (n := 32) rfl ?_
    refine Vw.getI (de_getfield (B 32 _ rfl) (B 33 _ rfl) (B 34 _ rfl)) fl_X9_76 rfl (hT.ck (show c < 10 by omega)) (n := 35) rfl ?_
    refine Vw.aload (de_aload (B 35 _ rfl) (B 36 _ rfl)) 4 rfl (n := 37) rfl ?_
    refine Vw.getI (de_getfield (B 37 _ rfl) (B 38 _ rfl) (B 39 _ rfl)) fl_X9_66 rfl (hT.ck (show c < 10 by omega)) (n := 40) rfl ?_
    refine Vw.aload (de_aload (B 40 _ rfl) (B 41 _ rfl)) 4 rfl (n := 42) rfl ?_
    refine Vw.getI (de_getfield (B 42 _ rfl) (B 43 _ rfl) (B 44 _ rfl)) fl_X9_69 rfl (hT.ck (show c < 10 by omega)) (n := 45) rfl ?_
    rw [kJ.co0 z_9, kJ.co z_9 (by decide), kJ.co z_9 (by decide)]
    refine Vw.ivv3 (mi' := mX6_lookAtCoat) (de_invokevirtual (B 45 _ rfl) (B 46 _ rfl) (B 47 _ rfl)) ml_X9_79 mv_X6_lookAtCoat hR.k (Nat.le_of_ble_eq_true rfl) (n := 48) rfl (c_X6_lookAtCoat hR (fun I2 f2 a4 a5 a6 => ?_))
    have kU : TR I2 t (setlK W K c).1 np nc := kJ.of (fun b g1 g2 => f2 b (by omega)) h8 h10
    have wU : WC S I2 s lb W := wJ.of (f2 s nsu) (fun b hb => f2 b (by omega))
    refine Vw.aload_n (de_aload_1 (B 48 _ rfl)) 1 rfl (n := 49) rfl ?_
    refine Vw.aload_n (de_aload_0 (B 49 _ rfl)) 0 rfl (n := 50) rfl ?_
    refine Vw.getR (de_getfield (B 50 _ rfl) (B 51 _ rfl) (B 52 _ rfl)) fl_X9_11 rfl hT.k hT.f0 (n := 53) rfl ?_
    refine Vw.aload (de_aload (B 53 _ rfl) (B 54 _ rfl)) 4 rfl (n := 55) rfl ?_
    refine Vw.getI (de_getfield (B 55 _ rfl) (B 56 _ rfl) (B 57 _ rfl)) fl_X9_59 rfl (hT.ck (show c < 10 by omega)) (n := 58) rfl ?_
    rw [kU.co z_9 (by decide), hw]
    refine Vw.aald3 (b := 0) (de_aaload (B 58 _ rfl)) hT.r0 (vIx_n (k := q) rfl (by omega)) (hT.pr (show q < 8 by omega)) (n := 59) rfl ?_
    refine Vw.aload (de_aload (B 59 _ rfl) (B 60 _ rfl)) 4 rfl (n := 61) rfl ?_
    refine Vw.getI (de_getfield (B 61 _ rfl) (B 62 _ rfl) (B 63 _ rfl)) fl_X9_59 rfl (hT.ck (show c < 10 by omega)) (n := 64) rfl ?_
    rw [kU.co z_9 (by decide), hw]
    refine Vw.aload_n (de_aload_0 (B 64 _ rfl)) 0 rfl (n := 65) rfl ?_
    refine Vw.getI (de_getfield (B 65 _ rfl) (B 66 _ rfl) (B 67 _ rfl)) fl_X9_39 rfl hT.k (n := 68) rfl ?_
    rw [kU.2.2.1]
    refine Vw.ivi3 (mi' := mX6_payBy) (de_invokevirtual (B 68 _ rfl) (B 69 _ rfl) (B 70 _ rfl)) ml_X9_85 mv_X6_payBy hR.k (Nat.le_of_ble_eq_true rfl) (n := 71) rfl (c_X6_payBy hR (hT.pk (show q < 8 by omega)) wU dj4 (fun I3 M3 f3 m3 => ?_))
    rw [kU.per hq, a4, a5, a6, ← payAt_q (by omega) hw]
    have k3 : TR I3 t (setlK W K c).1 np nc := kU.of (fun b g1 g2 => f3 b (by omega)) h8 h10
    refine Vw.istore (lv2 := [(0, _), (1, _), (2, _), (3, _), (4, _), (5, _)]) (de_istore (B 71 _ rfl) (B 72 _ rfl)) (by decide) [1, 2, 3, 4, 5, 0] rfl (n := 73) rfl ?_
    refine Vw.aload_n (de_aload_0 (B 73 _ rfl)) 0 rfl (n := 74) rfl ?_
    refine Vw.aload (de_aload (B 74 _ rfl) (B 75 _ rfl)) 4 rfl (n := 76) rfl ?_
    refine Vw.iload (de_iload (B 76 _ rfl) (B 77 _ rfl)) 5 rfl (n := 78) rfl ?_
    refine Vw.ivv2 (mi' := mX9_takeOff) (de_invokevirtual (B 78 _ rfl) (B 79 _ rfl) (B 80 _ rfl)) ml_X9_105 mv_X9_takeOff hT.k (Nat.le_of_ble_eq_true rfl) (n := 81) rfl (c_X9_takeOff hT k3 nJ z_9 (fun I4 f4 k4 => ?_))
    refine Vw.iload_n (de_iload_2 (B 81 _ rfl)) 2 rfl (n := 82) rfl ?_
    refine Vw.iload (de_iload (B 82 _ rfl) (B 83 _ rfl)) 5 rfl (n := 84) rfl ?_
    refine Vw.iadd (de_iadd (B 84 _ rfl)) (n := 85) rfl ?_
    refine Vw.istore_n (lv2 := [(0, _), (1, _), (2, _), (3, _), (4, _), (5, _)]) (de_istore_2 (B 85 _ rfl)) rfl (by decide) [1, 2, 0, 3, 4, 5] rfl (n := 86) rfl ?_
    refine Vw.iinc (v := nI (c + 1)) (lv2 := [(0, _), (1, _), (2, _), (3, _), (4, _), (5, _)]) (de_iinc (B 86 _ rfl) (B 87 _ rfl) (B 88 _ rfl)) 3 rfl (nI_1 c) (by decide) [1, 2, 3, 0, 4, 5] rfl (n := 89) rfl ?_
    refine Vw.goto_ (n := 4) (de_goto_ (B 89 _ rfl) (B 90 _ rfl) (B 91 _ rfl)) rfl ?_
    refine Vw.lvs (lv2 := [(0, _), (1, _), (2, _), (3, _)]) [0, 1, 2, 3] rfl ?_
    first
    | (have e : setlK W K (c + 1) = setlK W K c := by
         by_cases z1 : (setlK W K c).1 (32 + 8 * c + 4) = -1
         · exact setl_a z1
         · exact setl_b z1 (fun z2 => absurd c_26 (by rw [outK_y z1 z2]; decide))
       have g := ih z_9 J M fJ fM (by rw [e]; exact kJ)
       rw [e] at g
       exact g)
    | (have e := setl_c (W := W) (K := K) (c := c) hw1 hw2
       have g := ih z_9 I4 M3 (fJ.trans (fun b g1 g2 g3 => ((f4 b g1).trans (f3 b g3)).trans (f2 b g2))) (fM.trans m3) (by rw [e]; exact k4)
       rw [e] at g
       exact g)
  refine Vw.iconst (v := 0) (de_iconst_0 (B 0 _ rfl)) rfl (n := 1) rfl ?_
  refine Vw.istore_n (lv2 := [(0, _), (1, _), (2, _)]) (de_istore_2 (B 1 _ rfl)) rfl (by decide) [1, 2, 0] rfl (n := 2) rfl ?_
  refine Vw.iconst (v := 0) (de_iconst_0 (B 2 _ rfl)) rfl (n := 3) rfl ?_
  refine Vw.istore_n (lv2 := [(0, _), (1, _), (2, _), (3, _)]) (de_istore_3 (B 3 _ rfl)) rfl (by decide) [1, 2, 3, 0] rfl (n := 4) rfl ?_
  exact loop 0 (Nat.zero_le _) I L Ft.rfl Lev.rfl hK
theorem c_X9_copyFrom {d : Nat} {S : vS} {I : vI} {L : vL} {Q : vS → vI → vL → Prop} {t o np nc : Nat} {K : Nat → Int32} (hT : TownS S t) (hO : TownS S o) (hK : TR I o K np nc) (h8 : np ≤ 8) (h10 : nc ≤ 10) (ho : o + 22 < t ∨ t + 22 < o) (h : ∀ I2, (∀ b, ¬ (t ≤ b ∧ b ≤ t + 22) → I2 b = I b) → TR I2 t K np nc → Q S I2 L) : Vc mX9_copyFrom (d + 2) 0 0 [.ref t, .ref o] S I L (VvQ Q) := by
  refine Vc.of rfl (Nat.le_of_ble_eq_true rfl) ?_
  have B := bs_X9_copyFrom
  show Vw mX9_copyFrom (d + 2) 0 0 0 0 (VvQ Q) 0 [(0, .ref t), (1, .ref o)] [] S I L
  have loop2 : ∀ c, c ≤ nc → ∀ J : vI, (∀ b, ¬ (t ≤ b ∧ b ≤ t + 22) → J b = I b) → J t 4 = nI np → J t 5 = nI nc → J t 6 = K 121 → (∀ q k, q < np → k < 4 → J (t + 5 + q) k = K (4 * q + k)) → (∀ i k, i < c → k < 8 → J (t + 13 + i) k = K (32 + 8 * i + k)) → Vw mX9_copyFrom (d + 2) 0 0 0 0 (VvQ Q) 57 [(0, .ref t), (1, .ref o), (2, .int (nI c))] [] S J L := by
    refine loop_up (fun c hc ih => ?_)
    intro J fJ j4 j5 j6 jp jc
    have kO : TR J o K np nc := hK.of (fun b g1 g2 => fJ b (by omega)) h8 h10
    refine Vw.iload_n (de_iload_2 (B 57 _ rfl)) 2 rfl (n := 58) rfl ?_
    refine Vw.aload_n (de_aload_0 (B 58 _ rfl)) 0 rfl (n := 59) rfl ?_
    refine Vw.getI (de_getfield (B 59 _ rfl) (B 60 _ rfl) (B 61 _ rfl)) fl_X9_36 rfl hT.k (n := 62) rfl ?_
    rw [j5]
    refine Vw.icmp_ge (tgt := 86) (n := 65) (de_icmp_ge (B 62 _ rfl) (B 63 _ rfl) (B 64 _ rfl)) rfl rfl (fun c_62 => ?_) (fun c_62 => ?_)
    · have z_62 : nc ≤ c := ((nI_leI (a := nc) (b := c) (by omega) (by omega)).mp c_62)
      obtain rfl : c = nc := by omega
      refine Vw.aload_n (de_aload_1 (B 86 _ rfl)) 1 rfl (n := 87) rfl ?_
      refine Vw.getR (de_getfield (B 87 _ rfl) (B 88 _ rfl) (B 89 _ rfl)) fl_X9_23 rfl hO.k hO.f2 (n := 90) rfl ?_
      refine Vw.iconst (v := 0) (de_iconst_0 (B 90 _ rfl)) rfl (n := 91) rfl ?_
      refine Vw.aload_n (de_aload_0 (B 91 _ rfl)) 0 rfl (n := 92) rfl ?_
      refine Vw.getR (de_getfield (B 92 _ rfl) (B 93 _ rfl) (B 94 _ rfl)) fl_X9_23 rfl hT.k hT.f2 (n := 95) rfl ?_
      refine Vw.iconst (v := 0) (de_iconst_0 (B 95 _ rfl)) rfl (n := 96) rfl ?_
      refine Vw.iconst (v := 4) (de_iconst_4 (B 96 _ rfl)) rfl (n := 97) rfl ?_
      refine Vw.copyI (de_invokestatic (B 97 _ rfl) (B 98 _ rfl) (B 99 _ rfl)) ml_X9_49 hO.r2 hT.r2 (sj := 0) (dj := 0) (nj := 4) rfl rfl rfl (by decide) (by decide) (by decide) (by decide) (n := 100) rfl ?_
      refine Vw.aload_n (de_aload_1 (B 100 _ rfl)) 1 rfl (n := 101) rfl ?_
      refine Vw.getR (de_getfield (B 101 _ rfl) (B 102 _ rfl) (B 103 _ rfl)) fl_X9_27 rfl hO.k hO.f3 (n := 104) rfl ?_
      refine Vw.iconst (v := 0) (de_iconst_0 (B 104 _ rfl)) rfl (n := 105) rfl ?_
      refine Vw.aload_n (de_aload_0 (B 105 _ rfl)) 0 rfl (n := 106) rfl ?_
      refine Vw.getR (de_getfield (B 106 _ rfl) (B 107 _ rfl) (B 108 _ rfl)) fl_X9_27 rfl hT.k hT.f3 (n := 109) rfl ?_
      refine Vw.iconst (v := 0) (de_iconst_0 (B 109 _ rfl)) rfl (n := 110) rfl ?_
      refine Vw.iconst (v := 4) (de_iconst_4 (B 110 _ rfl)) rfl (n := 111) rfl ?_
      refine Vw.copyI (de_invokestatic (B 111 _ rfl) (B 112 _ rfl) (B 113 _ rfl)) ml_X9_49 hO.r3 hT.r3 (sj := 0) (dj := 0) (nj := 4) rfl rfl rfl (by decide) (by decide) (by decide) (by decide) (n := 114) rfl ?_
      exact Vw.vret (de_return_ (B 114 _ rfl)) rfl ⟨rfl, (h _ (fun b hb => funext fun k => by rw [cpR_o (by omega), cpR_o (by omega)]; exact congrFun (fJ b hb) k) ⟨by rw [cpR_o (by omega), cpR_o (by omega)]; exact j4, by rw [cpR_o (by omega), cpR_o (by omega)]; exact j5, by rw [cpR_o (by omega), cpR_o (by omega)]; exact j6, fun q k hq hk => by rw [cpR_o (by omega), cpR_o (by omega)]; exact jp q k hq hk, fun i k hi hk => by rw [cpR_o (by omega), cpR_o (by omega)]; exact jc i k hi hk, fun j hj => by
    rw [cpR_o (by omega), cpR_i (by omega) (by omega), cpR_i (by omega) (by omega), cpR_o (by omega), show 0 + (j - 0) = j by omega]
    exact kO.2.2.2.2.2 j hj⟩)⟩
    have z_62 : c < nc := by rcases Nat.lt_or_ge c nc with z | z; exact z; exact absurd ((nI_leI (a := nc) (b := c) (by omega) (by omega)).mpr z) c_62
    refine Vw.aload_n (de_aload_0 (B 65 _ rfl)) 0 rfl (n := 66) rfl ?_
    refine Vw.getR (de_getfield (B 66 _ rfl) (B 67 _ rfl) (B 68 _ rfl)) fl_X9_19 rfl hT.k hT.f1 (n := 69) rfl ?_
    refine Vw.iload_n (de_iload_2 (B 69 _ rfl)) 2 rfl (n := 70) rfl ?_
    refine Vw.aald0 (b := 0) (de_aaload (B 70 _ rfl)) hT.r1 (vIx_n (k := c) rfl (by omega)) (hT.cr (show c < 10 by omega)) (n := 71) rfl ?_
    refine Vw.aload_n (de_aload_1 (B 71 _ rfl)) 1 rfl (n := 72) rfl ?_
    refine Vw.getR (de_getfield (B 72 _ rfl) (B 73 _ rfl) (B 74 _ rfl)) fl_X9_19 rfl hO.k hO.f1 (n := 75) rfl ?_
    refine Vw.iload_n (de_iload_2 (B 75 _ rfl)) 2 rfl (n := 76) rfl ?_
    refine Vw.aald0 (b := 0) (de_aaload (B 76 _ rfl)) hO.r1 (vIx_n (k := c) rfl (by omega)) (hO.cr (show c < 10 by omega)) (n := 77) rfl ?_
    refine Vw.ivv1 (mi' := mX0_copyFrom) (de_invokevirtual (B 77 _ rfl) (B 78 _ rfl) (B 79 _ rfl)) ml_X9_46 mv_X0_copyFrom (hT.ck (show c < 10 by omega)) (Nat.le_of_ble_eq_true rfl) (n := 80) rfl (c_X0_copyFrom (hT.ck (show c < 10 by omega)) (hO.ck (show c < 10 by omega)) (by omega) (fun I3 f3 e3 => ?_))
    refine Vw.iinc (v := nI (c + 1)) (lv2 := [(0, _), (1, _), (2, _)]) (de_iinc (B 80 _ rfl) (B 81 _ rfl) (B 82 _ rfl)) 2 rfl (nI_1 c) (by decide) [1, 2, 0] rfl (n := 83) rfl ?_
    refine Vw.goto_ (n := 57) (de_goto_ (B 83 _ rfl) (B 84 _ rfl) (B 85 _ rfl)) rfl ?_
    refine ih z_62 I3 (fun b hb => (f3 b (by omega)).trans (fJ b hb)) (by rw [f3 t (by omega)]; exact j4) (by rw [f3 t (by omega)]; exact j5) (by rw [f3 t (by omega)]; exact j6) (fun q k hq hk => by rw [f3 _ (by omega)]; exact jp q k hq hk) (fun i k hi hk => ?_)
    by_cases z : i = c
    · subst z; rw [e3 k hk]; exact kO.co z_62 hk
    · rw [f3 _ (by omega)]; exact jc i k (by omega) hk
  have loop1 : ∀ n, n ≤ np → ∀ J : vI, (∀ b, ¬ (t ≤ b ∧ b ≤ t + 22) → J b = I b) → J t 4 = nI np → J t 5 = nI nc → J t 6 = K 121 → (∀ q k, q < n → k < 4 → J (t + 5 + q) k = K (4 * q + k)) → Vw mX9_copyFrom (d + 2) 0 0 0 0 (VvQ Q) 26 [(0, .ref t), (1, .ref o), (2, .int (nI n))] [] S J L := by
    refine loop_up (fun n hn ih => ?_)
    intro J fJ j4 j5 j6 jp
    have kO : TR J o K np nc := hK.of (fun b g1 g2 => fJ b (by omega)) h8 h10
    refine Vw.iload_n (de_iload_2 (B 26 _ rfl)) 2 rfl (n := 27) rfl ?_
    refine Vw.aload_n (de_aload_0 (B 27 _ rfl)) 0 rfl (n := 28) rfl ?_
    refine Vw.getI (de_getfield (B 28 _ rfl) (B 29 _ rfl) (B 30 _ rfl)) fl_X9_32 rfl hT.k (n := 31) rfl ?_
    rw [j4]
    refine Vw.icmp_ge (tgt := 55) (n := 34) (de_icmp_ge (B 31 _ rfl) (B 32 _ rfl) (B 33 _ rfl)) rfl rfl (fun c_31 => ?_) (fun c_31 => ?_)
    · have z_31 : np ≤ n := ((nI_leI (a := np) (b := n) (by omega) (by omega)).mp c_31)
      obtain rfl : n = np := by omega
      refine Vw.iconst (v := 0) (de_iconst_0 (B 55 _ rfl)) rfl (n := 56) rfl ?_
      refine Vw.istore_n (lv2 := [(0, _), (1, _), (2, _)]) (de_istore_2 (B 56 _ rfl)) rfl (by decide) [1, 2, 0] rfl (n := 57) rfl ?_
      exact loop2 0 (Nat.zero_le _) J fJ j4 j5 j6 jp (fun i k hi => absurd hi (Nat.not_lt_zero _))
    have z_31 : n < np := by rcases Nat.lt_or_ge n np with z | z; exact z; exact absurd ((nI_leI (a := np) (b := n) (by omega) (by omega)).mpr z) c_31
    refine Vw.aload_n (de_aload_0 (B 34 _ rfl)) 0 rfl (n := 35) rfl ?_
    refine Vw.getR (de_getfield (B 35 _ rfl) (B 36 _ rfl) (B 37 _ rfl)) fl_X9_11 rfl hT.k hT.f0 (n := 38) rfl ?_
    refine Vw.iload_n (de_iload_2 (B 38 _ rfl)) 2 rfl (n := 39) rfl ?_
    refine Vw.aald3 (b := 0) (de_aaload (B 39 _ rfl)) hT.r0 (vIx_n (k := n) rfl (by omega)) (hT.pr (show n < 8 by omega)) (n := 40) rfl ?_
    refine Vw.aload_n (de_aload_1 (B 40 _ rfl)) 1 rfl (n := 41) rfl ?_
    refine Vw.getR (de_getfield (B 41 _ rfl) (B 42 _ rfl) (B 43 _ rfl)) fl_X9_11 rfl hO.k hO.f0 (n := 44) rfl ?_
    refine Vw.iload_n (de_iload_2 (B 44 _ rfl)) 2 rfl (n := 45) rfl ?_
    refine Vw.aald3 (b := 0) (de_aaload (B 45 _ rfl)) hO.r0 (vIx_n (k := n) rfl (by omega)) (hO.pr (show n < 8 by omega)) (n := 46) rfl ?_
    refine Vw.ivv1 (mi' := mX3_copyFrom) (de_invokevirtual (B 46 _ rfl) (B 47 _ rfl) (B 48 _ rfl)) ml_X9_42 mv_X3_copyFrom (hT.pk (show n < 8 by omega)) (Nat.le_of_ble_eq_true rfl) (n := 49) rfl (c_X3_copyFrom (hT.pk (show n < 8 by omega)) (hO.pk (show n < 8 by omega)) (fun I3 f3 e3 => ?_))
    refine Vw.iinc (v := nI (n + 1)) (lv2 := [(0, _), (1, _), (2, _)]) (de_iinc (B 49 _ rfl) (B 50 _ rfl) (B 51 _ rfl)) 2 rfl (nI_1 n) (by decide) [1, 2, 0] rfl (n := 52) rfl ?_
    refine Vw.goto_ (n := 26) (de_goto_ (B 52 _ rfl) (B 53 _ rfl) (B 54 _ rfl)) rfl ?_
    refine ih z_31 I3 (fun b hb => (f3 b (by omega)).trans (fJ b hb)) (by rw [f3 t (by omega)]; exact j4) (by rw [f3 t (by omega)]; exact j5) (by rw [f3 t (by omega)]; exact j6) (fun q k hq hk => ?_)
    by_cases z : q = n
    · subst z
      have y := perAe (e3.trans (kO.per z_31))
      rcases (show k = 0 ∨ k = 1 ∨ k = 2 ∨ k = 3 by omega) with rfl | rfl | rfl | rfl
      · exact y.1
      · exact y.2.1
      · exact y.2.2.1
      · exact y.2.2.2
    · rw [f3 _ (by omega)]; exact jp q k (by omega) hk
  refine Vw.aload_n (de_aload_0 (B 0 _ rfl)) 0 rfl (n := 1) rfl ?_
  refine Vw.aload_n (de_aload_1 (B 1 _ rfl)) 1 rfl (n := 2) rfl ?_
  refine Vw.getI (de_getfield (B 2 _ rfl) (B 3 _ rfl) (B 4 _ rfl)) fl_X9_32 rfl hO.k (n := 5) rfl ?_
  rw [hK.1]
  refine Vw.putI (de_putfield (B 5 _ rfl) (B 6 _ rfl) (B 7 _ rfl)) fl_X9_32 hT.k rfl rfl (n := 8) rfl ?_
  refine Vw.aload_n (de_aload_0 (B 8 _ rfl)) 0 rfl (n := 9) rfl ?_
  refine Vw.aload_n (de_aload_1 (B 9 _ rfl)) 1 rfl (n := 10) rfl ?_
  refine Vw.getI (de_getfield (B 10 _ rfl) (B 11 _ rfl) (B 12 _ rfl)) fl_X9_36 rfl hO.k (n := 13) rfl ?_
  rw [up2_a (show o ≠ t by omega), hK.2.1]
  refine Vw.putI (de_putfield (B 13 _ rfl) (B 14 _ rfl) (B 15 _ rfl)) fl_X9_36 hT.k rfl rfl (n := 16) rfl ?_
  refine Vw.aload_n (de_aload_0 (B 16 _ rfl)) 0 rfl (n := 17) rfl ?_
  refine Vw.aload_n (de_aload_1 (B 17 _ rfl)) 1 rfl (n := 18) rfl ?_
  refine Vw.getI (de_getfield (B 18 _ rfl) (B 19 _ rfl) (B 20 _ rfl)) fl_X9_39 rfl hO.k (n := 21) rfl ?_
  rw [up2_a (show o ≠ t by omega), up2_a (show o ≠ t by omega), hK.2.2.1]
  refine Vw.putI (de_putfield (B 21 _ rfl) (B 22 _ rfl) (B 23 _ rfl)) fl_X9_39 hT.k rfl rfl (n := 24) rfl ?_
  refine Vw.iconst (v := 0) (de_iconst_0 (B 24 _ rfl)) rfl (n := 25) rfl ?_
  refine Vw.istore_n (lv2 := [(0, _), (1, _), (2, _)]) (de_istore_2 (B 25 _ rfl)) rfl (by decide) [1, 2, 0] rfl (n := 26) rfl ?_
  exact loop1 0 (Nat.zero_le _) _ (fun b hb => by rw [up2_row (by omega), up2_row (by omega), up2_row (by omega)]) (by rw [up2_k (by decide), up2_k (by decide), up2_s]) (by rw [up2_k (by decide), up2_s]) (up2_s _ _ _ _) (fun q k hq => absurd hq (Nat.not_lt_zero _))
