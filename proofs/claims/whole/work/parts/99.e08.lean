/-! person, bale, terms, force, sight, forget, end, nourish -/
theorem REL.fin {S : vS} {I I2 J : vI} {x r lb np nc ns nl np2 nc2 ns2 nl2 : Nat} {l l2 : List tH} (hR : CP S I x lb (I (r + 2)) l (I (r + 7)) (I r) (I (r + 1)) (I (r + 3)) (I (r + 4)) (I (r + 26)) (I (r + 27)) np nc ns nl) (hW : Wd (I (r + 6)) WL 0) (hP : SPx S x r lb) (fA : FA x I I2)
    (gx : ∀ b, ¬ (r ≤ b ∧ b < r + 28) → J b = I2 b) (g : ∀ b, b = r + 1 ∨ b = r + 3 ∨ b = r + 4 ∨ b = r + 6 ∨ b = r + 7 ∨ b = r + 26 ∨ b = r + 27 → J b = I2 b) (gr : ∀ k, k = 6 ∨ k = 11 ∨ k = 12 ∨ k = 43 ∨ k = 54 ∨ k = 56 → J r k = I2 r k) (h0 : J r 0 = I2 x 16) (hold : ∃ old, old < 16 ∧ I2 (x + 460) 2 = nI old)
    (hS : STR S I2 (x + 1) lb (J (r + 2)) np2 nc2 ns2 nl2) (hH : HC I2 (x + 89) l2 np2) (hL : LfR (J (r + 14)) l2 np2) (h32 : J r 32 = nI l2.length) : REL S J x r lb ∧ ∀ b, b < x → J b = I b := by
  have hP2 := hP
  obtain ⟨-, -, -, er, el, -⟩ := hP
  have fr : ∀ b, r ≤ b → I2 b = I b := fun b hb => fA.row (by omega) (by omega)
  refine ⟨REL.act hR hW hP2 (fun b k hb => ?_) (fun k h1 h2 => ?_) (fun b hb => ?_) (fun k hk => ?_) ?_ ?_ (hS.of (fun b g1 g2 => gx b (by omega)) (fun b hb => gx b (by omega))) (hH.of hS.tn.1 (fun b g1 g2 => gx b (by omega))) hL h32, fun b hb => ?_⟩
  · rw [gx b (by omega)]; exact fA b k (by omega) (by omega) (by omega) (by omega)
  · rw [gx x (by omega)]; exact fA x k (by omega) (by omega) (by omega) (by omega)
  · rw [g b hb, fr b (by omega)]
  · rw [gr k hk, fr r (by omega)]
  · rw [gx x (by omega)]; exact h0.symm
  · rw [gx (x + 460) (by omega)]; exact hold
  · rw [gx b (by omega)]; exact fA.row (by omega) (by omega)
theorem mSet_o {I : vI} {r b : Nat} (h : b ≠ r) : mSet I r b = I b := by unfold mSet; rw [up2_row h, up2_row h]
theorem mSet_0 {I : vI} {r : Nat} : mSet I r r 0 = 0 := by unfold mSet; rw [up2_s]
theorem mSet_32 {I : vI} {r : Nat} : mSet I r r 32 = 0 := by unfold mSet; rw [up2_k (by decide), up2_s]
theorem mSet_k {I : vI} {r k : Nat} (h : k ≠ 0) (h2 : k ≠ 32) : mSet I r r k = I r k := by unfold mSet; rw [up2_k h, up2_k h2]
theorem mGood_o {I : vI} {r b : Nat} (h : b ≠ r) : mGood I r b = I b := by unfold mGood; rw [up2_row h]
theorem mGood_0 {I : vI} {r : Nat} : mGood I r r 0 = 0 := by unfold mGood; rw [up2_s]
theorem mGood_k {I : vI} {r k : Nat} (h : k ≠ 0) : mGood I r r k = I r k := by unfold mGood; rw [up2_k h]
theorem FA.of {x : Nat} {I I2 : vI} (h : ∀ b, ¬ (x + 1 ≤ b ∧ b ≤ x + 28) → b ≠ x + 29 → b ≠ x + 30 → b ≠ x + 89 → I2 b = I b) : FA x I I2 := fun b k h1 h2 h3 h4 => congrFun (h b (by omega) (by omega) (by omega) (by omega)) k
/-- settled: nothing can be undone any more -/
theorem REL.setl {S : vS} {I I2 Jr : vI} {x r lb np nc ns nl np2 nc2 ns2 nl2 : Nat} {l : List tH} (hR : CP S I x lb (I (r + 2)) l (I (r + 7)) (I r) (I (r + 1)) (I (r + 3)) (I (r + 4)) (I (r + 26)) (I (r + 27)) np nc ns nl) (hW : Wd (I (r + 6)) WL 0) (hP : SPx S x r lb) (fA : FA x I I2) (h460 : I2 (x + 460) = I (x + 460)) (eJ : ∀ b, b ≠ r + 2 → Jr b = cAcc I2 x b) (hS : STR S I2 (x + 1) lb (Jr (r + 2)) np2 nc2 ns2 nl2) (hH : HC I2 (x + 89) [] np2) : REL S (mSet Jr r) x r lb ∧ ∀ b, b < x → mSet Jr r b = I b := by
  have hR2 := hR
  have hP2 := hP
  obtain ⟨-, -, -, er, el, -⟩ := hP
  have h460b := hR.2.2.1
  refine REL.fin hR2 hW hP2 fA.acc (fun b hb => ?_) (fun b hb => ?_) (fun k hk => ?_) ?_ ?_ (np2 := np2) (nc2 := nc2) (ns2 := ns2) (nl2 := nl2) (l2 := []) ?_ ?_ ?_ ?_
  · rw [mSet_o (by omega), eJ b (by omega)]
  · rw [mSet_o (by omega), eJ b (by omega)]
  · rw [mSet_k (by omega) (by omega), eJ r (by omega)]
  · rw [mSet_0, cAcc_16]
  · rw [cAcc_o (by omega), h460]; exact h460b
  · rw [mSet_o (by omega)]; exact hS.of (fun b g1 g2 => cAcc_o (by omega)) (fun b hb => cAcc_o (by omega))
  · exact hH.of hS.tn.1 (fun b g1 g2 => cAcc_o (by omega))
  · intro i k c q; cases q
  · rw [mSet_32]; rfl
theorem REL.good {S : vS} {I I2 Jr : vI} {x r lb np nc ns nl nc2 ns2 nl2 : Nat} {l : List tH} (hR : CP S I x lb (I (r + 2)) l (I (r + 7)) (I r) (I (r + 1)) (I (r + 3)) (I (r + 4)) (I (r + 26)) (I (r + 27)) np nc ns nl) (hL : LfR (I (r + 14)) l np) (h32 : I r 32 = nI l.length) (hW : Wd (I (r + 6)) WL 0) (hP : SPx S x r lb) (fA : FA x I I2) (h460 : I2 (x + 460) = I (x + 460)) (eJ : ∀ b, b ≠ r + 2 → Jr b = cAcc I2 x b) (hS : STR S I2 (x + 1) lb (Jr (r + 2)) np nc2 ns2 nl2) (hH : HC I2 (x + 89) l np) : REL S (mGood Jr r) x r lb ∧ ∀ b, b < x → mGood Jr r b = I b := by
  have hR2 := hR
  have hP2 := hP
  obtain ⟨-, -, -, er, el, -⟩ := hP
  have h460b := hR.2.2.1
  have fr : ∀ b, r ≤ b → I2 b = I b := fun b hb => fA.row (by omega) (by omega)
  refine REL.fin hR2 hW hP2 fA.acc (fun b hb => ?_) (fun b hb => ?_) (fun k hk => ?_) ?_ ?_ (np2 := np) (nc2 := nc2) (ns2 := ns2) (nl2 := nl2) (l2 := l) ?_ ?_ ?_ ?_
  · rw [mGood_o (by omega), eJ b (by omega)]
  · rw [mGood_o (by omega), eJ b (by omega)]
  · rw [mGood_k (by omega), eJ r (by omega)]
  · rw [mGood_0, cAcc_16]
  · rw [cAcc_o (by omega), h460]; exact h460b
  · rw [mGood_o (by omega)]; exact hS.of (fun b g1 g2 => cAcc_o (by omega)) (fun b hb => cAcc_o (by omega))
  · exact hH.of hS.tn.1 (fun b g1 g2 => cAcc_o (by omega))
  · rw [mGood_o (by omega), eJ (r + 14) (by omega), cAcc_o (by omega), fr _ (by omega)]; exact hL
  · rw [mGood_k (by decide), eJ r (by omega), cAcc_o (by omega), fr r (by omega)]; exact h32
theorem k_person {d : Nat} {S : vS} {I : vI} {L : vL} {Q : Int32 → vS → vI → vL → Prop} {x lb np nc ns nl : Nat} {K : Nat → Int32} {l : List tH} {a sz w : Int32} (hC : ClsS S x) (hs : STR S I (x + 1) lb K np nc ns nl) (hH : HC I (x + 89) l np) (hlb : x + 942 ≤ lb) (h1 : zCan a sz w = 0 → Q (-1) S (cRef I x (-1) 1) L) (h2 : ¬ zCan a sz w = 0 → np = 8 → Q (-5) S (cRef I x (-5) 5) L) (h : ¬ zCan a sz w = 0 → np < 8 → ∀ I2, (∀ b, ¬ (x + 2 ≤ b ∧ b ≤ x + 24) → b ≠ x + 89 → I2 b = I b) → TR I2 (x + 1 + 1) (addK K np a sz w) (np + 1) nc → HC I2 (x + 89) [] (np + 1) → Q (nI np) S (cAcc I2 x) L) : Vc mX11_person (d + 80) 0 0 [.ref x, .int a, .int sz, .int w] S I L (ViQ Q) := by
  refine Vc.of rfl (Nat.le_of_ble_eq_true rfl) ?_
  have B := bs_X11_person
  show Vw mX11_person (d + 80) 0 0 0 0 (ViQ Q) 0 [(0, .ref x), (1, .int a), (2, .int sz), (3, .int w)] [] S I L
  have hT := hC.p0.p0
  have hN := hs.tn
  have h8 := hN.1
  have h10 := hN.2.1
  have hK := hs.tr
  have hold : ∃ old, old < 16 ∧ I (x + 89) 2 = nI old := by obtain ⟨_, _, old, o1, o2, _⟩ := hH; exact ⟨old, o1, o2⟩
  refine Vw.iload_n (de_iload_1 (B 0 _ rfl)) 1 rfl (n := 1) rfl ?_
  refine Vw.iload_n (de_iload_2 (B 1 _ rfl)) 2 rfl (n := 2) rfl ?_
  refine Vw.iload_n (de_iload_3 (B 2 _ rfl)) 3 rfl (n := 3) rfl ?_
  refine Vw.isi3 (mi' := mX11_canBePerson) (de_invokestatic (B 3 _ rfl) (B 4 _ rfl) (B 5 _ rfl)) ml_X11_96 ms_X11_canBePerson (Nat.le_of_ble_eq_true rfl) (n := 6) rfl (c_X11_canBePerson ?_)
  refine Vw.if_ne (tgt := 15) (n := 9) (de_if_ne (B 6 _ rfl) (B 7 _ rfl) (B 8 _ rfl)) rfl rfl (fun c_6 => ?_) (fun c_6 => ?_)
  · refine Vw.aload_n (de_aload_0 (B 15 _ rfl)) 0 rfl (n := 16) rfl ?_
    refine Vw.getR (de_getfield (B 16 _ rfl) (B 17 _ rfl) (B 18 _ rfl)) fl_X11_12 rfl hC.k hC.f0 (n := 19) rfl ?_
    refine Vw.getR (de_getfield (B 19 _ rfl) (B 20 _ rfl) (B 21 _ rfl)) fl_X11_104 rfl hC.p0.k hC.p0.f0 (n := 22) rfl ?_
    refine Vw.getI (de_getfield (B 22 _ rfl) (B 23 _ rfl) (B 24 _ rfl)) fl_X11_107 rfl hC.p0.p0.k (n := 25) rfl ?_
    rw [hK.1]
    refine Vw.bipush (v := 8) (de_bipush (B 25 _ rfl) (B 26 _ rfl)) rfl (n := 27) rfl ?_
    refine Vw.icmp_lt (tgt := 37) (n := 30) (de_icmp_lt (B 27 _ rfl) (B 28 _ rfl) (B 29 _ rfl)) rfl rfl (fun c_27 => ?_) (fun c_27 => ?_)
    · have np8 : np < 8 := by rcases Nat.lt_or_ge np 8 with z | z; exact z; exact absurd (i32_lt.mp c_27) (by rw [nI_ti (by omega)]; show ¬ (np : Int) < 8; omega)
      refine Vw.aload_n (de_aload_0 (B 37 _ rfl)) 0 rfl (n := 38) rfl ?_
      refine Vw.getR (de_getfield (B 38 _ rfl) (B 39 _ rfl) (B 40 _ rfl)) fl_X11_60 rfl hC.k hC.f6 (n := 41) rfl ?_
      refine Vw.ivv0 (mi' := mX2_clear) (de_invokevirtual (B 41 _ rfl) (B 42 _ rfl) (B 43 _ rfl)) ml_X11_110 mv_X2_clear hC.p6.k (Nat.le_of_ble_eq_true rfl) (n := 44) rfl (c_X2_clear (np := np + 1) hC.p6 hold (fun I2 f2 f2k h2c => ?_))
      have k2 : TR I2 (x + 1 + 1) K np nc := hK.of (fun b g1 g2 => f2 b (by omega)) h8 h10
      refine Vw.aload_n (de_aload_0 (B 44 _ rfl)) 0 rfl (n := 45) rfl ?_
      refine Vw.aload_n (de_aload_0 (B 45 _ rfl)) 0 rfl (n := 46) rfl ?_
      refine Vw.getR (de_getfield (B 46 _ rfl) (B 47 _ rfl) (B 48 _ rfl)) fl_X11_12 rfl hC.k hC.f0 (n := 49) rfl ?_
      refine Vw.getR (de_getfield (B 49 _ rfl) (B 50 _ rfl) (B 51 _ rfl)) fl_X11_104 rfl hC.p0.k hC.p0.f0 (n := 52) rfl ?_
      refine Vw.iload_n (de_iload_1 (B 52 _ rfl)) 1 rfl (n := 53) rfl ?_
      refine Vw.iload_n (de_iload_2 (B 53 _ rfl)) 2 rfl (n := 54) rfl ?_
      refine Vw.iload_n (de_iload_3 (B 54 _ rfl)) 3 rfl (n := 55) rfl ?_
      refine Vw.ivi3 (mi' := mX9_addPerson) (de_invokevirtual (B 55 _ rfl) (B 56 _ rfl) (B 57 _ rfl)) ml_X11_113 mv_X9_addPerson hC.p0.p0.k (Nat.le_of_ble_eq_true rfl) (n := 58) rfl (c_X9_addPerson hT k2 np8 h10 (fun I3 f3 k3 => ?_))
      refine Vw.ivi1 (mi' := mX11_accept) (de_invokevirtual (B 58 _ rfl) (B 59 _ rfl) (B 60 _ rfl)) ml_X11_117 mv_X11_accept hC.k (Nat.le_of_ble_eq_true rfl) (n := 61) rfl (c_X11_accept hC ?_)
      exact Vw.iret (de_ireturn (B 61 _ rfl)) rfl ⟨_, rfl, (h c_6 np8 I3 (fun b g1 g2 => (f3 b (by omega)).trans (f2 b g2)) k3 (h2c.of (by omega) (fun b g1 g2 => f3 b (by omega))))⟩
    refine Vw.aload_n (de_aload_0 (B 30 _ rfl)) 0 rfl (n := 31) rfl ?_
    refine Vw.bipush (v := -5) (de_bipush (B 31 _ rfl) (B 32 _ rfl)) rfl (n := 33) rfl ?_
    refine Vw.ivi1 (mi' := mX11_refuse) (de_invokevirtual (B 33 _ rfl) (B 34 _ rfl) (B 35 _ rfl)) ml_X11_100 mv_X11_refuse hC.k (Nat.le_of_ble_eq_true rfl) (n := 36) rfl (c_X11_refuse (j := 5) hC rfl (by decide) ?_)
    exact Vw.iret (de_ireturn (B 36 _ rfl)) rfl ⟨_, rfl, (h2 c_6 (by rcases Nat.lt_or_ge np 8 with z | z; exact absurd (i32_lt.mpr (by rw [nI_ti (by omega)]; show (np : Int) < 8; omega)) c_27; omega))⟩
  refine Vw.aload_n (de_aload_0 (B 9 _ rfl)) 0 rfl (n := 10) rfl ?_
  refine Vw.iconst (v := -1) (de_iconst_m1 (B 10 _ rfl)) rfl (n := 11) rfl ?_
  refine Vw.ivi1 (mi' := mX11_refuse) (de_invokevirtual (B 11 _ rfl) (B 12 _ rfl) (B 13 _ rfl)) ml_X11_100 mv_X11_refuse hC.k (Nat.le_of_ble_eq_true rfl) (n := 14) rfl (c_X11_refuse (j := 1) hC rfl (by decide) ?_)
  exact Vw.iret (de_ireturn (B 14 _ rfl)) rfl ⟨_, rfl, (h1 c_6)⟩
theorem pr_person {S : vS} {I : vI} {L : vL} {x r lb : Nat} {a sz w : Int32} (hR : REL S I x r lb) : PR mX11_person mX12_person 0 0 [.int a, .int sz, .int w] x r lb S I L := by
  intro d Q h
  obtain ⟨l, np, nc, ns, nl, hCP, hL, h32, hWd, hSP⟩ := hR
  have hR : REL S I x r lb := ⟨l, np, nc, ns, nl, hCP, hL, h32, hWd, hSP⟩
  have hs := hCP.1
  have hH := hCP.2.1
  have hN := hs.tn
  obtain ⟨hC, hM, hst, er, el, hl2⟩ := id hSP
  refine k_person hC hs hH (by omega) (fun c1 => h _ S _ L (fun _ _ => rfl) (fun d2 Q2 g => ?_)) (fun c1 c2 => h _ S _ L (fun _ _ => rfl) (fun d2 Q2 g => ?_)) (fun c1 c2 I2 f2 k2 hc2 => h _ S _ L (fun _ _ => rfl) (fun d2 Q2 g => ?_))
  · refine c_X12_person (d := d2 + 58) (n := np) hM (by rw [cRef_o (by omega) (by omega)]; exact hN.2.2.1) hN.1 (fun _ => g _ _ (hR.ref (k := (-1)) (j := 1) (by decide)) (fun b hb => by rw [mRef_o (by omega) (by omega), cRef_o (by omega) (by omega)])) (fun q => absurd c1 q) (fun q => absurd c1 q)
  · refine c_X12_person (d := d2 + 58) (n := np) hM (by rw [cRef_o (by omega) (by omega)]; exact hN.2.2.1) hN.1 (fun q => absurd q c1) (fun _ _ => g _ _ (hR.ref (k := (-5)) (j := 5) (by decide)) (fun b hb => by rw [mRef_o (by omega) (by omega), cRef_o (by omega) (by omega)])) (fun _ q => absurd (by rw [cRef_o (by omega) (by omega), hN.2.2.1, c2]; rfl) q)
  · have e2 : cAcc I2 x (r + 2) = I (r + 2) := by rw [cAcc_o (by omega), f2 _ (by omega) (by omega)]
    refine c_X12_person (d := d2 + 58) (n := np) hM (by rw [e2]; exact hN.2.2.1) hN.1 (fun q => absurd q c1) (fun _ q => absurd (by rw [e2, hN.2.2.1] at q; exact nI_inj (a := np) (b := 8) (by omega) (by decide) q) (by omega)) (fun _ _ => ?_)
    rw [e2, hN.2.2.1]
    have eK : mAdds (cAcc I2 x) r np a sz w (r + 2) = addK (I (r + 2)) np a sz w := by rw [mAdds_K (by rw [e2]; exact hN.2.2.1), e2]
    have fin := REL.setl (I2 := I2) (Jr := mAdds (cAcc I2 x) r np a sz w) (np2 := np + 1) (nc2 := nc) (ns2 := ns) (nl2 := nl) hCP hWd hSP (FA.of (fun b g1 g2 g3 g4 => f2 b (by omega) g4)) (f2 _ (by omega) (by omega)) (fun b hb => funext fun k => mAdds_o hb)
      (by rw [eK]; exact hs.town k2 (hN.add c2) (hs.kb.add c1 c2 hN.2.1) (fun y h1 h2 _ => by unfold addK; rw [upK_n h2, upK_n (by omega), upK_n (by omega), upK_n (by omega), upK_n (by omega)]) (f2 _ (by omega) (by omega)) (fun b g1 g2 => f2 b (by omega) (by omega)) (fun b hb => f2 b (by omega) (by omega))) hc2
    exact g _ _ fin.1 fin.2
