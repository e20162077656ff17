/-! orders: alike -/
/-- class and reference in one memory, accepted -/
theorem gd_mix {A B : vI} {x r : Nat} (h : ∀ b, ¬ (r ≤ b ∧ b < r + 28) → B b = cAcc A x b) (hx : x < r) : mGood B r = mGood (cAcc (mix A B r) x) r := by
  have e : ∀ b, r ≤ b → b < r + 28 → cAcc (mix A B r) x b = B b := fun b h1 h2 => by rw [cAcc_o (by omega), mix_r h1 h2]
  funext b i
  unfold mGood
  by_cases h2 : b = r ∧ i = 0
  · rw [h2.1, h2.2, up2_s, up2_s]
  · rw [up2_n h2, up2_n h2]
    by_cases hb : r ≤ b ∧ b < r + 28
    · rw [e b hb.1 hb.2]
    · rw [h b hb]; unfold cAcc
      by_cases h3 : b = x ∧ i = 16
      · rw [h3.1, h3.2, up2_s, up2_s]
      · rw [up2_n h3, up2_n h3, mix_x hb]
/-- orders were run: town and history may have changed -/
theorem REL.ran {S S2 : vS} {I J : vI} {x r lb np nc ns nl nc2 : Nat} {l l2 : List tH} (hR : CP S I x lb (I (r + 2)) l (I (r + 7)) (I r) (I (r + 1)) (I (r + 3)) (I (r + 4)) (I (r + 26)) (I (r + 27)) np nc ns nl) (hW : Wd (I (r + 6)) WL 0) (hP : SPx S x r lb) (hS2 : SKr x S S2)
    (row : ∀ b k, ¬ (x + 2 ≤ b ∧ b ≤ x + 24) → b ≠ x + 29 → b ≠ x + 30 → b ≠ x + 32 → b ≠ x + 33 → ¬ (x + 75 ≤ b ∧ b ≤ x + 87) → ¬ (x + 89 ≤ b ∧ b ≤ x + 459) → ¬ (x + 460 ≤ b ∧ b ≤ x + 853) → ¬ (b = x ∧ (k = 12 ∨ k = 14 ∨ k = 15 ∨ k = 16)) → ¬ (b = r ∧ (k = 0 ∨ k = 8 ∨ k = 11 ∨ k = 12 ∨ (16 ≤ k ∧ k ≤ 29) ∨ k = 32 ∨ (43 ≤ k ∧ k ≤ 50) ∨ k = 55)) → b ≠ r + 2 → b ≠ r + 5 → ¬ (r + 9 ≤ b ∧ b ≤ r + 15) → J b k = I b k)
    (hT : TR J (x + 1 + 1) (J (r + 2)) np nc2) (hN : TN (J (r + 2)) np nc2) (hB : KB (J (r + 2)) np nc2) (eK : ∀ y, 122 ≤ y → y ≠ 142 → ¬ scrK y → J (r + 2) y = I (r + 2) y) (hH : HC J (x + 89) l2 np) (hL : LfR (J (r + 14)) l2 np) (h32 : J r 32 = nI l2.length) (hold : ∃ old, old < 16 ∧ J (x + 460) 2 = nI old) (x12 : J x 12 = 0) (r11 : J r 11 = 0) (e14 : J x 14 = J r 12) (e15 : J x 15 = J r 43) (e16 : J x 16 = J r 0) : REL S2 J x r lb := by
  have hs := hR.1
  obtain ⟨-, -, -, ⟨n, n4, zn, xn⟩, hu, h13, h14, h15, h16, hrf, him, hy, nd, nd8, z54, hyr⟩ := id hR
  have er := hP.2.2.2.1
  have el := hP.2.2.2.2.1
  have rx : ∀ b, x + 854 ≤ b → b ≠ r → b ≠ r + 2 → b ≠ r + 5 → ¬ (r + 9 ≤ b ∧ b ≤ r + 15) → J b = I b := fun b q0 q1 q2 q3 q4 => funext fun k => row b k (by omega) (by omega) (by omega) (by omega) (by omega) (by omega) (by omega) (by omega) (by omega) (by omega) q2 q3 q4
  have rs : ∀ b, b = x + 1 ∨ (x + 25 ≤ b ∧ b ≤ x + 28) ∨ (x + 34 ≤ b ∧ b ≤ x + 74) → J b = I b := fun b hb => funext fun k => row b k (by omega) (by omega) (by omega) (by omega) (by omega) (by omega) (by omega) (by omega) (by omega) (by omega) (by omega) (by omega) (by omega)
  have xk : ∀ k, k ≠ 12 → k ≠ 14 → k ≠ 15 → k ≠ 16 → J x k = I x k := fun k q1 q2 q3 q4 => row x k (by omega) (by omega) (by omega) (by omega) (by omega) (by omega) (by omega) (by omega) (by omega) (by omega) (by omega) (by omega) (by omega)
  have rk : ∀ k, k = 6 ∨ k = 54 ∨ k = 56 → J r k = I r k := fun k hk => row r k (by omega) (by omega) (by omega) (by omega) (by omega) (by omega) (by omega) (by omega) (by omega) (by omega) (by omega) (by omega) (by omega)
  have sc := hS2.sc (lb := lb) (by omega)
  refine REL.upS (np2 := np) (nc2 := nc2) (ns2 := ns) (nl2 := nl) (l2 := l2) hR hW (hS2.sp hP) (fun b k hb => by rw [rs b (by omega)]) (fun b hb => rx b (by omega) (by omega) (by omega) (by omega) (by omega)) (rk _ (by omega)) (rk _ (by omega)) (fun k hk => ?_) ?_ hH hL h32 hold ⟨0, by decide, r11, x12⟩ (fun j hj => ?_) ?_ e14 e15 e16 (fun i hi => ?_)
  · rw [rx (x + 855) (by omega) (by omega) (by omega) (by omega) (by omega), rx (r + 4) (by omega) (by omega) (by omega) (by omega) (by omega), rx (r + 3) (by omega) (by omega) (by omega) (by omega) (by omega)]
    refine ⟨(him k hk).1, fun q => ?_⟩
    obtain ⟨a, b, c, e, st⟩ := (him k hk).2 q
    exact ⟨a, b, c, e, (st.sk (fun t _ => hS2.2.2 _ _ (by omega)) sc).of (fun b g1 g2 => rx b (by omega) (by omega) (by omega) (by omega) (by omega)) (fun b hb => rx b (by omega) (by omega) (by omega) (by omega) (by omega))⟩
  · exact (hs.sk (fun t _ => hS2.2.2 _ _ (by omega)) sc).town hT hN hB eK (rs _ (by omega)) (fun b g1 g2 => rs b (by omega)) (fun b hb => rx b (by omega) (by omega) (by omega) (by omega) (by omega))
  · rw [rx (x + 856) (by omega) (by omega) (by omega) (by omega) (by omega), rx (r + 7) (by omega) (by omega) (by omega) (by omega) (by omega)]; exact hu j hj
  · rw [xk _ (by decide) (by decide) (by decide) (by decide), rk _ (by omega)]; exact h13
  · rw [rx (x + 857) (by omega) (by omega) (by omega) (by omega) (by omega), rx (r + 1) (by omega) (by omega) (by omega) (by omega) (by omega)]; exact hrf i hi
theorem pr_orders {S : vS} {I : vI} {L : vL} {x r lb : Nat} (hR : REL S I x r lb) : PR mX11_orders mX12_orders 0 0 [] x r lb S I L := by
  intro d Q h
  obtain ⟨l, np, nc, ns, nl, hCP, hL, h32, hWd, hSP⟩ := hR
  have hR : REL S I x r lb := ⟨l, np, nc, ns, nl, hCP, hL, h32, hWd, hSP⟩
  have hs := hCP.1
  have hH := hCP.2.1
  have hN := hs.tn
  obtain ⟨hC, hM, hst, er, el, hl2⟩ := id hSP
  obtain ⟨-, -, hold, ⟨n, n4, zn, xn⟩, hu, h13, h14, h15, h16, hrf, him, hy, nd, nd8, z54, hyr⟩ := id hCP
  have tx : ∀ k, k < 11 → ∃ z, TxS S k z := fun k hk => by obtain ⟨z, b, -, -, z3, z4⟩ := hst k hk; exact ⟨z, hk, z3, b, z4⟩
  obtain ⟨W, hWC, hWD⟩ := hs.w
  have sm : SameK (I (r + 2)) (KOf (I (r + 2)) (I (r + 7)) n) := KOf_same n4
  have sl : ∀ y, y < 146 → KOf (I (r + 2)) (I (r + 7)) n y = I (r + 2) y := fun y hy => sm y (by unfold scrK; omega)
  have kN : TN (KOf (I (r + 2)) (I (r + 7)) n) np nc := hN.of (fun y q1 q2 => sl y (by omega))
  have kB : KB (KOf (I (r + 2)) (I (r + 7)) n) np nc := hs.kb.of hN.1 hN.2.1 (fun y hy => sl y (by omega))
  have hSP2 := (SKr.sup (w := some (x + 856))).sp hSP
  have ll := hH.1
  refine k_orders (n := n) (u := I (r + 7)) (KO := KOf (I (r + 2)) (I (r + 7)) n) (W := W) hC hs hH (by omega) xn n4 hu tx hWC hold (hs.tr.kx hN.1 hN.2.1 (fun y hy => sl y (by omega))) ⟨kN, kB.2.2.2⟩ (fun e I2 ep en f2 => h _ _ _ L (fun _ _ => rfl) (fun d2 Q2 g => ?_)) (fun cs m I2 M ep eo f2 fh t2 o2 x12 x14 x15 => h _ _ _ M (fun _ _ => rfl) (fun d2 Q2 g => ?_)) (fun cs s2 I2 M ep eo f2 t2 h2 o2 x12 x14 x15 => h _ _ _ M (fun _ _ => rfl) (fun d2 Q2 g => ?_))
  · obtain ⟨A, eA⟩ : ∃ z, z = up2 (up2 (up2 I2 x 12 0) x 14 (nI (plcT (tkL (I (r + 7)) n 401 0) n e))) x 15 (-1) := ⟨_, rfl⟩
    rw [← eA]
    have fA : ∀ b k, ¬ (x + 75 ≤ b ∧ b ≤ x + 87) → ¬ (b = x ∧ (k = 12 ∨ k = 14 ∨ k = 15)) → A b k = I b k := fun b k q1 q2 => by rw [eA, up2_n (by omega), up2_n (by omega), up2_n (by omega), f2 b (by omega)]
    have rC : ∀ b, r ≤ b → cRef A x (-6) 6 b = I b := fun b hb => by rw [cRef_o (by omega) (by omega)]; exact funext fun k => fA b k (by omega) (by omega)
    refine c_X12_orders2 (d := d2 + 10) (np := np) (nc := nc) (u := l.length) (n := n) (W := W) hSP2.2.1 (by rw [rC _ (by omega)]; exact hWD) (by rw [rC _ (by omega)]; exact hN) (by rw [rC _ (by omega)]; exact h32) ll (by rw [rC _ (by omega)]; exact zn) n4 (by rw [rC _ (by omega)]; exact hWd) (fun J nt f t l3 rd hnt et hf => ?_) (fun J nt cs K1 m rd hnt et _ _ => ?_) (fun J nt cs K1 s2 rd hnt et _ _ => ?_)
    · have rt := rd.rows_
      have tx2 := rd.tx
      rw [up2_row (by omega), up2_row (by omega), rC _ (by omega)] at rt tx2
      rw [up2_s] at tx2
      obtain ⟨t1, t2, t3, t4, t5⟩ := rt
      have ef : f = e := by
        rw [tx2, t1] at et
        have := ep.symm.trans et
        cases this; rfl
      subst ef
      rw [t4 f hf, rf_mix (A := A) (x := x) (fun b hb => funext fun k => by rw [up2_n (by omega), pm_n2 (by omega), rd.same (by omega) (by omega) (by omega) (by omega) (by omega), up2_n (by omega), up2_n (by omega)]) (by omega)]
      have jk : ∀ b k, b ≠ r + 9 → b ≠ r + 10 → b ≠ r + 11 → ¬ (b = r ∧ (k = 8 ∨ k = 11 ∨ k = 16 ∨ k = 43)) → r ≤ b → J b k = I b k := fun b k q1 q2 q3 q4 q5 => by rw [rd.same q1 q2 q3 (by omega) (by omega), up2_n (by omega), up2_n (by omega), rC b q5]
      have R0 : REL (sUp S (x + 1 + 74) 5 (some (x + 856))) (mix A (up2 (pm J r t l3 (nI (plcT (tkL (I (r + 7)) n 401 0) n f))) r 12 (nI (plcT (tkL (I (r + 7)) n 401 0) n f))) r) x r lb := by
        refine REL.tape hCP hL h32 hWd hSP SKr.sup (fun b k q1 q2 q3 q4 q5 q6 => ?_) (by rw [mix_x (by omega), eA, up2_k (by decide), up2_k (by decide), up2_s]) (by rw [mix_r (by omega) (by omega), up2_k (by decide), pm_n2 (by omega)]; exact t5) ?_ ?_
        · by_cases hb : r ≤ b ∧ b < r + 28
          · rw [mix_r hb.1 hb.2, up2_n (by omega), pm_n2 (by omega), jk b k q4 q5 q6 (by omega) hb.1]
          · rw [mix_x hb]; exact fA b k q1 (by omega)
        · rw [mix_x (by omega), mix_r (by omega) (by omega), eA, up2_k (by decide), up2_s, up2_s]
        · rw [mix_x (by omega), mix_r (by omega) (by omega), up2_k (by decide), pm_n2 (by omega), eA, up2_s, rd.same (by omega) (by omega) (by omega) (by omega) (by omega), up2_k (by decide), up2_s]
      exact g _ _ (R0.ref (by decide)) (fun b hb => funext fun k => by rw [mRef_o (by omega) (by omega), cRef_o (by omega) (by omega), mix_x (by omega), fA b k (by omega) (by omega)])
    · have rt := rd.rows_
      have tx2 := rd.tx
      rw [up2_row (by omega), up2_row (by omega), rC _ (by omega)] at rt tx2
      rw [up2_s] at tx2
      rw [tx2, rt.1] at et
      exact absurd (ep.symm.trans et) (by intro q; cases q)
    · have rt := rd.rows_
      have tx2 := rd.tx
      rw [up2_row (by omega), up2_row (by omega), rC _ (by omega)] at rt tx2
      rw [up2_s] at tx2
      rw [tx2, rt.1] at et
      exact absurd (ep.symm.trans et) (by intro q; cases q)
  · have rC : ∀ b, r ≤ b → cRef I2 x (-3) 3 b = I b := fun b hb => by rw [cRef_o (by omega) (by omega)]; exact funext fun k => f2 b k (by omega) (by omega) (by omega) (by omega) (by omega) (by omega) (by omega) (by omega) (by omega)
    refine c_X12_orders2 (d := d2 + 10) (np := np) (nc := nc) (u := l.length) (n := n) (W := W) hSP2.2.1 (by rw [rC _ (by omega)]; exact hWD) (by rw [rC _ (by omega)]; exact hN) (by rw [rC _ (by omega)]; exact h32) ll (by rw [rC _ (by omega)]; exact zn) n4 (by rw [rC _ (by omega)]; exact hWd) (fun J nt f t l3 rd hnt et hf => ?_) (fun J nt cs3 K1 m3 rd hnt et ks ep3 I3 M3 f3 _ e11 e12 e43 sK e14 e32 => ?_) (fun J nt cs3 K1 s3 rd hnt et ks ep3 => ?_)
    · have rt := rd.rows_
      have tx2 := rd.tx
      rw [up2_row (by omega), up2_row (by omega), rC _ (by omega)] at rt tx2
      rw [up2_s] at tx2
      rw [tx2, rt.1] at et
      exact absurd (ep.symm.trans et) (by intro q; cases q)
    · have rt := rd.rows_
      have tx2 := rd.tx
      have ek := ks.2.eq rd
      rw [up2_row (by omega), up2_row (by omega), rC _ (by omega)] at rt tx2 ek
      rw [rC _ (by omega)] at ek sK ep3 e14
      rw [up2_s] at tx2
      have ecs : cs3 = cs := by
        rw [tx2, rt.1] at et
        have := ep.symm.trans et
        cases this; rfl
      subst ecs
      rw [ek] at ep3
      have fit := all_text (fun i l j l2 c q => (fit_one q).2) ep
      have em : m3 = m := by
        rcases ords_eq (W := W) ll cs3 0 (KOf (I (r + 2)) (I (r + 7)) n, I (r + 14), l.length, 0, 0) (KOf (I (r + 2)) (I (r + 7)) n, [], 0, 0) fit ⟨rfl, rfl, rfl, hL, rfl, Nat.zero_le _, kN, kB⟩ with ⟨m0, g1, g2, _⟩ | ⟨p2, q2, g1, g2, _⟩
        · rw [g1] at ep3; rw [g2] at eo; cases ep3; cases eo; rfl
        · rw [g1] at ep3; cases ep3
      subst em
      rw [rf_mix (A := I2) (x := x) (fun b hb => funext fun k => f3 b k (by omega) (by omega) (by omega) (by omega)) (by omega)]
      have r3 : ∀ b k, r ≤ b → ¬ (b = r ∧ (k = 8 ∨ k = 11 ∨ k = 12 ∨ 16 ≤ k ∧ k ≤ 29 ∨ k = 32 ∨ 43 ≤ k ∧ k ≤ 50 ∨ k = 55)) → b ≠ r + 2 → b ≠ r + 5 → ¬ (r + 9 ≤ b ∧ b ≤ r + 15) → I3 b k = I b k := fun b k q0 q1 q2 q3 q4 => by rw [f3 b k q1 q2 q3 q4, rC b q0]
      have s3 : ∀ y, y < 146 → I3 (r + 2) y = I (r + 2) y := fun y hy => sK y (by unfold scrK; omega)
      have R0 : REL (sUp S (x + 1 + 74) 5 (some (x + 856))) (mix I2 I3 r) x r lb := by
        refine REL.ran (nc2 := nc) (l2 := l) hCP hWd hSP SKr.sup (fun b k q1 q2 q3 q4 q5 q6 q7 q8 q9 q10 q11 q12 q13 => ?_) ?_ ?_ ?_ (fun y q1 q2 q3 => ?_) ?_ ?_ ?_ ?_ ?_ ?_ ?_ ?_ ?_
        · by_cases hb : r ≤ b ∧ b < r + 28
          · rw [mix_r hb.1 hb.2, r3 b k hb.1 (by omega) q11 q12 q13]
          · rw [mix_x hb]; exact f2 b k q1 q2 q3 q4 q5 q6 q7 q8 (by omega)
        · rw [mix_r (by omega) (by omega)]
          exact (t2.of (fun b g1 g2 => mix_x (by omega)) hN.1 hN.2.1).kx hN.1 hN.2.1 (fun y hy => by rw [s3 y (by omega), sl y (by omega)])
        · rw [mix_r (by omega) (by omega)]; exact hN.of (fun y q1 q2 => s3 y (by omega))
        · rw [mix_r (by omega) (by omega)]; exact hs.kb.of hN.1 hN.2.1 (fun y hy => s3 y (by omega))
        · rw [mix_r (by omega) (by omega)]; exact sK y q3
        · exact hH.of hN.1 (fun b g1 g2 => by rw [mix_x (by omega), fh b (by omega) (by omega)])
        · rw [mix_r (by omega) (by omega)]; exact hL.lo ll e14
        · rw [mix_r (by omega) (by omega)]; exact e32
        · rw [mix_x (by omega)]; exact o2
        · rw [mix_x (by omega)]; exact x12
        · rw [mix_r (by omega) (by omega)]; exact e11
        · rw [mix_x (by omega), mix_r (by omega) (by omega), x14, e12]
        · rw [mix_x (by omega), mix_r (by omega) (by omega), x15, e43]
        · rw [mix_x (by omega), mix_r (by omega) (by omega), r3 r 0 (by omega) (by omega) (by omega) (by omega) (by omega), f2 x 16 (by omega) (by omega) (by omega) (by omega) (by omega) (by omega) (by omega) (by omega) (by omega)]; exact h16
      exact g _ _ (R0.ref (by decide)) (fun b hb => funext fun k => by rw [mRef_o (by omega) (by omega), cRef_o (by omega) (by omega), mix_x (by omega), f2 b k (by omega) (by omega) (by omega) (by omega) (by omega) (by omega) (by omega) (by omega) (by omega)])
    · have rt := rd.rows_
      have tx2 := rd.tx
      have ek := ks.2.eq rd
      rw [up2_row (by omega), up2_row (by omega), rC _ (by omega)] at rt tx2 ek
      rw [rC _ (by omega)] at ek ep3
      rw [up2_s] at tx2
      have ecs : cs3 = cs := by
        rw [tx2, rt.1] at et
        have := ep.symm.trans et
        cases this; rfl
      subst ecs
      rw [ek] at ep3
      have fit := all_text (fun i l j l2 c q => (fit_one q).2) ep
      rcases ords_eq (W := W) ll cs3 0 (KOf (I (r + 2)) (I (r + 7)) n, I (r + 14), l.length, 0, 0) (KOf (I (r + 2)) (I (r + 7)) n, [], 0, 0) fit ⟨rfl, rfl, rfl, hL, rfl, Nat.zero_le _, kN, kB⟩ with ⟨m0, g1, g2, _⟩ | ⟨p2, q2, g1, g2, _⟩
      · rw [g1] at ep3; cases ep3
      · rw [g2] at eo; cases eo
  · have rC : ∀ b, r ≤ b → cAcc I2 x b = I b := fun b hb => by rw [cAcc_o (by omega)]; exact funext fun k => f2 b k (by omega) (by omega) (by omega) (by omega) (by omega) (by omega) (by omega) (by omega) (by omega)
    refine c_X12_orders2 (d := d2 + 10) (np := np) (nc := nc) (u := l.length) (n := n) (W := W) hSP2.2.1 (by rw [rC _ (by omega)]; exact hWD) (by rw [rC _ (by omega)]; exact hN) (by rw [rC _ (by omega)]; exact h32) ll (by rw [rC _ (by omega)]; exact zn) n4 (by rw [rC _ (by omega)]; exact hWd) (fun J nt f t l3 rd hnt et hf => ?_) (fun J nt cs3 K1 m3 rd hnt et ks ep3 => ?_) (fun J nt cs3 K1 s3 rd hnt et ks ep3 I3 M3 f3 _ e11 e12 e43 eK sO e14 e32 => ?_)
    · have rt := rd.rows_
      have tx2 := rd.tx
      rw [up2_row (by omega), up2_row (by omega), rC _ (by omega)] at rt tx2
      rw [up2_s] at tx2
      rw [tx2, rt.1] at et
      exact absurd (ep.symm.trans et) (by intro q; cases q)
    · have rt := rd.rows_
      have tx2 := rd.tx
      have ek := ks.2.eq rd
      rw [up2_row (by omega), up2_row (by omega), rC _ (by omega)] at rt tx2 ek
      rw [rC _ (by omega)] at ek ep3
      rw [up2_s] at tx2
      have ecs : cs3 = cs := by
        rw [tx2, rt.1] at et
        have := ep.symm.trans et
        cases this; rfl
      subst ecs
      rw [ek] at ep3
      have fit := all_text (fun i l j l2 c q => (fit_one q).2) ep
      rcases ords_eq (W := W) ll cs3 0 (KOf (I (r + 2)) (I (r + 7)) n, I (r + 14), l.length, 0, 0) (KOf (I (r + 2)) (I (r + 7)) n, [], 0, 0) fit ⟨rfl, rfl, rfl, hL, rfl, Nat.zero_le _, kN, kB⟩ with ⟨m0, g1, g2, _⟩ | ⟨p2, q2, g1, g2, _⟩
      · rw [g2] at eo; cases eo
      · rw [g1] at ep3; cases ep3
    · have rt := rd.rows_
      have tx2 := rd.tx
      have ek := ks.2.eq rd
      rw [up2_row (by omega), up2_row (by omega), rC _ (by omega)] at rt tx2 ek
      rw [rC _ (by omega)] at ek ep3
      rw [up2_s] at tx2
      have ecs : cs3 = cs := by
        rw [tx2, rt.1] at et
        have := ep.symm.trans et
        cases this; rfl
      subst ecs
      rw [ek] at ep3 sO
      have fit := all_text (fun i l j l2 c q => (fit_one q).2) ep
      have ro : RO l np nc s3 s2 := by
        rcases ords_eq (W := W) ll cs3 0 (KOf (I (r + 2)) (I (r + 7)) n, I (r + 14), l.length, 0, 0) (KOf (I (r + 2)) (I (r + 7)) n, [], 0, 0) fit ⟨rfl, rfl, rfl, hL, rfl, Nat.zero_le _, kN, kB⟩ with ⟨m0, g1, g2, _⟩ | ⟨p2, q2, g1, g2, g3⟩
        · rw [g1] at ep3; cases ep3
        · rw [g1] at ep3; rw [g2] at eo; cases ep3; cases eo; exact g3
      obtain ⟨o1, o2', o3, o4, o5, o6, o7, o8⟩ := ro
      rw [o2']
      rw [gd_mix (A := I2) (x := x) (fun b hb => funext fun k => f3 b k (by omega) (by omega) (by omega) (by omega)) (by omega)]
      have r3 : ∀ b k, r ≤ b → ¬ (b = r ∧ (k = 8 ∨ k = 11 ∨ k = 12 ∨ 16 ≤ k ∧ k ≤ 29 ∨ k = 32 ∨ 43 ≤ k ∧ k ≤ 50 ∨ k = 55)) → b ≠ r + 2 → b ≠ r + 5 → ¬ (r + 9 ≤ b ∧ b ≤ r + 15) → I3 b k = I b k := fun b k q0 q1 q2 q3 q4 => by rw [f3 b k q1 q2 q3 q4, rC b q0]
      have mo : ∀ b, b ≠ x → b ≠ r → mGood (cAcc (mix I2 I3 r) x) r b = mix I2 I3 r b := fun b q1 q2 => by rw [mGood_o q2, cAcc_o q1]
      have mx : ∀ k, k ≠ 16 → mGood (cAcc (mix I2 I3 r) x) r x k = I2 x k := fun k hk => by rw [mGood_o (by omega)]; unfold cAcc; rw [up2_k hk, mix_x (by omega)]
      have mr : ∀ k, k ≠ 0 → mGood (cAcc (mix I2 I3 r) x) r r k = I3 r k := fun k hk => by rw [mGood_k hk, cAcc_o (by omega), mix_r (by omega) (by omega)]
      have mK : mGood (cAcc (mix I2 I3 r) x) r (r + 2) = s2.1 := by rw [mo _ (by omega) (by omega), mix_r (by omega) (by omega), eK, o1]
      refine g _ _ (REL.ran (nc2 := nc) (l2 := s2.2.1.foldl psh l) hCP hWd hSP SKr.sup (fun b k q1 q2 q3 q4 q5 q6 q7 q8 q9 q10 q11 q12 q13 => ?_) ?_ ?_ ?_ (fun y q1 q2 q3 => ?_) ?_ ?_ ?_ ?_ ?_ ?_ ?_ ?_ ?_) (fun b hb => funext fun k => by rw [mo b (by omega) (by omega), mix_x (by omega), f2 b k (by omega) (by omega) (by omega) (by omega) (by omega) (by omega) (by omega) (by omega) (by omega)])
      · by_cases hx : b = x
        · subst hx; rw [mx k (by omega)]; exact f2 b k q1 q2 q3 q4 q5 q6 q7 q8 (by omega)
        · by_cases hr : b = r
          · subst hr; rw [mr k (by omega), r3 b k (by omega) (by omega) q11 q12 q13]
          · rw [mo b hx hr]
            by_cases hb : r ≤ b ∧ b < r + 28
            · rw [mix_r hb.1 hb.2, r3 b k hb.1 (by omega) q11 q12 q13]
            · rw [mix_x hb]; exact f2 b k q1 q2 q3 q4 q5 q6 q7 q8 (by omega)
      · rw [mK]; exact t2.of (fun b g1 g2 => by rw [mo b (by omega) (by omega), mix_x (by omega)]) hN.1 hN.2.1
      · rw [mK]; exact o7
      · rw [mK]; exact o8
      · rw [mK, ← o1, sO.2.1 y q1]; exact sm y q3
      · exact h2.of hN.1 (fun b g1 g2 => by rw [mo b (by omega) (by omega), mix_x (by omega)])
      · rw [mo _ (by omega) (by omega), mix_r (by omega) (by omega), e14]; exact o4
      · rw [mr _ (by decide), e32, o5]
      · rw [mo _ (by omega) (by omega), mix_x (by omega)]; exact o2
      · rw [mx _ (by decide)]; exact x12
      · rw [mr _ (by decide)]; exact e11
      · rw [mx _ (by decide), mr _ (by decide), x14, e12]
      · rw [mx _ (by decide), mr _ (by decide), x15, e43]
      · rw [mGood_0, mGood_o (by omega), cAcc_16]
