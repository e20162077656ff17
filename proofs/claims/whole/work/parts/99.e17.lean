/-! years: purses from nothing, purses as they are -/
def PS (p K G : Nat → Int32) : Prop := (∀ y, ¬ (y = 114 ∨ y = 116 ∨ y = 118 ∨ y = 120) → G y = K y) ∧ ∀ t, t < 4 → K (113 + 2 * t + 1) = G (113 + 2 * t + 1) + p t
theorem PS.per {p K G : Nat → Int32} {q : Nat} (h : PS p K G) (hq : q < 8) : perP G q = perP K q := by
  unfold perP; rw [h.1 _ (by omega), h.1 _ (by omega), h.1 _ (by omega), h.1 _ (by omega)]
theorem PS.up {p K G : Nat → Int32} {j : Nat} {v : Int32} (h : PS p K G) (hj : ¬ (j = 114 ∨ j = 116 ∨ j = 118 ∨ j = 120)) : PS p (upK K j v) (upK G j v) := by
  refine ⟨fun y hy => ?_, fun t ht => ?_⟩
  · by_cases z : y = j
    · rw [z, upK_s, upK_s]
    · rw [upK_n z, upK_n z]; exact h.1 y hy
  · rw [upK_n (by omega), upK_n (by omega)]; exact h.2 t ht
theorem PS.pu {p K G : Nat → Int32} {j : Nat} {v : Int32} (h : PS p K G) (hj : j < 4) : PS p (upK K (113 + 2 * j + 1) (K (113 + 2 * j + 1) + v)) (upK G (113 + 2 * j + 1) (G (113 + 2 * j + 1) + v)) := by
  refine ⟨fun y hy => ?_, fun t ht => ?_⟩
  · rw [upK_n (by omega), upK_n (by omega)]; exact h.1 y hy
  · by_cases z : t = j
    · subst z
      rw [upK_s, upK_s, h.2 t ht, Int32.add_assoc, Int32.add_assoc, Int32.add_comm v]
    · rw [upK_n (by omega), upK_n (by omega)]; exact h.2 t ht
theorem PS.put {p K G : Nat → Int32} {q : Nat} {P : tP} (h : PS p K G) (hq : q < 8) : PS p (putP K q P) (putP G q P) := by
  unfold putP; exact ((h.up (by omega)).up (by omega)).up (by omega)
theorem PS.grow {p K G : Nat → Int32} {W : tW} (h : PS p K G) : ∀ n, n ≤ 8 → PS p (growK W K n) (growK W G n)
  | 0, _ => h
  | n + 1, hn => by
    have ih := PS.grow (W := W) h n (by omega)
    rw [growK, growK, ih.per (by omega), ih.1 121 (by omega)]
    exact ih.put (by omega)
theorem PS.feast {p K G : Nat → Int32} {s : Nat} (h : PS p K G) : ∀ n, n ≤ 8 → PS p (feastK K s n).1 (feastK G s n).1 ∧ (feastK G s n).2 = (feastK K s n).2
  | 0, _ => ⟨h, rfl⟩
  | n + 1, hn => by
    obtain ⟨ih, e⟩ := PS.feast (s := s) h n (by omega)
    rw [feastK, feastK, e, ih.per (by omega), ih.1 140 (by omega)]
    refine ⟨?_, rfl⟩
    simp only
    split
    · exact ih.put (by omega)
    · exact ih
theorem PS.now {p K G : Nat → Int32} (h : PS p K G) : PS p (nowK K) (nowK G) := by
  unfold nowK; rw [h.1 121 (by omega)]; exact h.up (by omega)
theorem PS.at {p K G : Nat → Int32} {W : tW} {np nc c : Nat} (h : PS p K G) (hN : TN K np nc) (hc : c < nc) : payAt W G c = payAt W K c ∧ fitAt G c = fitAt K c ∧ PS p (payK W K c) (payK W G c) := by
  have h8 := hN.1
  have h10 := hN.2.1
  have lo : ∀ y, y < 112 → G y = K y := fun y hy => h.1 y (by omega)
  obtain ⟨⟨f, f4, ef⟩, ⟨g, g4, eg⟩, ew⟩ := hN.2.2.2.2 c hc
  have wr : wrN G c = wrN K c := by unfold wrN; rw [lo _ (by omega)]
  have w8 : wrN K c < 8 := by
    unfold wrN
    rcases ew with e | ⟨q, q1, q2⟩
    · rw [e]; decide
    · rw [q2, nI_cl (by omega)]; omega
  have ep : payAt W G c = payAt W K c := by
    unfold payAt; rw [wr, h.per w8, lo _ (by omega), lo _ (by omega), lo _ (by omega), lo _ (by omega), h.1 121 (by omega)]
  refine ⟨ep, by unfold fitAt; rw [wr, h.per w8, lo _ (by omega), lo _ (by omega)], ?_⟩
  unfold payK
  rw [ep, lo (32 + 8 * c + 7) (by omega)]
  refine PS.up (PS.up ?_ (by omega)) (by omega)
  unfold payK2 payK1
  rw [lo (32 + 8 * c + 2) (by omega), lo (32 + 8 * c + 3) (by omega), ef, eg, nI_cl (by omega), nI_cl (by omega)]
  exact (h.pu f4).pu g4
theorem PS.setl {p K G : Nat → Int32} {W : tW} {np nc : Nat} (h : PS p K G) (hN : TN K np nc) : ∀ c, c ≤ nc → PS p (setlK W K c).1 (setlK W G c).1 ∧ (setlK W G c).2 = (setlK W K c).2
  | 0, _ => ⟨h, rfl⟩
  | c + 1, hc => by
    have h10 := hN.2.1
    obtain ⟨ih, e⟩ := PS.setl (W := W) h hN c (by omega)
    have tn := (setlK_ok (W := W) hN c (by omega)).1
    obtain ⟨a1, a2, a3⟩ := ih.at (W := W) tn (show c < nc by omega)
    rw [setlK, setlK, ih.1 (32 + 8 * c + 4) (by omega), a1, a2, e]
    by_cases z1 : (setlK W K c).1 (32 + 8 * c + 4) = -1
    · rw [if_pos z1, if_pos z1]; exact ⟨ih, e⟩
    · rw [if_neg z1, if_neg z1]
      by_cases z2 : fitAt (setlK W K c).1 c = 0
      · rw [if_pos z2, if_pos z2]; exact ⟨a3, rfl⟩
      · rw [if_neg z2, if_neg z2]; exact ⟨ih, e⟩
theorem PS.years {p K G : Nat → Int32} {W : tW} {np nc s : Nat} (h : PS p K G) (hN : TN K np nc) (hs : s < 1000003) : ∀ k, PS p (yearsK W K np nc s k).1 (yearsK W G np nc s k).1 ∧ (yearsK W G np nc s k).2 = (yearsK W K np nc s k).2
  | 0 => ⟨h, rfl⟩
  | k + 1 => by
    have h8 := hN.1
    obtain ⟨ih, e⟩ := PS.years (W := W) h hN hs k
    have tn := (yearsK_ok (W := W) hN hs k).1
    have g := ih.grow (W := W) np h8
    obtain ⟨f1, f2⟩ := g.feast (s := (yearsK W K np nc s k).2.1) np h8
    have n := f1.now
    obtain ⟨s1, s2⟩ := n.setl (W := W) (yearK_T (W := W) (s := (yearsK W K np nc s k).2.1) tn) nc (Nat.le_refl _)
    rw [yearsK, yearsK, e]
    unfold yearP
    rw [f2, s2]
    exact ⟨s1, rfl⟩
theorem PS.zp {K : Nat → Int32} : PS (fun t => K (113 + 2 * t + 1)) K (zpK K) := ⟨fun y hy => zpK_n hy, fun t ht => by rw [zpK_z ht, Int32.zero_add]⟩
theorem years_eq {K : Nat → Int32} {W : tW} {np nc s k : Nat} (hN : TN K np nc) (hs : s < 1000003) : (yearsK W (zpK K) np nc s k).2.2 = (yearsK W K np nc s k).2.2 ∧ (∀ q, q < np → (yearsK W (zpK K) np nc s k).1 (4 * q + 2) = yrWide (yearsK W K np nc s k).1 q) ∧ ∀ t, t < 4 → (yearsK W (zpK K) np nc s k).1 (113 + 2 * t + 1) = yrGot K (yearsK W K np nc s k).1 t := by
  have h8 := hN.1
  obtain ⟨a, b⟩ := (PS.zp (K := K)).years (W := W) hN hs k
  refine ⟨by rw [b], fun q hq => a.1 _ (by omega), fun t ht => ?_⟩
  unfold yrGot
  rw [a.2 t ht, Int32.add_comm, Int32.add_assoc]
  show _ = _ + (K (113 + 2 * t + 1) + -K (113 + 2 * t + 1))
  rw [Int32.add_right_neg, Int32.add_zero]
theorem k_years {d : Nat} {S : vS} {I : vI} {L : vL} {Q : Int32 → vS → vI → vL → Prop} {x lb np nc ns nl : Nat} {K : Nat → Int32} {l : List tH} {s n : Int32} {W : tW} (hC : ClsS S x) (hs : STR S I (x + 1) lb K np nc ns nl) (hH : HC I (x + 89) l np) (hlb : x + 942 ≤ lb) (hW : WC S I (x + 1) lb W) (h1 : zLie s 0 1000000 = 0 ∨ zLie n 1 80 = 0 → Q (-1) S (cRef I x (-1) 1) L) (h : ∀ sd m, sd ≤ 1000000 → 1 ≤ m → m ≤ 80 → s = nI sd → n = nI m → ∀ I2 M, FY (x + 1) I I2 → I2 (x + 34) 11 = 1 → TR I2 (x + 43) (yearsK W (zpK K) np nc sd m).1 np nc → Q (yearsK W (zpK K) np nc sd m).2.2 S (cAcc I2 x) M) : Vc mX11_years (d + 80) 0 0 [.ref x, .int s, .int n] S I L (ViQ Q) := by
  refine Vc.of rfl (Nat.le_of_ble_eq_true rfl) ?_
  have B := bs_X11_years
  show Vw mX11_years (d + 80) 0 0 0 0 (ViQ Q) 0 [(0, .ref x), (1, .int s), (2, .int n)] [] S I L
  have hT := hC.p0.p0
  have hN := hs.tn
  have h8 := hN.1
  have h10 := hN.2.1
  have hK := hs.tr
  have hold : ∃ old, old < 16 ∧ I (x + 89) 2 = nI old := by obtain ⟨_, _, old, o1, o2, _⟩ := hH; exact ⟨old, o1, o2⟩
  refine Vw.iload_n (de_iload_1 (B 0 _ rfl)) 1 rfl (n := 1) rfl ?_
  refine Vw.iconst (v := 0) (de_iconst_0 (B 1 _ rfl)) rfl (n := 2) rfl ?_
  refine Vw.ldcw (de_ldc_w (B 2 _ rfl) (B 3 _ rfl) (B 4 _ rfl)) kc_X11_397 (n := 5) rfl ?_
  refine Vw.isi3 (mi' := mX11_isWithin) (de_invokestatic (B 5 _ rfl) (B 6 _ rfl) (B 7 _ rfl)) ml_X11_165 ms_X11_isWithin (Nat.le_of_ble_eq_true rfl) (n := 8) rfl (c_X11_isWithin ?_)
  refine Vw.if_eq (tgt := 21) (n := 11) (de_if_eq (B 8 _ rfl) (B 9 _ rfl) (B 10 _ rfl)) rfl rfl (fun c_8 => ?_) (fun c_8 => ?_)
  · refine Vw.aload_n (de_aload_0 (B 21 _ rfl)) 0 rfl (n := 22) rfl ?_
    refine Vw.iconst (v := -1) (de_iconst_m1 (B 22 _ rfl)) rfl (n := 23) rfl ?_
    refine Vw.ivi1 (mi' := mX11_refuse) (de_invokevirtual (B 23 _ rfl) (B 24 _ rfl) (B 25 _ rfl)) ml_X11_100 mv_X11_refuse hC.k (Nat.le_of_ble_eq_true rfl) (n := 26) rfl (c_X11_refuse (j := 1) hC rfl (by decide) ?_)
    exact Vw.iret (de_ireturn (B 26 _ rfl)) rfl ⟨_, rfl, (h1 (by first | exact Or.inl c_8 | exact Or.inr c_18))⟩
  refine Vw.iload_n (de_iload_2 (B 11 _ rfl)) 2 rfl (n := 12) rfl ?_
  refine Vw.iconst (v := 1) (de_iconst_1 (B 12 _ rfl)) rfl (n := 13) rfl ?_
  refine Vw.bipush (v := 80) (de_bipush (B 13 _ rfl) (B 14 _ rfl)) rfl (n := 15) rfl ?_
  refine Vw.isi3 (mi' := mX11_isWithin) (de_invokestatic (B 15 _ rfl) (B 16 _ rfl) (B 17 _ rfl)) ml_X11_165 ms_X11_isWithin (Nat.le_of_ble_eq_true rfl) (n := 18) rfl (c_X11_isWithin ?_)
  refine Vw.if_ne (tgt := 27) (n := 21) (de_if_ne (B 18 _ rfl) (B 19 _ rfl) (B 20 _ rfl)) rfl rfl (fun c_18 => ?_) (fun c_18 => ?_)
  · obtain ⟨sd, sd1, rfl⟩ := lie_big (N := 1000000) (by decide) c_8
    obtain ⟨m, m1, m2, rfl⟩ := lie_m (a := 1) (N := 80) (by decide) (by decide) c_18
    refine Vw.aload_n (de_aload_0 (B 27 _ rfl)) 0 rfl (n := 28) rfl ?_
    refine Vw.aload_n (de_aload_0 (B 28 _ rfl)) 0 rfl (n := 29) rfl ?_
    refine Vw.getR (de_getfield (B 29 _ rfl) (B 30 _ rfl) (B 31 _ rfl)) fl_X11_37 rfl hC.k hC.f3 (n := 32) rfl ?_
    refine Vw.iload_n (de_iload_1 (B 32 _ rfl)) 1 rfl (n := 33) rfl ?_
    refine Vw.iload_n (de_iload_2 (B 33 _ rfl)) 2 rfl (n := 34) rfl ?_
    refine Vw.ivi2 (mi' := mX4_drawYears) (de_invokevirtual (B 34 _ rfl) (B 35 _ rfl) (B 36 _ rfl)) ml_X11_398 mv_X4_drawYears hC.p3.k (Nat.le_of_ble_eq_true rfl) (n := 37) rfl (c_X4_drawYears (s := x + 1) hC.p3 hK hN hW (by omega) (by omega) (by omega) hs.fe (fun I2 M f2 _ e11 t2 => ?_))
    refine Vw.ivi1 (mi' := mX11_accept) (de_invokevirtual (B 37 _ rfl) (B 38 _ rfl) (B 39 _ rfl)) ml_X11_117 mv_X11_accept hC.k (Nat.le_of_ble_eq_true rfl) (n := 40) rfl (c_X11_accept hC ?_)
    exact Vw.iret (de_ireturn (B 40 _ rfl)) rfl ⟨_, rfl, (h sd m sd1 m1 m2 rfl rfl I2 M f2 e11 t2)⟩
  refine Vw.aload_n (de_aload_0 (B 21 _ rfl)) 0 rfl (n := 22) rfl ?_
  refine Vw.iconst (v := -1) (de_iconst_m1 (B 22 _ rfl)) rfl (n := 23) rfl ?_
  refine Vw.ivi1 (mi' := mX11_refuse) (de_invokevirtual (B 23 _ rfl) (B 24 _ rfl) (B 25 _ rfl)) ml_X11_100 mv_X11_refuse hC.k (Nat.le_of_ble_eq_true rfl) (n := 26) rfl (c_X11_refuse (j := 1) hC rfl (by decide) ?_)
  exact Vw.iret (de_ireturn (B 26 _ rfl)) rfl ⟨_, rfl, (h1 (by first | exact Or.inl c_8 | exact Or.inr c_18))⟩
theorem pr_years {S : vS} {I : vI} {L : vL} {x r lb : Nat} {s n : Int32} (hR : REL S I x r lb) : PR mX11_years mX12_years 0 0 [.int s, .int n] x r lb S I L := by
  intro d Q h
  obtain ⟨l, np, nc, ns, nl, hCP, hL, h32, hWd, hSP⟩ := hR
  have hR : REL S I x r lb := ⟨l, np, nc, ns, nl, hCP, hL, h32, hWd, hSP⟩
  have hs := hCP.1
  have hH := hCP.2.1
  have hN := hs.tn
  obtain ⟨hC, hM, hst, er, el, hl2⟩ := id hSP
  have h8 := hN.1
  have h10 := hN.2.1
  obtain ⟨W, wC, wD⟩ := hs.w
  obtain ⟨-, -, hold, hnn, hu, h13, h14, h15, h16, hrf, him, hy, nd, nd8, z54, hyr⟩ := id hCP
  refine k_years hC hs hH (by omega) wC (fun c1 => h _ S _ L (fun _ _ => rfl) (fun d2 Q2 g => ?_)) (fun sd m q1 q2 q3 q4 q5 I2 M f2 e11 t2 => h _ S _ M (fun _ _ => rfl) (fun d2 Q2 g => ?_))
  · have e0 : cRef I x (-1) 1 (r + 2) = I (r + 2) := cRef_o (by omega) (by omega)
    have e1 : cRef I x (-1) 1 r 32 = nI l.length := by rw [cRef_o (by omega) (by omega)]; exact h32
    exact c_X12_years (d := d2 + 13) (np := np) (nc := nc) (W := W) hM (by rw [e0]; exact wD) (by rw [e0]; exact hN) (fun _ => g _ _ (hR.ref (k := (-1)) (j := 1) (by decide)) (fun b hb => by rw [mRef_o (by omega) (by omega), cRef_o (by omega) (by omega)])) (fun s2 n2 _ a1 a2 a3 a4 a5 => absurd c1 (fun z => z.elim (fun z => absurd z (by rw [a4, zLie_iff, nI_ti (by omega)]; show (0 : Int) ≤ _ ∧ _ ≤ (1000000 : Int); omega)) (fun z => absurd z (by rw [a5, zLie_iff, nI_ti (by omega)]; show (1 : Int) ≤ _ ∧ _ ≤ (80 : Int); omega))))
  · have e0 : cAcc I2 x (r + 2) = I (r + 2) := by rw [cAcc_o (by omega)]; exact funext fun k => f2 _ k (by omega) (by omega) (by omega) (by omega)
    refine c_X12_years (d := d2 + 13) (np := np) (nc := nc) (W := W) hM (by rw [e0]; exact wD) (by rw [e0]; exact hN) (fun z => ?_) (fun s2 n2 J a1 a2 a3 a4 a5 fj kj j54 j56 jw jg => ?_)
    · exact absurd z (fun z => z.elim (fun z => absurd z (by rw [q4, zLie_iff, nI_ti (by omega)]; show (0 : Int) ≤ _ ∧ _ ≤ (1000000 : Int); omega)) (fun z => absurd z (by rw [q5, zLie_iff, nI_ti (by omega)]; show (1 : Int) ≤ _ ∧ _ ≤ (80 : Int); omega)))
    obtain rfl : s2 = sd := nI_inj (by omega) (by omega) (a4.symm.trans q4)
    obtain rfl : n2 = m := nI_inj (by omega) (by omega) (a5.symm.trans q5)
    rw [e0] at kj jw jg ⊢
    obtain ⟨y1, y2, y3⟩ := years_eq (W := W) (k := n2) hN (show s2 < 1000003 by omega)
    rw [← y1]
    have rowx : ∀ b, ¬ (r ≤ b ∧ b < r + 28) → mGood J r b = cAcc I2 x b := fun b q => by rw [mGood_o (by omega)]; exact funext fun k => fj b k (by omega) (by omega) (by omega) (by omega) (by omega) (by omega)
    have row : ∀ b, ¬ (r ≤ b ∧ b < r + 28) → b ≠ x → b ≠ x + 29 → b ≠ x + 30 → ¬ (x + 43 ≤ b ∧ b ≤ x + 65) → b ≠ x + 34 → mGood J r b = I b := fun b q1 q2 q3 q4 q5 q6 => by rw [rowx b q1, cAcc_o q2]; exact funext fun k => f2 b k (by omega) (by omega) (by omega) (by omega)
    have rowr : ∀ b, r < b → b < r + 28 → b ≠ r + 12 → b ≠ r + 2 → b ≠ r + 5 → b ≠ r + 26 → b ≠ r + 27 → mGood J r b = I b := fun b q1 q2 q3 q4 q5 q6 q7 => by rw [mGood_o (by omega)]; exact funext fun k => by rw [fj b k (by omega) (by omega) (by omega) (by omega) (by omega) (by omega), cAcc_o (by omega), f2 b k (by omega) (by omega) (by omega) (by omega)]
    have rk : ∀ k, k = 6 ∨ k = 11 ∨ k = 12 ∨ k = 43 ∨ k = 32 → mGood J r r k = I r k := fun k q => by rw [mGood_k (by omega), fj r k (by omega) (by omega) (by omega) (by omega) (by omega) (by omega), cAcc_o (by omega), f2 r k (by omega) (by omega) (by omega) (by omega)]
    have xk : ∀ k, k ≠ 16 → mGood J r x k = I x k := fun k q => by rw [rowx x (by omega)]; unfold cAcc; rw [up2_k q, f2 x k (by omega) (by omega) (by omega) (by omega)]
    have hst : STR S (mGood J r) (x + 1) lb (I (r + 2)) np nc ns nl := hs.of (fun b g1 g2 => row b (by omega) (by omega) (by omega) (by omega) (by omega) (by omega)) (fun b hb => row b (by omega) (by omega) (by omega) (by omega) (by omega) (by omega))
    refine g _ _ ⟨l, np, nc, ns, nl, ⟨?_, hH.of h8 (fun b g1 g2 => row b (by omega) (by omega) (by omega) (by omega) (by omega) (by omega)), ?_, ?_, fun j hj => ?_, ?_, ?_, ?_, ?_, fun j hj => ?_, fun k hk => ?_, ?_, np, h8, ?_, fun _ => ⟨?_, fun q hq => ?_, fun t ht => ?_⟩⟩, ?_, ?_, ?_, hSP⟩ (fun b hb => row b (by omega) (by omega) (by omega) (by omega) (by omega) (by omega))
    · rw [mGood_o (by omega), kj]; exact hst
    · rw [row (x + 460) (by omega) (by omega) (by omega) (by omega) (by omega) (by omega)]; exact hold
    · rw [rk _ (by omega), xk _ (by decide)]; exact hnn
    · rw [row (x + 856) (by omega) (by omega) (by omega) (by omega) (by omega) (by omega), rowr (r + 7) (by omega) (by omega) (by omega) (by omega) (by omega) (by omega) (by omega)]; exact hu j hj
    · rw [rk _ (by omega), xk _ (by decide)]; exact h13
    · rw [rk _ (by omega), xk _ (by decide)]; exact h14
    · rw [rk _ (by omega), xk _ (by decide)]; exact h15
    · rw [mGood_0, rowx x (by omega), cAcc_16]
    · rw [row (x + 857) (by omega) (by omega) (by omega) (by omega) (by omega) (by omega), rowr (r + 1) (by omega) (by omega) (by omega) (by omega) (by omega) (by omega) (by omega)]; exact hrf j hj
    · rw [row (x + 855) (by omega) (by omega) (by omega) (by omega) (by omega) (by omega), rowr (r + 4) (by omega) (by omega) (by omega) (by omega) (by omega) (by omega) (by omega), rowr (r + 3) (by omega) (by omega) (by omega) (by omega) (by omega) (by omega) (by omega)]
      refine ⟨(him k hk).1, fun q => ?_⟩
      obtain ⟨a, b, c, e, st⟩ := (him k hk).2 q
      exact ⟨a, b, c, e, st.of (fun b g1 g2 => row b (by omega) (by omega) (by omega) (by omega) (by omega) (by omega)) (fun b hb => row b (by omega) (by omega) (by omega) (by omega) (by omega) (by omega))⟩
    · rw [rowx (x + 34) (by omega), cAcc_o (by omega), mGood_k (by decide), e11, j56]
    · rw [mGood_k (by decide), j54]
    · rw [rowx (x + 43) (by omega), cAcc_o (by omega)]; exact t2.1
    · rw [rowx (x + 43 + 5 + q) (by omega), cAcc_o (by omega), mGood_o (by omega), jw q hq, ← y2 q hq]; exact t2.2.2.2.1 q 2 hq (by decide)
    · rw [rowx (x + 43 + 4) (by omega), cAcc_o (by omega), mGood_o (by omega), jg t ht, ← y3 t ht]; exact (t2.2.2.2.2.2 t ht).2
    · rw [rowr (r + 14) (by omega) (by omega) (by omega) (by omega) (by omega) (by omega) (by omega)]; exact hL
    · rw [rk _ (by omega)]; exact h32
    · rw [rowr (r + 6) (by omega) (by omega) (by omega) (by omega) (by omega) (by omega) (by omega)]; exact hWd
