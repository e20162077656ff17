/-! Rules -/
theorem ne_k {S : vS} {a b k1 k2 : Nat} (h1 : (S.1 a).1 = k1) (h2 : (S.1 b).1 = k2) (h : k1 ≠ k2) : a ≠ b := fun e => h (by rw [← h1, ← h2, e])
theorem ClR.of {I J : vI} {a i kl m : Nat} {c : tC} {cw : Nat → Nat × Nat} {nb : Int32} {dN : tD} (h : ClR I a i c cw kl m nb dN) (e : ∀ k, k < 8 → J (a + k) = I (a + k)) : ClR J a i c cw kl m nb dN := by
  obtain ⟨st, fe, se, te, q1, q2, q3, q4, q⟩ := h
  refine ⟨st, fe, se, te, ?_, ?_, ?_, ?_, ?_⟩
  · rw [e 3 (by decide)]; exact q1
  · rw [e 4 (by decide)]; exact q2
  · rw [e 5 (by decide)]; exact q3
  · rw [e 6 (by decide)]; exact q4
  · rw [e 2 (by decide)]; exact q
theorem ScR.of {I J : vI} {a kl m : Nat} {cs : List tC} {vb : Int32 → Int32} {nb : Int32} {dN : tD} (h : ScR I a cs vb kl m nb dN) (e : ∀ k, k < 8 → J (a + k) = I (a + k)) : ScR J a cs vb kl m nb dN := by
  obtain ⟨h1, h2, h3, cw, h4, h5⟩ := h
  refine ⟨?_, h2, h3, cw, ?_, fun i c hc => ⟨?_, (h5 i c hc).2.of e⟩⟩
  · have := e 0 (by decide); rw [Nat.add_zero] at this; rw [this]; exact h1
  · rw [e 7 (by decide)]; exact h4
  · rw [e 1 (by decide)]; exact (h5 i c hc).1
theorem WC.of {S : vS} {I J : vI} {s lb : Nat} {W : tW} (h : WC S I s lb W) (e1 : J s = I s) (e2 : ∀ b, lb ≤ b → J b = I b) : WC S J s lb W := by
  obtain ⟨h1, h2⟩ := h
  refine ⟨by rw [e1]; exact h1, ?_⟩
  rcases h2 with ⟨h3, h4⟩ | ⟨t, n, a, cs, m, hl, h3, h4, h5, h6, h7, h8, h9, h10⟩
  · exact Or.inl ⟨by rw [e1]; exact h3, h4⟩
  · exact Or.inr ⟨t, n, a, cs, m, hl, by rw [e1]; exact h3, h4, h5, by rw [e1]; exact h6, h7, h8, h9.of (fun k _ => e2 _ (by omega)), h10⟩
theorem c_X6_told {d : Nat} {S : vS} {I : vI} {L : vL} {Q : Int32 → vS → vI → vL → Prop} {u s lb : Nat} {vv hd lo hi wo : Int32} {nv : Nat → Int32} {W : tW} (hR : RulesS S u s) (hW : WC S I s lb W) (hN : ∀ x, x < 8 → nv x = I (u + 1) x) (hv : vv = vbL hd) (h5 : ¬ hd = 5) (hlh : lo.toInt ≤ hi.toInt) (h : ∀ M, Lev u L M → Q (tellsP W.1 hd lo hi wo nv) S I M) : Vc mX6_told (d + 1) 0 0 [.ref u, .int vv, .int wo, .int lo, .int hi] S I L (ViQ Q) :=
  c_X6_told_g hR hW hN hv (fun val sv c e1 e2 e3 e4 => by rw [e3 (by rw [e1]; exact h5)]; exact mm_clamp hlh) h
theorem c_X6_told_b {d : Nat} {S : vS} {I : vI} {L : vL} {Q : Int32 → vS → vI → vL → Prop} {u s lb : Nat} {nv : Nat → Int32} {W : tW} (hR : RulesS S u s) (hW : WC S I s lb W) (hN : ∀ x, x < 8 → nv x = I (u + 1) x) (h : ∀ M, Lev u L M → Q (tellsP W.1 5 0 1 0 nv) S I M) : Vc mX6_told (d + 1) 0 0 [.ref u, .int 4, .int 0, .int 1, .int 1] S I L (ViQ Q) :=
  c_X6_told_g (hd := 5) hR hW hN rfl (fun val sv c e1 e2 e3 e4 => by
    rw [e4 e1] at e2
    obtain rfl : 1 = sv := by cases e2; rfl
    have z : tClamp 0 1 1 = 1 := by decide
    rw [z]
    unfold lMin
    by_cases g : val < (1 : Int32).toInt64
    · rw [if_pos g, if_pos g]; decide
    · rw [if_neg g, if_neg (by decide)]; decide) h
theorem c_X6_setWordsOf {d : Nat} {S : vS} {I : vI} {L : vL} {Q : vS → vI → vL → Prop} {u s b : Nat} {q nw : Int32} (hR : RulesS S u s) (hb : (S.1 b).1 = 3) (h : ∀ I2, Oa (u + 1) I I2 → (∀ x, x < 8 → nvA q (I b 0) (I b 3) (I b 1) (I b 2) (-1) nw (I s 5) x = I2 (u + 1) x) → Q S I2 L) : Vc mX6_setWordsOf d 0 0 [.ref u, .ref b, .int q, .int nw] S I L (VvQ Q) := by
  refine Vc.of rfl (Nat.le_of_ble_eq_true rfl) ?_
  have B := bs_X6_setWordsOf
  show Vw mX6_setWordsOf d 0 0 0 0 (VvQ Q) 0 [(0, .ref u), (1, .ref b), (2, .int q), (3, .int nw)] [] S I L
  have nbu : b ≠ u + 1 := ne_k hb (show (S.1 (u + 1)).1 = 100 by rw [hR.r1]) (by decide)
  have nsu : s ≠ u + 1 := ne_k hR.p0.k (show (S.1 (u + 1)).1 = 100 by rw [hR.r1]) (by decide)
  have nuu : u ≠ u + 1 := by omega
  refine Vw.aload_n (de_aload_0 (B 0 _ rfl)) 0 rfl (n := 1) rfl ?_
  refine Vw.getR (de_getfield (B 1 _ rfl) (B 2 _ rfl) (B 3 _ rfl)) fl_X6_9 rfl hR.k hR.f1 (n := 4) rfl ?_
  refine Vw.iconst (v := 0) (de_iconst_0 (B 4 _ rfl)) rfl (n := 5) rfl ?_
  refine Vw.iload_n (de_iload_2 (B 5 _ rfl)) 2 rfl (n := 6) rfl ?_
  refine Vw.iast (de_iastore (B 6 _ rfl)) hR.r1 (j := 0) ⟨rfl, by decide, by decide⟩ (n := 7) rfl ?_
  refine Vw.aload_n (de_aload_0 (B 7 _ rfl)) 0 rfl (n := 8) rfl ?_
  refine Vw.getR (de_getfield (B 8 _ rfl) (B 9 _ rfl) (B 10 _ rfl)) fl_X6_9 rfl hR.k hR.f1 (n := 11) rfl ?_
  refine Vw.iconst (v := 1) (de_iconst_1 (B 11 _ rfl)) rfl (n := 12) rfl ?_
  refine Vw.aload_n (de_aload_1 (B 12 _ rfl)) 1 rfl (n := 13) rfl ?_
  refine Vw.getI (de_getfield (B 13 _ rfl) (B 14 _ rfl) (B 15 _ rfl)) fl_X6_27 rfl hb (n := 16) rfl ?_
  refine Vw.iast (de_iastore (B 16 _ rfl)) hR.r1 (j := 1) ⟨rfl, by decide, by decide⟩ (n := 17) rfl ?_
  refine Vw.aload_n (de_aload_0 (B 17 _ rfl)) 0 rfl (n := 18) rfl ?_
  refine Vw.getR (de_getfield (B 18 _ rfl) (B 19 _ rfl) (B 20 _ rfl)) fl_X6_9 rfl hR.k hR.f1 (n := 21) rfl ?_
  refine Vw.iconst (v := 2) (de_iconst_2 (B 21 _ rfl)) rfl (n := 22) rfl ?_
  refine Vw.aload_n (de_aload_1 (B 22 _ rfl)) 1 rfl (n := 23) rfl ?_
  refine Vw.getI (de_getfield (B 23 _ rfl) (B 24 _ rfl) (B 25 _ rfl)) fl_X6_37 rfl hb (n := 26) rfl ?_
  refine Vw.iast (de_iastore (B 26 _ rfl)) hR.r1 (j := 2) ⟨rfl, by decide, by decide⟩ (n := 27) rfl ?_
  refine Vw.aload_n (de_aload_0 (B 27 _ rfl)) 0 rfl (n := 28) rfl ?_
  refine Vw.getR (de_getfield (B 28 _ rfl) (B 29 _ rfl) (B 30 _ rfl)) fl_X6_9 rfl hR.k hR.f1 (n := 31) rfl ?_
  refine Vw.iconst (v := 3) (de_iconst_3 (B 31 _ rfl)) rfl (n := 32) rfl ?_
  refine Vw.aload_n (de_aload_1 (B 32 _ rfl)) 1 rfl (n := 33) rfl ?_
  refine Vw.getI (de_getfield (B 33 _ rfl) (B 34 _ rfl) (B 35 _ rfl)) fl_X6_40 rfl hb (n := 36) rfl ?_
  refine Vw.iast (de_iastore (B 36 _ rfl)) hR.r1 (j := 3) ⟨rfl, by decide, by decide⟩ (n := 37) rfl ?_
  refine Vw.aload_n (de_aload_0 (B 37 _ rfl)) 0 rfl (n := 38) rfl ?_
  refine Vw.getR (de_getfield (B 38 _ rfl) (B 39 _ rfl) (B 40 _ rfl)) fl_X6_9 rfl hR.k hR.f1 (n := 41) rfl ?_
  refine Vw.iconst (v := 4) (de_iconst_4 (B 41 _ rfl)) rfl (n := 42) rfl ?_
  refine Vw.aload_n (de_aload_1 (B 42 _ rfl)) 1 rfl (n := 43) rfl ?_
  refine Vw.getI (de_getfield (B 43 _ rfl) (B 44 _ rfl) (B 45 _ rfl)) fl_X6_47 rfl hb (n := 46) rfl ?_
  refine Vw.iast (de_iastore (B 46 _ rfl)) hR.r1 (j := 4) ⟨rfl, by decide, by decide⟩ (n := 47) rfl ?_
  refine Vw.aload_n (de_aload_0 (B 47 _ rfl)) 0 rfl (n := 48) rfl ?_
  refine Vw.getR (de_getfield (B 48 _ rfl) (B 49 _ rfl) (B 50 _ rfl)) fl_X6_9 rfl hR.k hR.f1 (n := 51) rfl ?_
  refine Vw.iconst (v := 5) (de_iconst_5 (B 51 _ rfl)) rfl (n := 52) rfl ?_
  refine Vw.iconst (v := -1) (de_iconst_m1 (B 52 _ rfl)) rfl (n := 53) rfl ?_
  refine Vw.iast (de_iastore (B 53 _ rfl)) hR.r1 (j := 5) ⟨rfl, by decide, by decide⟩ (n := 54) rfl ?_
  refine Vw.aload_n (de_aload_0 (B 54 _ rfl)) 0 rfl (n := 55) rfl ?_
  refine Vw.getR (de_getfield (B 55 _ rfl) (B 56 _ rfl) (B 57 _ rfl)) fl_X6_9 rfl hR.k hR.f1 (n := 58) rfl ?_
  refine Vw.bipush (v := 6) (de_bipush (B 58 _ rfl) (B 59 _ rfl)) rfl (n := 60) rfl ?_
  refine Vw.iload_n (de_iload_3 (B 60 _ rfl)) 3 rfl (n := 61) rfl ?_
  refine Vw.iconst (v := 4) (de_iconst_4 (B 61 _ rfl)) rfl (n := 62) rfl ?_
  refine Vw.irem (de_irem (B 62 _ rfl)) (by decide) (n := 63) rfl ?_
  refine Vw.iast (de_iastore (B 63 _ rfl)) hR.r1 (j := 6) ⟨rfl, by decide, by decide⟩ (n := 64) rfl ?_
  refine Vw.aload_n (de_aload_0 (B 64 _ rfl)) 0 rfl (n := 65) rfl ?_
  refine Vw.getR (de_getfield (B 65 _ rfl) (B 66 _ rfl) (B 67 _ rfl)) fl_X6_9 rfl hR.k hR.f1 (n := 68) rfl ?_
  refine Vw.bipush (v := 7) (de_bipush (B 68 _ rfl) (B 69 _ rfl)) rfl (n := 70) rfl ?_
  refine Vw.aload_n (de_aload_0 (B 70 _ rfl)) 0 rfl (n := 71) rfl ?_
  refine Vw.getR (de_getfield (B 71 _ rfl) (B 72 _ rfl) (B 73 _ rfl)) fl_X6_19 rfl hR.k hR.f0 (n := 74) rfl ?_
  refine Vw.getI (de_getfield (B 74 _ rfl) (B 75 _ rfl) (B 76 _ rfl)) fl_X6_68 rfl hR.p0.k (n := 77) rfl ?_
  refine Vw.iast (de_iastore (B 77 _ rfl)) hR.r1 (j := 7) ⟨rfl, by decide, by decide⟩ (n := 78) rfl ?_
  exact Vw.vret (de_return_ (B 78 _ rfl)) rfl ⟨rfl, (h _ ((((((((Oa.rfl.up).up).up).up).up).up).up).up) (fun x hx => by rcases (show x = 0 ∨ x = 1 ∨ x = 2 ∨ x = 3 ∨ x = 4 ∨ x = 5 ∨ x = 6 ∨ x = 7 by omega) with rfl | rfl | rfl | rfl | rfl | rfl | rfl | rfl <;> (simp (disch := first | exact nbu | exact nsu | exact nuu | omega) only [up2_s, up2_k, up2_a] <;> rfl)))⟩
theorem c_X6_setWordsOfCoat {d : Nat} {S : vS} {I : vI} {L : vL} {Q : vS → vI → vL → Prop} {u s b : Nat} {q nw : Int32} (hR : RulesS S u s) (hb : (S.1 b).1 = 3) (h : ∀ I2, Oa (u + 1) I I2 → (∀ x, x < 8 → nvA q (I b 0) (I b 3) (I u 5) (I u 6) (I u 4) nw (I s 5) x = I2 (u + 1) x) → Q S I2 L) : Vc mX6_setWordsOfCoat (d + 1) 0 0 [.ref u, .ref b, .int q, .int nw] S I L (VvQ Q) := by
  refine Vc.of rfl (Nat.le_of_ble_eq_true rfl) ?_
  have B := bs_X6_setWordsOfCoat
  show Vw mX6_setWordsOfCoat (d + 1) 0 0 0 0 (VvQ Q) 0 [(0, .ref u), (1, .ref b), (2, .int q), (3, .int nw)] [] S I L
  have nbu : b ≠ u + 1 := ne_k hb (show (S.1 (u + 1)).1 = 100 by rw [hR.r1]) (by decide)
  have nsu : s ≠ u + 1 := ne_k hR.p0.k (show (S.1 (u + 1)).1 = 100 by rw [hR.r1]) (by decide)
  have nuu : u ≠ u + 1 := by omega
  refine Vw.aload_n (de_aload_0 (B 0 _ rfl)) 0 rfl (n := 1) rfl ?_
  refine Vw.aload_n (de_aload_1 (B 1 _ rfl)) 1 rfl (n := 2) rfl ?_
  refine Vw.iload_n (de_iload_2 (B 2 _ rfl)) 2 rfl (n := 3) rfl ?_
  refine Vw.iload_n (de_iload_3 (B 3 _ rfl)) 3 rfl (n := 4) rfl ?_
  refine Vw.ivv3 (mi' := mX6_setWordsOf) (de_invokevirtual (B 4 _ rfl) (B 5 _ rfl) (B 6 _ rfl)) ml_X6_23 mv_X6_setWordsOf hR.k (Nat.le_of_ble_eq_true rfl) (n := 7) rfl (c_X6_setWordsOf hR hb (fun I2 f2 e2 => ?_))
  refine Vw.aload_n (de_aload_0 (B 7 _ rfl)) 0 rfl (n := 8) rfl ?_
  refine Vw.getR (de_getfield (B 8 _ rfl) (B 9 _ rfl) (B 10 _ rfl)) fl_X6_9 rfl hR.k hR.f1 (n := 11) rfl ?_
  refine Vw.iconst (v := 3) (de_iconst_3 (B 11 _ rfl)) rfl (n := 12) rfl ?_
  refine Vw.aload_n (de_aload_0 (B 12 _ rfl)) 0 rfl (n := 13) rfl ?_
  refine Vw.getI (de_getfield (B 13 _ rfl) (B 14 _ rfl) (B 15 _ rfl)) fl_X6_59 rfl hR.k (n := 16) rfl ?_
  refine Vw.iast (de_iastore (B 16 _ rfl)) hR.r1 (j := 3) ⟨rfl, by decide, by decide⟩ (n := 17) rfl ?_
  refine Vw.aload_n (de_aload_0 (B 17 _ rfl)) 0 rfl (n := 18) rfl ?_
  refine Vw.getR (de_getfield (B 18 _ rfl) (B 19 _ rfl) (B 20 _ rfl)) fl_X6_9 rfl hR.k hR.f1 (n := 21) rfl ?_
  refine Vw.iconst (v := 4) (de_iconst_4 (B 21 _ rfl)) rfl (n := 22) rfl ?_
  refine Vw.aload_n (de_aload_0 (B 22 _ rfl)) 0 rfl (n := 23) rfl ?_
  refine Vw.getI (de_getfield (B 23 _ rfl) (B 24 _ rfl) (B 25 _ rfl)) fl_X6_62 rfl hR.k (n := 26) rfl ?_
  refine Vw.iast (de_iastore (B 26 _ rfl)) hR.r1 (j := 4) ⟨rfl, by decide, by decide⟩ (n := 27) rfl ?_
  refine Vw.aload_n (de_aload_0 (B 27 _ rfl)) 0 rfl (n := 28) rfl ?_
  refine Vw.getR (de_getfield (B 28 _ rfl) (B 29 _ rfl) (B 30 _ rfl)) fl_X6_9 rfl hR.k hR.f1 (n := 31) rfl ?_
  refine Vw.iconst (v := 5) (de_iconst_5 (B 31 _ rfl)) rfl (n := 32) rfl ?_
  refine Vw.aload_n (de_aload_0 (B 32 _ rfl)) 0 rfl (n := 33) rfl ?_
  refine Vw.getI (de_getfield (B 33 _ rfl) (B 34 _ rfl) (B 35 _ rfl)) fl_X6_56 rfl hR.k (n := 36) rfl ?_
  refine Vw.iast (de_iastore (B 36 _ rfl)) hR.r1 (j := 5) ⟨rfl, by decide, by decide⟩ (n := 37) rfl ?_
  exact Vw.vret (de_return_ (B 37 _ rfl)) rfl ⟨rfl, (h _ (((f2.up).up).up) (fun x hx => by rcases (show x = 0 ∨ x = 1 ∨ x = 2 ∨ x = 3 ∨ x = 4 ∨ x = 5 ∨ x = 6 ∨ x = 7 by omega) with rfl | rfl | rfl | rfl | rfl | rfl | rfl | rfl <;> (simp (disch := first | exact nbu | exact nsu | exact nuu | omega) only [up2_s, up2_k, up2_a]) <;> first | exact e2 0 (by decide) | exact e2 1 (by decide) | exact e2 2 (by decide) | exact e2 6 (by decide) | exact e2 7 (by decide) | (rw [f2 u nuu]; rfl)))⟩
theorem c_X6_lookAtCoat {d : Nat} {S : vS} {I : vI} {L : vL} {Q : vS → vI → vL → Prop} {u s : Nat} {t l w : Int32} (hR : RulesS S u s) (h : ∀ I2, Oa u I I2 → I2 u 4 = t → I2 u 5 = l → I2 u 6 = w → Q S I2 L) : Vc mX6_lookAtCoat d 0 0 [.ref u, .int t, .int l, .int w] S I L (VvQ Q) := by
  refine Vc.of rfl (Nat.le_of_ble_eq_true rfl) ?_
  have B := bs_X6_lookAtCoat
  show Vw mX6_lookAtCoat d 0 0 0 0 (VvQ Q) 0 [(0, .ref u), (1, .int t), (2, .int l), (3, .int w)] [] S I L
  refine Vw.aload_n (de_aload_0 (B 0 _ rfl)) 0 rfl (n := 1) rfl ?_
  refine Vw.iload_n (de_iload_1 (B 1 _ rfl)) 1 rfl (n := 2) rfl ?_
  refine Vw.putI (de_putfield (B 2 _ rfl) (B 3 _ rfl) (B 4 _ rfl)) fl_X6_56 hR.k rfl rfl (n := 5) rfl ?_
  refine Vw.aload_n (de_aload_0 (B 5 _ rfl)) 0 rfl (n := 6) rfl ?_
  refine Vw.iload_n (de_iload_2 (B 6 _ rfl)) 2 rfl (n := 7) rfl ?_
  refine Vw.putI (de_putfield (B 7 _ rfl) (B 8 _ rfl) (B 9 _ rfl)) fl_X6_59 hR.k rfl rfl (n := 10) rfl ?_
  refine Vw.aload_n (de_aload_0 (B 10 _ rfl)) 0 rfl (n := 11) rfl ?_
  refine Vw.iload_n (de_iload_3 (B 11 _ rfl)) 3 rfl (n := 12) rfl ?_
  refine Vw.putI (de_putfield (B 12 _ rfl) (B 13 _ rfl) (B 14 _ rfl)) fl_X6_62 hR.k rfl rfl (n := 15) rfl ?_
  exact Vw.vret (de_return_ (B 15 _ rfl)) rfl ⟨rfl, (h _ (((Oa.rfl.up).up).up) (by simp (disch := omega) only [up2_s, up2_k, up2_a]) (by simp (disch := omega) only [up2_s, up2_k, up2_a]) (by simp (disch := omega) only [up2_s, up2_k, up2_a]))⟩
theorem c_X6_growthOf {d : Nat} {S : vS} {I : vI} {L : vL} {Q : Int32 → vS → vI → vL → Prop} {u s b lb : Nat} {q nw : Int32} {W : tW} (hR : RulesS S u s) (hb : (S.1 b).1 = 3) (hW : WC S I s lb W) (hlb : u + 2 ≤ lb) (h : ∀ I2 M, Oa (u + 1) I I2 → Lev u L M → Q (growP W q nw (perA I b)) S I2 M) : Vc mX6_growthOf (d + 2) 0 0 [.ref u, .ref b, .int q, .int nw] S I L (ViQ Q) := by
  refine Vc.of rfl (Nat.le_of_ble_eq_true rfl) ?_
  have B := bs_X6_growthOf
  show Vw mX6_growthOf (d + 2) 0 0 0 0 (ViQ Q) 0 [(0, .ref u), (1, .ref b), (2, .int q), (3, .int nw)] [] S I L
  have nbu : b ≠ u + 1 := ne_k hb (show (S.1 (u + 1)).1 = 100 by rw [hR.r1]) (by decide)
  have nsu : s ≠ u + 1 := ne_k hR.p0.k (show (S.1 (u + 1)).1 = 100 by rw [hR.r1]) (by decide)
  have nuu : u ≠ u + 1 := by omega
  refine Vw.aload_n (de_aload_0 (B 0 _ rfl)) 0 rfl (n := 1) rfl ?_
  refine Vw.aload_n (de_aload_1 (B 1 _ rfl)) 1 rfl (n := 2) rfl ?_
  refine Vw.iload_n (de_iload_2 (B 2 _ rfl)) 2 rfl (n := 3) rfl ?_
  refine Vw.iload_n (de_iload_3 (B 3 _ rfl)) 3 rfl (n := 4) rfl ?_
  refine Vw.ivv3 (mi' := mX6_setWordsOf) (de_invokevirtual (B 4 _ rfl) (B 5 _ rfl) (B 6 _ rfl)) ml_X6_23 mv_X6_setWordsOf hR.k (Nat.le_of_ble_eq_true rfl) (n := 7) rfl (c_X6_setWordsOf hR hb (fun I2 f2 e2 => ?_))
  have hW2 : WC S I2 s lb W := (hW.of (f2 s nsu) (fun c hc => f2 c (by omega)))
  have mo : I s 5 = W.2 := hW.1
  rw [mo] at e2
  refine Vw.aload_n (de_aload_0 (B 7 _ rfl)) 0 rfl (n := 8) rfl ?_
  refine Vw.iconst (v := 0) (de_iconst_0 (B 8 _ rfl)) rfl (n := 9) rfl ?_
  refine Vw.aload_n (de_aload_1 (B 9 _ rfl)) 1 rfl (n := 10) rfl ?_
  refine Vw.getI (de_getfield (B 10 _ rfl) (B 11 _ rfl) (B 12 _ rfl)) fl_X6_27 rfl hb (n := 13) rfl ?_
  rw [f2 b nbu]
  refine Vw.bipush (v := 64) (de_bipush (B 13 _ rfl) (B 14 _ rfl)) rfl (n := 15) rfl ?_
  refine Vw.icmp_ge (tgt := 22) (n := 18) (de_icmp_ge (B 15 _ rfl) (B 16 _ rfl) (B 17 _ rfl)) rfl rfl (fun c_15 => ?_) (fun c_15 => ?_)
  · refine Vw.iconst (v := 0) (de_iconst_0 (B 22 _ rfl)) rfl (n := 23) rfl ?_
    refine Vw.iconst (v := 0) (de_iconst_0 (B 23 _ rfl)) rfl (n := 24) rfl ?_
    refine Vw.bipush (v := 9) (de_bipush (B 24 _ rfl) (B 25 _ rfl)) rfl (n := 26) rfl ?_
    refine Vw.ivi4 (mi' := mX6_told) (de_invokevirtual (B 26 _ rfl) (B 27 _ rfl) (B 28 _ rfl)) ml_X6_33 mv_X6_told hR.k (Nat.le_of_ble_eq_true rfl) (n := 29) rfl (c_X6_told (hd := 1) hR hW2 e2 rfl (by decide) (by decide) (fun M m2 => ?_))
    exact Vw.iret (de_ireturn (B 29 _ rfl)) rfl ⟨_, rfl, (by have e := h I2 M f2 m2; first | exact qv (growP_0 (P := perA I b) (Int32.not_lt.mpr c_15)) e | exact qv (growP_1 (P := perA I b) (Int32.not_le.mp c_15)) e)⟩
  refine Vw.iconst (v := 1) (de_iconst_1 (B 18 _ rfl)) rfl (n := 19) rfl ?_
  refine Vw.goto_ (n := 23) (de_goto_ (B 19 _ rfl) (B 20 _ rfl) (B 21 _ rfl)) rfl ?_
  refine Vw.iconst (v := 0) (de_iconst_0 (B 23 _ rfl)) rfl (n := 24) rfl ?_
  refine Vw.bipush (v := 9) (de_bipush (B 24 _ rfl) (B 25 _ rfl)) rfl (n := 26) rfl ?_
  refine Vw.ivi4 (mi' := mX6_told) (de_invokevirtual (B 26 _ rfl) (B 27 _ rfl) (B 28 _ rfl)) ml_X6_33 mv_X6_told hR.k (Nat.le_of_ble_eq_true rfl) (n := 29) rfl (c_X6_told (hd := 1) hR hW2 e2 rfl (by decide) (by decide) (fun M m2 => ?_))
  exact Vw.iret (de_ireturn (B 29 _ rfl)) rfl ⟨_, rfl, (by have e := h I2 M f2 m2; first | exact qv (growP_0 (P := perA I b) (Int32.not_lt.mpr c_15)) e | exact qv (growP_1 (P := perA I b) (Int32.not_le.mp c_15)) e)⟩
theorem c_X6_wideningOf {d : Nat} {S : vS} {I : vI} {L : vL} {Q : Int32 → vS → vI → vL → Prop} {u s b lb : Nat} {q nw : Int32} {W : tW} (hR : RulesS S u s) (hb : (S.1 b).1 = 3) (hW : WC S I s lb W) (hlb : u + 2 ≤ lb) (h : ∀ I2 M, Oa (u + 1) I I2 → Lev u L M → Q (widenP W q nw (perA I b)) S I2 M) : Vc mX6_wideningOf (d + 2) 0 0 [.ref u, .ref b, .int q, .int nw] S I L (ViQ Q) := by
  refine Vc.of rfl (Nat.le_of_ble_eq_true rfl) ?_
  have B := bs_X6_wideningOf
  show Vw mX6_wideningOf (d + 2) 0 0 0 0 (ViQ Q) 0 [(0, .ref u), (1, .ref b), (2, .int q), (3, .int nw)] [] S I L
  have nbu : b ≠ u + 1 := ne_k hb (show (S.1 (u + 1)).1 = 100 by rw [hR.r1]) (by decide)
  have nsu : s ≠ u + 1 := ne_k hR.p0.k (show (S.1 (u + 1)).1 = 100 by rw [hR.r1]) (by decide)
  have nuu : u ≠ u + 1 := by omega
  refine Vw.aload_n (de_aload_0 (B 0 _ rfl)) 0 rfl (n := 1) rfl ?_
  refine Vw.aload_n (de_aload_1 (B 1 _ rfl)) 1 rfl (n := 2) rfl ?_
  refine Vw.iload_n (de_iload_2 (B 2 _ rfl)) 2 rfl (n := 3) rfl ?_
  refine Vw.iload_n (de_iload_3 (B 3 _ rfl)) 3 rfl (n := 4) rfl ?_
  refine Vw.ivv3 (mi' := mX6_setWordsOf) (de_invokevirtual (B 4 _ rfl) (B 5 _ rfl) (B 6 _ rfl)) ml_X6_23 mv_X6_setWordsOf hR.k (Nat.le_of_ble_eq_true rfl) (n := 7) rfl (c_X6_setWordsOf hR hb (fun I2 f2 e2 => ?_))
  have hW2 : WC S I2 s lb W := (hW.of (f2 s nsu) (fun c hc => f2 c (by omega)))
  have mo : I s 5 = W.2 := hW.1
  rw [mo] at e2
  refine Vw.aload_n (de_aload_0 (B 7 _ rfl)) 0 rfl (n := 8) rfl ?_
  refine Vw.iconst (v := 1) (de_iconst_1 (B 8 _ rfl)) rfl (n := 9) rfl ?_
  refine Vw.aload_n (de_aload_1 (B 9 _ rfl)) 1 rfl (n := 10) rfl ?_
  refine Vw.getI (de_getfield (B 10 _ rfl) (B 11 _ rfl) (B 12 _ rfl)) fl_X6_37 rfl hb (n := 13) rfl ?_
  rw [f2 b nbu]
  refine Vw.bipush (v := -9) (de_bipush (B 13 _ rfl) (B 14 _ rfl)) rfl (n := 15) rfl ?_
  refine Vw.bipush (v := 9) (de_bipush (B 15 _ rfl) (B 16 _ rfl)) rfl (n := 17) rfl ?_
  refine Vw.ivi4 (mi' := mX6_told) (de_invokevirtual (B 17 _ rfl) (B 18 _ rfl) (B 19 _ rfl)) ml_X6_33 mv_X6_told hR.k (Nat.le_of_ble_eq_true rfl) (n := 20) rfl (c_X6_told (hd := 2) hR hW2 e2 rfl (by decide) (by decide) (fun M m2 => ?_))
  exact Vw.iret (de_ireturn (B 20 _ rfl)) rfl ⟨_, rfl, (h I2 M f2 m2)⟩
theorem c_X6_clothFor {d : Nat} {S : vS} {I : vI} {L : vL} {Q : Int32 → vS → vI → vL → Prop} {u s b lb : Nat} {q nw : Int32} {W : tW} (hR : RulesS S u s) (hb : (S.1 b).1 = 3) (hW : WC S I s lb W) (hlb : u + 2 ≤ lb) (h : ∀ I2 M, Oa (u + 1) I I2 → Lev u L M → Q (clothP W q (I u 4) (I u 5) (I u 6) nw (perA I b)) S I2 M) : Vc mX6_clothFor (d + 2) 0 0 [.ref u, .ref b, .int q, .int nw] S I L (ViQ Q) := by
  refine Vc.of rfl (Nat.le_of_ble_eq_true rfl) ?_
  have B := bs_X6_clothFor
  show Vw mX6_clothFor (d + 2) 0 0 0 0 (ViQ Q) 0 [(0, .ref u), (1, .ref b), (2, .int q), (3, .int nw)] [] S I L
  have nbu : b ≠ u + 1 := ne_k hb (show (S.1 (u + 1)).1 = 100 by rw [hR.r1]) (by decide)
  have nsu : s ≠ u + 1 := ne_k hR.p0.k (show (S.1 (u + 1)).1 = 100 by rw [hR.r1]) (by decide)
  have nuu : u ≠ u + 1 := by omega
  refine Vw.aload_n (de_aload_0 (B 0 _ rfl)) 0 rfl (n := 1) rfl ?_
  refine Vw.aload_n (de_aload_1 (B 1 _ rfl)) 1 rfl (n := 2) rfl ?_
  refine Vw.iload_n (de_iload_2 (B 2 _ rfl)) 2 rfl (n := 3) rfl ?_
  refine Vw.iload_n (de_iload_3 (B 3 _ rfl)) 3 rfl (n := 4) rfl ?_
  refine Vw.ivv3 (mi' := mX6_setWordsOfCoat) (de_invokevirtual (B 4 _ rfl) (B 5 _ rfl) (B 6 _ rfl)) ml_X6_65 mv_X6_setWordsOfCoat hR.k (Nat.le_of_ble_eq_true rfl) (n := 7) rfl (c_X6_setWordsOfCoat hR hb (fun I2 f2 e2 => ?_))
  have hW2 : WC S I2 s lb W := (hW.of (f2 s nsu) (fun c hc => f2 c (by omega)))
  have mo : I s 5 = W.2 := hW.1
  rw [mo] at e2
  refine Vw.aload_n (de_aload_0 (B 7 _ rfl)) 0 rfl (n := 8) rfl ?_
  refine Vw.iconst (v := 2) (de_iconst_2 (B 8 _ rfl)) rfl (n := 9) rfl ?_
  refine Vw.aload_n (de_aload_0 (B 9 _ rfl)) 0 rfl (n := 10) rfl ?_
  refine Vw.getI (de_getfield (B 10 _ rfl) (B 11 _ rfl) (B 12 _ rfl)) fl_X6_59 rfl hR.k (n := 13) rfl ?_
  rw [f2 u nuu]
  refine Vw.aload_n (de_aload_0 (B 13 _ rfl)) 0 rfl (n := 14) rfl ?_
  refine Vw.getI (de_getfield (B 14 _ rfl) (B 15 _ rfl) (B 16 _ rfl)) fl_X6_62 rfl hR.k (n := 17) rfl ?_
  rw [f2 u nuu]
  refine Vw.imul (de_imul (B 17 _ rfl)) (n := 18) rfl ?_
  refine Vw.bipush (v := 50) (de_bipush (B 18 _ rfl) (B 19 _ rfl)) rfl (n := 20) rfl ?_
  refine Vw.idiv (de_idiv (B 20 _ rfl)) (by decide) (n := 21) rfl ?_
  refine Vw.iconst (v := 0) (de_iconst_0 (B 21 _ rfl)) rfl (n := 22) rfl ?_
  refine Vw.sipush (v := 999) (de_sipush (B 22 _ rfl) (B 23 _ rfl) (B 24 _ rfl)) rfl (n := 25) rfl ?_
  refine Vw.ivi4 (mi' := mX6_told) (de_invokevirtual (B 25 _ rfl) (B 26 _ rfl) (B 27 _ rfl)) ml_X6_33 mv_X6_told hR.k (Nat.le_of_ble_eq_true rfl) (n := 28) rfl (c_X6_told (hd := 3) hR hW2 e2 rfl (by decide) (by decide) (fun M m2 => ?_))
  exact Vw.iret (de_ireturn (B 28 _ rfl)) rfl ⟨_, rfl, (h I2 M f2 m2)⟩
theorem c_X6_payBy {d : Nat} {S : vS} {I : vI} {L : vL} {Q : Int32 → vS → vI → vL → Prop} {u s b lb : Nat} {q nw : Int32} {W : tW} (hR : RulesS S u s) (hb : (S.1 b).1 = 3) (hW : WC S I s lb W) (hlb : u + 2 ≤ lb) (h : ∀ I2 M, Oa (u + 1) I I2 → Lev u L M → Q (payP W q (I u 4) (I u 5) (I u 6) nw (perA I b)) S I2 M) : Vc mX6_payBy (d + 2) 0 0 [.ref u, .ref b, .int q, .int nw] S I L (ViQ Q) := by
  refine Vc.of rfl (Nat.le_of_ble_eq_true rfl) ?_
  have B := bs_X6_payBy
  show Vw mX6_payBy (d + 2) 0 0 0 0 (ViQ Q) 0 [(0, .ref u), (1, .ref b), (2, .int q), (3, .int nw)] [] S I L
  have nbu : b ≠ u + 1 := ne_k hb (show (S.1 (u + 1)).1 = 100 by rw [hR.r1]) (by decide)
  have nsu : s ≠ u + 1 := ne_k hR.p0.k (show (S.1 (u + 1)).1 = 100 by rw [hR.r1]) (by decide)
  have nuu : u ≠ u + 1 := by omega
  refine Vw.aload_n (de_aload_0 (B 0 _ rfl)) 0 rfl (n := 1) rfl ?_
  refine Vw.aload_n (de_aload_1 (B 1 _ rfl)) 1 rfl (n := 2) rfl ?_
  refine Vw.iload_n (de_iload_2 (B 2 _ rfl)) 2 rfl (n := 3) rfl ?_
  refine Vw.iload_n (de_iload_3 (B 3 _ rfl)) 3 rfl (n := 4) rfl ?_
  refine Vw.ivv3 (mi' := mX6_setWordsOfCoat) (de_invokevirtual (B 4 _ rfl) (B 5 _ rfl) (B 6 _ rfl)) ml_X6_65 mv_X6_setWordsOfCoat hR.k (Nat.le_of_ble_eq_true rfl) (n := 7) rfl (c_X6_setWordsOfCoat hR hb (fun I2 f2 e2 => ?_))
  have hW2 : WC S I2 s lb W := (hW.of (f2 s nsu) (fun c hc => f2 c (by omega)))
  have mo : I s 5 = W.2 := hW.1
  rw [mo] at e2
  refine Vw.aload_n (de_aload_0 (B 7 _ rfl)) 0 rfl (n := 8) rfl ?_
  refine Vw.iconst (v := 3) (de_iconst_3 (B 8 _ rfl)) rfl (n := 9) rfl ?_
  refine Vw.bipush (v := 20) (de_bipush (B 9 _ rfl) (B 10 _ rfl)) rfl (n := 11) rfl ?_
  refine Vw.iconst (v := 0) (de_iconst_0 (B 11 _ rfl)) rfl (n := 12) rfl ?_
  refine Vw.sipush (v := 999) (de_sipush (B 12 _ rfl) (B 13 _ rfl) (B 14 _ rfl)) rfl (n := 15) rfl ?_
  refine Vw.ivi4 (mi' := mX6_told) (de_invokevirtual (B 15 _ rfl) (B 16 _ rfl) (B 17 _ rfl)) ml_X6_33 mv_X6_told hR.k (Nat.le_of_ble_eq_true rfl) (n := 18) rfl (c_X6_told (hd := 4) hR hW2 e2 rfl (by decide) (by decide) (fun M m2 => ?_))
  exact Vw.iret (de_ireturn (B 18 _ rfl)) rfl ⟨_, rfl, (h I2 M f2 m2)⟩
theorem c_X6_isBarred {d : Nat} {S : vS} {I : vI} {L : vL} {Q : Int32 → vS → vI → vL → Prop} {u s b lb : Nat} {q nw : Int32} {W : tW} (hR : RulesS S u s) (hb : (S.1 b).1 = 3) (hW : WC S I s lb W) (hlb : u + 2 ≤ lb) (h : ∀ I2 M, Oa (u + 1) I I2 → Lev u L M → Q (barP W q (I u 4) (I u 5) (I u 6) nw (perA I b)) S I2 M) : Vc mX6_isBarred (d + 2) 0 0 [.ref u, .ref b, .int q, .int nw] S I L (ViQ Q) := by
  refine Vc.of rfl (Nat.le_of_ble_eq_true rfl) ?_
  have B := bs_X6_isBarred
  show Vw mX6_isBarred (d + 2) 0 0 0 0 (ViQ Q) 0 [(0, .ref u), (1, .ref b), (2, .int q), (3, .int nw)] [] S I L
  have nbu : b ≠ u + 1 := ne_k hb (show (S.1 (u + 1)).1 = 100 by rw [hR.r1]) (by decide)
  have nsu : s ≠ u + 1 := ne_k hR.p0.k (show (S.1 (u + 1)).1 = 100 by rw [hR.r1]) (by decide)
  have nuu : u ≠ u + 1 := by omega
  refine Vw.aload_n (de_aload_0 (B 0 _ rfl)) 0 rfl (n := 1) rfl ?_
  refine Vw.aload_n (de_aload_1 (B 1 _ rfl)) 1 rfl (n := 2) rfl ?_
  refine Vw.iload_n (de_iload_2 (B 2 _ rfl)) 2 rfl (n := 3) rfl ?_
  refine Vw.iload_n (de_iload_3 (B 3 _ rfl)) 3 rfl (n := 4) rfl ?_
  refine Vw.ivv3 (mi' := mX6_setWordsOfCoat) (de_invokevirtual (B 4 _ rfl) (B 5 _ rfl) (B 6 _ rfl)) ml_X6_65 mv_X6_setWordsOfCoat hR.k (Nat.le_of_ble_eq_true rfl) (n := 7) rfl (c_X6_setWordsOfCoat hR hb (fun I2 f2 e2 => ?_))
  have hW2 : WC S I2 s lb W := (hW.of (f2 s nsu) (fun c hc => f2 c (by omega)))
  have mo : I s 5 = W.2 := hW.1
  rw [mo] at e2
  refine Vw.aload_n (de_aload_0 (B 7 _ rfl)) 0 rfl (n := 8) rfl ?_
  refine Vw.iconst (v := 4) (de_iconst_4 (B 8 _ rfl)) rfl (n := 9) rfl ?_
  refine Vw.iconst (v := 0) (de_iconst_0 (B 9 _ rfl)) rfl (n := 10) rfl ?_
  refine Vw.iconst (v := 1) (de_iconst_1 (B 10 _ rfl)) rfl (n := 11) rfl ?_
  refine Vw.iconst (v := 1) (de_iconst_1 (B 11 _ rfl)) rfl (n := 12) rfl ?_
  refine Vw.ivi4 (mi' := mX6_told) (de_invokevirtual (B 12 _ rfl) (B 13 _ rfl) (B 14 _ rfl)) ml_X6_33 mv_X6_told hR.k (Nat.le_of_ble_eq_true rfl) (n := 15) rfl (c_X6_told_b hR hW2 e2 (fun M m2 => ?_))
  refine Vw.iconst (v := 1) (de_iconst_1 (B 15 _ rfl)) rfl (n := 16) rfl ?_
  refine Vw.icmp_ne (tgt := 23) (n := 19) (de_icmp_ne (B 16 _ rfl) (B 17 _ rfl) (B 18 _ rfl)) rfl rfl (fun c_16 => ?_) (fun c_16 => ?_)
  · refine Vw.iconst (v := 0) (de_iconst_0 (B 23 _ rfl)) rfl (n := 24) rfl ?_
    exact Vw.zret (de_ireturn (B 24 _ rfl)) rfl rfl ⟨_, rfl, (by have e := h I2 M f2 m2; first | exact qv (barP_1 (P := perA I b) c_16) e | exact qv (barP_0 (P := perA I b) c_16) e)⟩
  refine Vw.iconst (v := 1) (de_iconst_1 (B 19 _ rfl)) rfl (n := 20) rfl ?_
  refine Vw.goto_ (n := 24) (de_goto_ (B 20 _ rfl) (B 21 _ rfl) (B 22 _ rfl)) rfl ?_
  exact Vw.zret (de_ireturn (B 24 _ rfl)) rfl rfl ⟨_, rfl, (by have e := h I2 M f2 m2; first | exact qv (barP_1 (P := perA I b) c_16) e | exact qv (barP_0 (P := perA I b) c_16) e)⟩
theorem c_X6_growOlder {d : Nat} {S : vS} {I : vI} {L : vL} {Q : vS → vI → vL → Prop} {u s b lb : Nat} {q nw : Int32} {W : tW} (hR : RulesS S u s) (hb : (S.1 b).1 = 3) (hW : WC S I s lb W) (hlb : u + 2 ≤ lb) (h : ∀ I2 M, (∀ c, c ≠ u + 1 → c ≠ b → I2 c = I c) → Lev u L M → perA I2 b = stepP W q nw (perA I b) → Q S I2 M) : Vc mX6_growOlder (d + 2) 0 0 [.ref u, .ref b, .int q, .int nw] S I L (VvQ Q) := by
  refine Vc.of rfl (Nat.le_of_ble_eq_true rfl) ?_
  have B := bs_X6_growOlder
  show Vw mX6_growOlder (d + 2) 0 0 0 0 (VvQ Q) 0 [(0, .ref u), (1, .ref b), (2, .int q), (3, .int nw)] [] S I L
  have nbu : b ≠ u + 1 := ne_k hb (show (S.1 (u + 1)).1 = 100 by rw [hR.r1]) (by decide)
  have nsu : s ≠ u + 1 := ne_k hR.p0.k (show (S.1 (u + 1)).1 = 100 by rw [hR.r1]) (by decide)
  have nuu : u ≠ u + 1 := by omega
  refine Vw.aload_n (de_aload_0 (B 0 _ rfl)) 0 rfl (n := 1) rfl ?_
  refine Vw.aload_n (de_aload_1 (B 1 _ rfl)) 1 rfl (n := 2) rfl ?_
  refine Vw.iload_n (de_iload_2 (B 2 _ rfl)) 2 rfl (n := 3) rfl ?_
  refine Vw.iload_n (de_iload_3 (B 3 _ rfl)) 3 rfl (n := 4) rfl ?_
  refine Vw.ivv3 (mi' := mX6_setWordsOf) (de_invokevirtual (B 4 _ rfl) (B 5 _ rfl) (B 6 _ rfl)) ml_X6_23 mv_X6_setWordsOf hR.k (Nat.le_of_ble_eq_true rfl) (n := 7) rfl (c_X6_setWordsOf hR hb (fun I2 f2 e2 => ?_))
  have hW2 : WC S I2 s lb W := (hW.of (f2 s nsu) (fun c hc => f2 c (by omega)))
  have mo : I s 5 = W.2 := hW.1
  rw [mo] at e2
  refine Vw.aload_n (de_aload_0 (B 7 _ rfl)) 0 rfl (n := 8) rfl ?_
  refine Vw.iconst (v := 0) (de_iconst_0 (B 8 _ rfl)) rfl (n := 9) rfl ?_
  refine Vw.aload_n (de_aload_1 (B 9 _ rfl)) 1 rfl (n := 10) rfl ?_
  refine Vw.getI (de_getfield (B 10 _ rfl) (B 11 _ rfl) (B 12 _ rfl)) fl_X6_27 rfl hb (n := 13) rfl ?_
  rw [f2 b nbu]
  refine Vw.bipush (v := 64) (de_bipush (B 13 _ rfl) (B 14 _ rfl)) rfl (n := 15) rfl ?_
  refine Vw.icmp_ge (tgt := 22) (n := 18) (de_icmp_ge (B 15 _ rfl) (B 16 _ rfl) (B 17 _ rfl)) rfl rfl (fun c_15 => ?_) (fun c_15 => ?_)
  · refine Vw.iconst (v := 0) (de_iconst_0 (B 22 _ rfl)) rfl (n := 23) rfl ?_
    refine Vw.iconst (v := 0) (de_iconst_0 (B 23 _ rfl)) rfl (n := 24) rfl ?_
    refine Vw.bipush (v := 9) (de_bipush (B 24 _ rfl) (B 25 _ rfl)) rfl (n := 26) rfl ?_
    refine Vw.ivi4 (mi' := mX6_told) (de_invokevirtual (B 26 _ rfl) (B 27 _ rfl) (B 28 _ rfl)) ml_X6_33 mv_X6_told hR.k (Nat.le_of_ble_eq_true rfl) (n := 29) rfl (c_X6_told (hd := 1) hR hW2 e2 rfl (by decide) (by decide) (fun M m2 => ?_))
    refine Vw.istore (lv2 := [(0, _), (1, _), (2, _), (3, _), (4, _)]) (de_istore (B 29 _ rfl) (B 30 _ rfl)) (by decide) [1, 2, 3, 4, 0] rfl (n := 31) rfl ?_
    refine Vw.aload_n (de_aload_0 (B 31 _ rfl)) 0 rfl (n := 32) rfl ?_
    refine Vw.iconst (v := 1) (de_iconst_1 (B 32 _ rfl)) rfl (n := 33) rfl ?_
    refine Vw.aload_n (de_aload_1 (B 33 _ rfl)) 1 rfl (n := 34) rfl ?_
    refine Vw.getI (de_getfield (B 34 _ rfl) (B 35 _ rfl) (B 36 _ rfl)) fl_X6_37 rfl hb (n := 37) rfl ?_
    rw [f2 b nbu]
    refine Vw.bipush (v := -9) (de_bipush (B 37 _ rfl) (B 38 _ rfl)) rfl (n := 39) rfl ?_
    refine Vw.bipush (v := 9) (de_bipush (B 39 _ rfl) (B 40 _ rfl)) rfl (n := 41) rfl ?_
    refine Vw.ivi4 (mi' := mX6_told) (de_invokevirtual (B 41 _ rfl) (B 42 _ rfl) (B 43 _ rfl)) ml_X6_33 mv_X6_told hR.k (Nat.le_of_ble_eq_true rfl) (n := 44) rfl (c_X6_told (hd := 2) hR hW2 e2 rfl (by decide) (by decide) (fun M2 m2b => ?_))
    refine Vw.istore (lv2 := [(0, _), (1, _), (2, _), (3, _), (4, _), (5, _)]) (de_istore (B 44 _ rfl) (B 45 _ rfl)) (by decide) [1, 2, 3, 4, 5, 0] rfl (n := 46) rfl ?_
    have m3 : Lev u L M2 := fun c k z1 z2 => (m2b c k z1 z2).trans (m2 c k z1 z2)
    refine Vw.aload_n (de_aload_1 (B 46 _ rfl)) 1 rfl (n := 47) rfl ?_
    refine Vw.aload_n (de_aload_1 (B 47 _ rfl)) 1 rfl (n := 48) rfl ?_
    refine Vw.getI (de_getfield (B 48 _ rfl) (B 49 _ rfl) (B 50 _ rfl)) fl_X6_40 rfl hb (n := 51) rfl ?_
    rw [f2 b nbu]
    refine Vw.iload (de_iload (B 51 _ rfl) (B 52 _ rfl)) 4 rfl (n := 53) rfl ?_
    refine Vw.iadd (de_iadd (B 53 _ rfl)) (n := 54) rfl ?_
    refine Vw.bipush (v := 20) (de_bipush (B 54 _ rfl) (B 55 _ rfl)) rfl (n := 56) rfl ?_
    refine Vw.sipush (v := 250) (de_sipush (B 56 _ rfl) (B 57 _ rfl) (B 58 _ rfl)) rfl (n := 59) rfl ?_
    refine Vw.isni3 (mi' := mX11_nearest) (de_invokestatic (B 59 _ rfl) (B 60 _ rfl) (B 61 _ rfl)) (by decide) ms_X11_nearest (Nat.le_of_ble_eq_true rfl) (n := 62) rfl (c_X11_nearest ?_)
    refine Vw.putI (de_putfield (B 62 _ rfl) (B 63 _ rfl) (B 64 _ rfl)) fl_X6_40 hb rfl rfl (n := 65) rfl ?_
    refine Vw.aload_n (de_aload_1 (B 65 _ rfl)) 1 rfl (n := 66) rfl ?_
    refine Vw.aload_n (de_aload_1 (B 66 _ rfl)) 1 rfl (n := 67) rfl ?_
    refine Vw.getI (de_getfield (B 67 _ rfl) (B 68 _ rfl) (B 69 _ rfl)) fl_X6_47 rfl hb (n := 70) rfl ?_
    rw [up2_k (by decide), f2 b nbu]
    refine Vw.iload (de_iload (B 70 _ rfl) (B 71 _ rfl)) 5 rfl (n := 72) rfl ?_
    refine Vw.iadd (de_iadd (B 72 _ rfl)) (n := 73) rfl ?_
    refine Vw.iconst (v := 5) (de_iconst_5 (B 73 _ rfl)) rfl (n := 74) rfl ?_
    refine Vw.sipush (v := 200) (de_sipush (B 74 _ rfl) (B 75 _ rfl) (B 76 _ rfl)) rfl (n := 77) rfl ?_
    refine Vw.isni3 (mi' := mX11_nearest) (de_invokestatic (B 77 _ rfl) (B 78 _ rfl) (B 79 _ rfl)) (by decide) ms_X11_nearest (Nat.le_of_ble_eq_true rfl) (n := 80) rfl (c_X11_nearest ?_)
    refine Vw.putI (de_putfield (B 80 _ rfl) (B 81 _ rfl) (B 82 _ rfl)) fl_X6_47 hb rfl rfl (n := 83) rfl ?_
    refine Vw.aload_n (de_aload_1 (B 83 _ rfl)) 1 rfl (n := 84) rfl ?_
    refine Vw.aload_n (de_aload_1 (B 84 _ rfl)) 1 rfl (n := 85) rfl ?_
    refine Vw.getI (de_getfield (B 85 _ rfl) (B 86 _ rfl) (B 87 _ rfl)) fl_X6_27 rfl hb (n := 88) rfl ?_
    rw [up2_k (by decide), up2_k (by decide), f2 b nbu]
    refine Vw.iconst (v := 1) (de_iconst_1 (B 88 _ rfl)) rfl (n := 89) rfl ?_
    refine Vw.iadd (de_iadd (B 89 _ rfl)) (n := 90) rfl ?_
    refine Vw.sipush (v := 999) (de_sipush (B 90 _ rfl) (B 91 _ rfl) (B 92 _ rfl)) rfl (n := 93) rfl ?_
    refine Vw.mminI (de_invokestatic (B 93 _ rfl) (B 94 _ rfl) (B 95 _ rfl)) ml_X6_50 (Nat.le_of_ble_eq_true rfl) (n := 96) rfl ?_
    refine Vw.putI (de_putfield (B 96 _ rfl) (B 97 _ rfl) (B 98 _ rfl)) fl_X6_27 hb rfl rfl (n := 99) rfl ?_
    exact Vw.vret (de_return_ (B 99 _ rfl)) rfl ⟨rfl, (h _ M2 (fun c h1 h2 => by rw [up2_row h2, up2_row h2, up2_row h2]; exact f2 c h1) m3 (by
    unfold perA stepP
    rw [up2_s, up2_k (by decide), up2_k (by decide), up2_s, up2_k (by decide), up2_s, up2_k (by decide), up2_k (by decide), up2_k (by decide), f2 b nbu]
    first
    | (rw [growP_0 (P := (I b 0, I b 1, I b 2, I b 3)) (Int32.not_lt.mpr c_15)]; rfl)
    | (rw [growP_1 (P := (I b 0, I b 1, I b 2, I b 3)) (Int32.not_le.mp c_15)]; rfl)))⟩
  refine Vw.iconst (v := 1) (de_iconst_1 (B 18 _ rfl)) rfl (n := 19) rfl ?_
  refine Vw.goto_ (n := 23) (de_goto_ (B 19 _ rfl) (B 20 _ rfl) (B 21 _ rfl)) rfl ?_
  refine Vw.iconst (v := 0) (de_iconst_0 (B 23 _ rfl)) rfl (n := 24) rfl ?_
  refine Vw.bipush (v := 9) (de_bipush (B 24 _ rfl) (B 25 _ rfl)) rfl (n := 26) rfl ?_
  refine Vw.ivi4 (mi' := mX6_told) (de_invokevirtual (B 26 _ rfl) (B 27 _ rfl) (B 28 _ rfl)) ml_X6_33 mv_X6_told hR.k (Nat.le_of_ble_eq_true rfl) (n := 29) rfl (c_X6_told (hd := 1) hR hW2 e2 rfl (by decide) (by decide) (fun M m2 => ?_))
  refine Vw.istore (lv2 := [(0, _), (1, _), (2, _), (3, _), (4, _)]) (de_istore (B 29 _ rfl) (B 30 _ rfl)) (by decide) [1, 2, 3, 4, 0] rfl (n := 31) rfl ?_
  refine Vw.aload_n (de_aload_0 (B 31 _ rfl)) 0 rfl (n := 32) rfl ?_
  refine Vw.iconst (v := 1) (de_iconst_1 (B 32 _ rfl)) rfl (n := 33) rfl ?_
  refine Vw.aload_n (de_aload_1 (B 33 _ rfl)) 1 rfl (n := 34) rfl ?_
  refine Vw.getI (de_getfield (B 34 _ rfl) (B 35 _ rfl) (B 36 _ rfl)) fl_X6_37 rfl hb (n := 37) rfl ?_
  rw [f2 b nbu]
  refine Vw.bipush (v := -9) (de_bipush (B 37 _ rfl) (B 38 _ rfl)) rfl (n := 39) rfl ?_
  refine Vw.bipush (v := 9) (de_bipush (B 39 _ rfl) (B 40 _ rfl)) rfl (n := 41) rfl ?_
  refine Vw.ivi4 (mi' := mX6_told) (de_invokevirtual (B 41 _ rfl) (B 42 _ rfl) (B 43 _ rfl)) ml_X6_33 mv_X6_told hR.k (Nat.le_of_ble_eq_true rfl) (n := 44) rfl (c_X6_told (hd := 2) hR hW2 e2 rfl (by decide) (by decide) (fun M2 m2b => ?_))
  refine Vw.istore (lv2 := [(0, _), (1, _), (2, _), (3, _), (4, _), (5, _)]) (de_istore (B 44 _ rfl) (B 45 _ rfl)) (by decide) [1, 2, 3, 4, 5, 0] rfl (n := 46) rfl ?_
  have m3 : Lev u L M2 := fun c k z1 z2 => (m2b c k z1 z2).trans (m2 c k z1 z2)
  refine Vw.aload_n (de_aload_1 (B 46 _ rfl)) 1 rfl (n := 47) rfl ?_
  refine Vw.aload_n (de_aload_1 (B 47 _ rfl)) 1 rfl (n := 48) rfl ?_
  refine Vw.getI (de_getfield (B 48 _ rfl) (B 49 _ rfl) (B 50 _ rfl)) fl_X6_40 rfl hb (n := 51) rfl ?_
  rw [f2 b nbu]
  refine Vw.iload (de_iload (B 51 _ rfl) (B 52 _ rfl)) 4 rfl (n := 53) rfl ?_
  refine Vw.iadd (de_iadd (B 53 _ rfl)) (n := 54) rfl ?_
  refine Vw.bipush (v := 20) (de_bipush (B 54 _ rfl) (B 55 _ rfl)) rfl (n := 56) rfl ?_
  refine Vw.sipush (v := 250) (de_sipush (B 56 _ rfl) (B 57 _ rfl) (B 58 _ rfl)) rfl (n := 59) rfl ?_
  refine Vw.isni3 (mi' := mX11_nearest) (de_invokestatic (B 59 _ rfl) (B 60 _ rfl) (B 61 _ rfl)) (by decide) ms_X11_nearest (Nat.le_of_ble_eq_true rfl) (n := 62) rfl (c_X11_nearest ?_)
  refine Vw.putI (de_putfield (B 62 _ rfl) (B 63 _ rfl) (B 64 _ rfl)) fl_X6_40 hb rfl rfl (n := 65) rfl ?_
  refine Vw.aload_n (de_aload_1 (B 65 _ rfl)) 1 rfl (n := 66) rfl ?_
  refine Vw.aload_n (de_aload_1 (B 66 _ rfl)) 1 rfl (n := 67) rfl ?_
  refine Vw.getI (de_getfield (B 67 _ rfl) (B 68 _ rfl) (B 69 _ rfl)) fl_X6_47 rfl hb (n := 70) rfl ?_
  rw [up2_k (by decide), f2 b nbu]
  refine Vw.iload (de_iload (B 70 _ rfl) (B 71 _ rfl)) 5 rfl (n := 72) rfl ?_
  refine Vw.iadd (de_iadd (B 72 _ rfl)) (n := 73) rfl ?_
  refine Vw.iconst (v := 5) (de_iconst_5 (B 73 _ rfl)) rfl (n := 74) rfl ?_
  refine Vw.sipush (v := 200) (de_sipush (B 74 _ rfl) (B 75 _ rfl) (B 76 _ rfl)) rfl (n := 77) rfl ?_
  refine Vw.isni3 (mi' := mX11_nearest) (de_invokestatic (B 77 _ rfl) (B 78 _ rfl) (B 79 _ rfl)) (by decide) ms_X11_nearest (Nat.le_of_ble_eq_true rfl) (n := 80) rfl (c_X11_nearest ?_)
  refine Vw.putI (de_putfield (B 80 _ rfl) (B 81 _ rfl) (B 82 _ rfl)) fl_X6_47 hb rfl rfl (n := 83) rfl ?_
  refine Vw.aload_n (de_aload_1 (B 83 _ rfl)) 1 rfl (n := 84) rfl ?_
  refine Vw.aload_n (de_aload_1 (B 84 _ rfl)) 1 rfl (n := 85) rfl ?_
  refine Vw.getI (de_getfield (B 85 _ rfl) (B 86 _ rfl) (B 87 _ rfl)) fl_X6_27 rfl hb (n := 88) rfl ?_
  rw [up2_k (by decide), up2_k (by decide), f2 b nbu]
  refine Vw.iconst (v := 1) (de_iconst_1 (B 88 _ rfl)) rfl (n := 89) rfl ?_
  refine Vw.iadd (de_iadd (B 89 _ rfl)) (n := 90) rfl ?_
  refine Vw.sipush (v := 999) (de_sipush (B 90 _ rfl) (B 91 _ rfl) (B 92 _ rfl)) rfl (n := 93) rfl ?_
  refine Vw.mminI (de_invokestatic (B 93 _ rfl) (B 94 _ rfl) (B 95 _ rfl)) ml_X6_50 (Nat.le_of_ble_eq_true rfl) (n := 96) rfl ?_
  refine Vw.putI (de_putfield (B 96 _ rfl) (B 97 _ rfl) (B 98 _ rfl)) fl_X6_27 hb rfl rfl (n := 99) rfl ?_
  exact Vw.vret (de_return_ (B 99 _ rfl)) rfl ⟨rfl, (h _ M2 (fun c h1 h2 => by rw [up2_row h2, up2_row h2, up2_row h2]; exact f2 c h1) m3 (by
    unfold perA stepP
    rw [up2_s, up2_k (by decide), up2_k (by decide), up2_s, up2_k (by decide), up2_s, up2_k (by decide), up2_k (by decide), up2_k (by decide), f2 b nbu]
    first
    | (rw [growP_0 (P := (I b 0, I b 1, I b 2, I b 3)) (Int32.not_lt.mpr c_15)]; rfl)
    | (rw [growP_1 (P := (I b 0, I b 1, I b 2, I b 3)) (Int32.not_le.mp c_15)]; rfl)))⟩
