/-! bale, terms, force, sight, forget, end, nourish -/
theorem STR.sc {S : vS} {I J : vI} {s lb np nc ns ns2 nl : Nat} {K G : Nat → Int32} (h : STR S I s lb K np nc ns nl) (e : ∀ b, s + 1 ≤ b → b ≤ s + 27 → J b = I b) (e1 : ∀ b, lb ≤ b → J b = I b) (eK : ∀ x, ¬ (140 ≤ x ∧ x ≤ 145) → ¬ scrK x → G x = K x) (k142 : G 142 = K 142) (k144 : G 144 = K 144) (j2 : J s 2 = I s 2) (hns : ns2 ≤ ns) (j9 : J s 9 = nI ns2) (k143 : G 143 = nI ns2) (j3 : J s 3 = G 145) (k145 : G 145 = -1 ∨ ∃ t, t < nl ∧ G 145 = nI t) (j4 : J s 4 = G 140) (j5 : J s 5 = G 141) (f10 : ∃ f, f ≤ 10 ∧ G 140 = nI f) : STR S J s lb G np nc ns2 nl := by
  have h8 := h.tn.1
  have h10 := h.tn.2.1
  have eq : ∀ x, x < 140 → G x = K x := fun x hx => eK x (by omega) (by unfold scrK; omega)
  have hs6 := h.sr.2.1
  obtain ⟨t1, t2, t3, t4, t5, t6⟩ := h.tr.of (J := J) (fun b g1 g2 => e b (by omega) (by omega)) h8 h10
  refine ⟨⟨t1, t2, by rw [eq _ (by omega)]; exact t3, fun q k hq hk => by rw [eq _ (by omega)]; exact t4 q k hq hk, fun c k hc hk => by rw [eq _ (by omega)]; exact t5 c k hc hk, fun j hj => by rw [eq _ (by omega), eq _ (by omega)]; exact t6 j hj⟩, ?_, ?_, ⟨j9, by omega, fun i hi => ?_⟩, k143, fun i hi => by rw [eq _ (by omega)]; exact h.sb i (by omega), ?_, j3, k145, j4, j5, f10⟩
  · obtain ⟨n1, n2, n3, n4, n5⟩ := h.tn
    exact ⟨n1, n2, k142.trans n3, by rw [eq _ (by omega)]; exact n4, fun c hc => by
      obtain ⟨c1, c2, c3⟩ := n5 c hc
      exact ⟨by rw [eq _ (by omega)]; exact c1, by rw [eq _ (by omega)]; exact c2, by rw [eq _ (by omega)]; exact c3⟩⟩
  · obtain ⟨b1, b2, b3, b4⟩ := h.kb
    refine ⟨fun q hq => ?_, fun t ht => by rw [eq _ (by omega)]; exact b2 t ht, fun c hc => ?_, by unfold NB; rw [eq _ (by omega)]; exact b4⟩
    · have ep : perP G q = perP K q := by unfold perP; rw [eq _ (by omega), eq _ (by omega), eq _ (by omega), eq _ (by omega)]
      rw [ep]; exact b1 q hq
    · obtain ⟨a, b, hh, u, q1, q2, q3, q4, q5⟩ := b3 c hc
      exact ⟨a, b, hh, u, by rw [eq _ (by omega)]; exact q1, by rw [eq _ (by omega)]; exact q2, by rw [eq _ (by omega)]; exact q3, by rw [eq _ (by omega)]; exact q4, q5⟩
  · have sr := h.sr.2.2 i (by omega)
    rw [e _ (by omega) (by omega), e _ (by omega) (by omega), e _ (by omega) (by omega), eq _ (by omega), eq _ (by omega), eq _ (by omega)]
    exact sr
  · obtain ⟨l1, l2, l3, l4⟩ := h.lw
    refine ⟨l1, j2.trans l2, k144.trans l3, fun t ht => ?_⟩
    obtain ⟨a, cs, m, a1, a2, a3, a4, a5, a6⟩ := l4 t ht
    exact ⟨a, cs, m, a1, a2, a3, a4.of (fun k _ => e1 _ (by omega)), a5, a6.of (by omega) (fun x hx hs => eK x (by omega) hs)⟩
theorem lie_c {v : Int32} {N : Nat} (hN : N < 100000) (h : ¬ zLie v 0 (nI N) = 0) : ∃ c, c ≤ N ∧ v = nI c := lie_n hN h
theorem TR.cl {I J : vI} {t np nc j : Nat} {K : Nat → Int32} {v : Int32} (h : TR I t K np nc) (hj : j < 4) (h8 : np ≤ 8) (h10 : nc ≤ 10) (e : ∀ b, t ≤ b → b ≤ t + 22 → b ≠ t + 3 → J b = I b) (e3 : ∀ k, J (t + 3) k = if k = j then v else I (t + 3) k) : TR J t (upK K (113 + 2 * j) v) np nc := by
  obtain ⟨t1, t2, t3, t4, t5, t6⟩ := h
  refine ⟨by rw [e _ (by omega) (by omega) (by omega)]; exact t1, by rw [e _ (by omega) (by omega) (by omega)]; exact t2, by rw [e _ (by omega) (by omega) (by omega), upK_n (by omega)]; exact t3, fun q k hq hk => by rw [e _ (by omega) (by omega) (by omega), upK_n (by omega)]; exact t4 q k hq hk, fun c k hc hk => by rw [e _ (by omega) (by omega) (by omega), upK_n (by omega)]; exact t5 c k hc hk, fun i hi => ?_⟩
  rw [e3, e (t + 4) (by omega) (by omega) (by omega), upK_n (show 113 + 2 * i + 1 ≠ 113 + 2 * j by omega)]
  refine ⟨?_, (t6 i hi).2⟩
  by_cases z : i = j
  · rw [if_pos z, z, upK_s]
  · rw [if_neg z, upK_n (by omega)]; exact (t6 i hi).1
theorem k_bale {d : Nat} {S : vS} {I : vI} {L : vL} {Q : Int32 → vS → vI → vL → Prop} {x lb np nc ns nl : Nat} {K : Nat → Int32} {l : List tH} {t v : Int32} (hC : ClsS S x) (hs : STR S I (x + 1) lb K np nc ns nl) (hH : HC I (x + 89) l np) (hlb : x + 942 ≤ lb) (h1 : zLie t 0 3 = 0 ∨ zLie v 0 999 = 0 → Q (-1) S (cRef I x (-1) 1) L) (h : ∀ j, j < 4 → t = nI j → ¬ zLie v 0 999 = 0 → ∀ I2, (∀ b, b ≠ x + 5 → b ≠ x + 89 → I2 b = I b) → TR I2 (x + 1 + 1) (upK K (113 + 2 * j) v) np nc → HC I2 (x + 89) [] np → Q (K (113 + 2 * j)) S (cAcc I2 x) L) : Vc mX11_bale (d + 80) 0 0 [.ref x, .int t, .int v] S I L (ViQ Q) := by
  refine Vc.of rfl (Nat.le_of_ble_eq_true rfl) ?_
  have B := bs_X11_bale
  show Vw mX11_bale (d + 80) 0 0 0 0 (ViQ Q) 0 [(0, .ref x), (1, .int t), (2, .int v)] [] S I L
  have hT := hC.p0.p0
  have hN := hs.tn
  have h8 := hN.1
  have h10 := hN.2.1
  have hK := hs.tr
  have hold : ∃ old, old < 16 ∧ I (x + 89) 2 = nI old := by obtain ⟨_, _, old, o1, o2, _⟩ := hH; exact ⟨old, o1, o2⟩
  refine Vw.iload_n (de_iload_1 (B 0 _ rfl)) 1 rfl (n := 1) rfl ?_
  refine Vw.isi1 (mi' := mX11_isTailor) (de_invokestatic (B 1 _ rfl) (B 2 _ rfl) (B 3 _ rfl)) ml_X11_162 ms_X11_isTailor (Nat.le_of_ble_eq_true rfl) (n := 4) rfl (c_X11_isTailor ?_)
  refine Vw.if_eq (tgt := 18) (n := 7) (de_if_eq (B 4 _ rfl) (B 5 _ rfl) (B 6 _ rfl)) rfl rfl (fun c_4 => ?_) (fun c_4 => ?_)
  · refine Vw.aload_n (de_aload_0 (B 18 _ rfl)) 0 rfl (n := 19) rfl ?_
    refine Vw.iconst (v := -1) (de_iconst_m1 (B 19 _ rfl)) rfl (n := 20) rfl ?_
    refine Vw.ivi1 (mi' := mX11_refuse) (de_invokevirtual (B 20 _ rfl) (B 21 _ rfl) (B 22 _ rfl)) ml_X11_100 mv_X11_refuse hC.k (Nat.le_of_ble_eq_true rfl) (n := 23) rfl (c_X11_refuse (j := 1) hC rfl (by decide) ?_)
    exact Vw.iret (de_ireturn (B 23 _ rfl)) rfl ⟨_, rfl, (h1 (by first | exact Or.inl c_4 | exact Or.inr c_15))⟩
  refine Vw.iload_n (de_iload_2 (B 7 _ rfl)) 2 rfl (n := 8) rfl ?_
  refine Vw.iconst (v := 0) (de_iconst_0 (B 8 _ rfl)) rfl (n := 9) rfl ?_
  refine Vw.sipush (v := 999) (de_sipush (B 9 _ rfl) (B 10 _ rfl) (B 11 _ rfl)) rfl (n := 12) rfl ?_
  refine Vw.isi3 (mi' := mX11_isWithin) (de_invokestatic (B 12 _ rfl) (B 13 _ rfl) (B 14 _ rfl)) ml_X11_165 ms_X11_isWithin (Nat.le_of_ble_eq_true rfl) (n := 15) rfl (c_X11_isWithin ?_)
  refine Vw.if_ne (tgt := 24) (n := 18) (de_if_ne (B 15 _ rfl) (B 16 _ rfl) (B 17 _ rfl)) rfl rfl (fun c_15 => ?_) (fun c_15 => ?_)
  · obtain ⟨j, hj, rfl⟩ := lie_n (N := 3) (by decide) c_4
    refine Vw.aload_n (de_aload_0 (B 24 _ rfl)) 0 rfl (n := 25) rfl ?_
    refine Vw.getR (de_getfield (B 25 _ rfl) (B 26 _ rfl) (B 27 _ rfl)) fl_X11_12 rfl hC.k hC.f0 (n := 28) rfl ?_
    refine Vw.getR (de_getfield (B 28 _ rfl) (B 29 _ rfl) (B 30 _ rfl)) fl_X11_104 rfl hC.p0.k hC.p0.f0 (n := 31) rfl ?_
    refine Vw.getR (de_getfield (B 31 _ rfl) (B 32 _ rfl) (B 33 _ rfl)) fl_X11_168 rfl hC.p0.p0.k hC.p0.p0.f2 (n := 34) rfl ?_
    refine Vw.iload_n (de_iload_1 (B 34 _ rfl)) 1 rfl (n := 35) rfl ?_
    refine Vw.iald (de_iaload (B 35 _ rfl)) hC.p0.p0.r2 (vIx_n (k := j) rfl (by omega)) (n := 36) rfl ?_
    rw [(hK.2.2.2.2.2 j (by omega)).1]
    refine Vw.istore_n (lv2 := [(0, _), (1, _), (2, _), (3, _)]) (de_istore_3 (B 36 _ rfl)) rfl (by decide) [1, 2, 3, 0] rfl (n := 37) rfl ?_
    refine Vw.aload_n (de_aload_0 (B 37 _ rfl)) 0 rfl (n := 38) rfl ?_
    refine Vw.getR (de_getfield (B 38 _ rfl) (B 39 _ rfl) (B 40 _ rfl)) fl_X11_12 rfl hC.k hC.f0 (n := 41) rfl ?_
    refine Vw.getR (de_getfield (B 41 _ rfl) (B 42 _ rfl) (B 43 _ rfl)) fl_X11_104 rfl hC.p0.k hC.p0.f0 (n := 44) rfl ?_
    refine Vw.getR (de_getfield (B 44 _ rfl) (B 45 _ rfl) (B 46 _ rfl)) fl_X11_168 rfl hC.p0.p0.k hC.p0.p0.f2 (n := 47) rfl ?_
    refine Vw.iload_n (de_iload_1 (B 47 _ rfl)) 1 rfl (n := 48) rfl ?_
    refine Vw.iload_n (de_iload_2 (B 48 _ rfl)) 2 rfl (n := 49) rfl ?_
    refine Vw.iast (de_iastore (B 49 _ rfl)) hC.p0.p0.r2 (vIx_n (k := j) rfl (by omega)) (n := 50) rfl ?_
    refine Vw.aload_n (de_aload_0 (B 50 _ rfl)) 0 rfl (n := 51) rfl ?_
    refine Vw.getR (de_getfield (B 51 _ rfl) (B 52 _ rfl) (B 53 _ rfl)) fl_X11_60 rfl hC.k hC.f6 (n := 54) rfl ?_
    refine Vw.ivv0 (mi' := mX2_clear) (de_invokevirtual (B 54 _ rfl) (B 55 _ rfl) (B 56 _ rfl)) ml_X11_110 mv_X2_clear hC.p6.k (Nat.le_of_ble_eq_true rfl) (n := 57) rfl (c_X2_clear (np := np) hC.p6 (by rw [up2_row (by omega)]; exact hold) (fun I2 f2 f2k h2c => ?_))
    refine Vw.aload_n (de_aload_0 (B 57 _ rfl)) 0 rfl (n := 58) rfl ?_
    refine Vw.iload_n (de_iload_3 (B 58 _ rfl)) 3 rfl (n := 59) rfl ?_
    refine Vw.ivi1 (mi' := mX11_accept) (de_invokevirtual (B 59 _ rfl) (B 60 _ rfl) (B 61 _ rfl)) ml_X11_117 mv_X11_accept hC.k (Nat.le_of_ble_eq_true rfl) (n := 62) rfl (c_X11_accept hC ?_)
    exact Vw.iret (de_ireturn (B 62 _ rfl)) rfl ⟨_, rfl, (h j (by omega) rfl c_15 I2 (fun b g1 g2 => by rw [f2 b g2, up2_row (by omega)]) (hK.cl (by omega) h8 h10 (fun b g1 g2 g3 => by rw [f2 b (by omega), up2_row (by omega)]) (fun k => by rw [f2 _ (by omega)]; by_cases z : k = j; rw [if_pos z, z]; exact up2_s _ _ _ _; rw [if_neg z]; exact up2_k z)) h2c)⟩
  refine Vw.aload_n (de_aload_0 (B 18 _ rfl)) 0 rfl (n := 19) rfl ?_
  refine Vw.iconst (v := -1) (de_iconst_m1 (B 19 _ rfl)) rfl (n := 20) rfl ?_
  refine Vw.ivi1 (mi' := mX11_refuse) (de_invokevirtual (B 20 _ rfl) (B 21 _ rfl) (B 22 _ rfl)) ml_X11_100 mv_X11_refuse hC.k (Nat.le_of_ble_eq_true rfl) (n := 23) rfl (c_X11_refuse (j := 1) hC rfl (by decide) ?_)
  exact Vw.iret (de_ireturn (B 23 _ rfl)) rfl ⟨_, rfl, (h1 (by first | exact Or.inl c_4 | exact Or.inr c_15))⟩
theorem pr_bale {S : vS} {I : vI} {L : vL} {x r lb : Nat} {t v : Int32} (hR : REL S I x r lb) : PR mX11_bale mX12_bale 0 0 [.int t, .int v] x r lb S I L := by
  intro d Q h
  obtain ⟨l, np, nc, ns, nl, hCP, hL, h32, hWd, hSP⟩ := hR
  have hR : REL S I x r lb := ⟨l, np, nc, ns, nl, hCP, hL, h32, hWd, hSP⟩
  have hs := hCP.1
  have hH := hCP.2.1
  have hN := hs.tn
  obtain ⟨hC, hM, hst, er, el, hl2⟩ := id hSP
  refine k_bale hC hs hH (by omega) (fun c1 => h _ S _ L (fun _ _ => rfl) (fun d2 Q2 g => ?_)) (fun j hj ej c1 I2 f2 k2 hc2 => h _ S _ L (fun _ _ => rfl) (fun d2 Q2 g => ?_))
  · refine c_X12_bale (d := d2 + 58) hM (fun _ => g _ _ (hR.ref (k := (-1)) (j := 1) (by decide)) (fun b hb => by rw [mRef_o (by omega) (by omega), cRef_o (by omega) (by omega)])) (fun j hj ej c2 => absurd c1 (fun z => z.elim (fun z => absurd z (by rw [ej, zLie_iff, nI_ti (by omega)]; show (0 : Int) ≤ _ ∧ _ ≤ (3 : Int); omega)) c2))
  · have e2 : cAcc I2 x (r + 2) = I (r + 2) := by rw [cAcc_o (by omega), f2 _ (by omega) (by omega)]
    refine c_X12_bale (d := d2 + 58) hM (fun q => absurd q (fun z => z.elim (fun z => absurd z (by rw [ej, zLie_iff, nI_ti (by omega)]; show (0 : Int) ≤ _ ∧ _ ≤ (3 : Int); omega)) c1)) (fun j2 hj2 ej2 c2 => ?_)
    obtain rfl : j2 = j := nI_inj (by omega) (by omega) (ej2.symm.trans ej)
    rw [e2]
    have eK : up2 (cAcc I2 x) (r + 2) (113 + 2 * j2) v (r + 2) = upK (I (r + 2)) (113 + 2 * j2) v := by rw [up2_rs, e2]
    obtain ⟨cl, cl1, cl2⟩ := lie_c (N := 999) (by decide) c1
    have en : ∀ y, y ≠ 113 + 2 * j2 → upK (I (r + 2)) (113 + 2 * j2) v y = I (r + 2) y := fun y hy => upK_n hy
    have fin := REL.setl (I2 := I2) (Jr := up2 (cAcc I2 x) (r + 2) (113 + 2 * j2) v) (np2 := np) (nc2 := nc) (ns2 := ns) (nl2 := nl) hCP hWd hSP (FA.of (fun b g1 g2 g3 g4 => f2 b (by omega) g4)) (f2 _ (by omega) (by omega)) (fun b hb => up2_row hb)
      (by
        rw [eK]
        refine hs.town k2 ?_ ?_ (fun y h1 h2 _ => en y (by omega)) (f2 _ (by omega) (by omega)) (fun b g1 g2 => f2 b (by omega) (by omega)) (fun b hb => f2 b (by omega) (by omega))
        · obtain ⟨n1, n2, n3, n4, n5⟩ := hN
          exact ⟨n1, n2, by rw [en _ (by omega)]; exact n3, by rw [en _ (by omega)]; exact n4, fun c hc => by
            obtain ⟨c1, c2, c3⟩ := n5 c hc
            exact ⟨by rw [en _ (by omega)]; exact c1, by rw [en _ (by omega)]; exact c2, by rw [en _ (by omega)]; exact c3⟩⟩
        · obtain ⟨b1, b2, b3, b4⟩ := hs.kb
          have h8 := hN.1
          have h10 := hN.2.1
          refine ⟨fun q hq => ?_, fun t ht => ?_, fun c hc => ?_, by unfold NB; rw [en _ (by omega)]; exact b4⟩
          · have ep : perP (upK (I (r + 2)) (113 + 2 * j2) v) q = perP (I (r + 2)) q := by unfold perP; rw [en _ (by omega), en _ (by omega), en _ (by omega), en _ (by omega)]
            rw [ep]; exact b1 q hq
          · by_cases z : t = j2
            · rw [z, upK_s]; exact ⟨cl, cl1, cl2⟩
            · rw [en _ (by omega)]; exact b2 t ht
          · obtain ⟨a, b, hh, u, q1, q2, q3, q4, q5⟩ := b3 c hc
            exact ⟨a, b, hh, u, by rw [en _ (by omega)]; exact q1, by rw [en _ (by omega)]; exact q2, by rw [en _ (by omega)]; exact q3, by rw [en _ (by omega)]; exact q4, q5⟩) hc2
    exact g _ _ fin.1 fin.2
theorem k_force {d : Nat} {S : vS} {I : vI} {L : vL} {Q : Int32 → vS → vI → vL → Prop} {x lb np nc ns nl : Nat} {K : Nat → Int32} {l : List tH} {v : Int32} (hC : ClsS S x) (hs : STR S I (x + 1) lb K np nc ns nl) (hH : HC I (x + 89) l np) (hlb : x + 942 ≤ lb) (h1 : zLie v (-1) (nI nl - 1) = 0 → Q (-2) S (cRef I x (-2) 2) L) (h : ¬ zLie v (-1) (nI nl - 1) = 0 → Q (K 145) S (cAcc (up2 I (x + 1) 3 v) x) L) : Vc mX11_force (d + 80) 0 0 [.ref x, .int v] S I L (ViQ Q) := by
  refine Vc.of rfl (Nat.le_of_ble_eq_true rfl) ?_
  have B := bs_X11_force
  show Vw mX11_force (d + 80) 0 0 0 0 (ViQ Q) 0 [(0, .ref x), (1, .int v)] [] S I L
  have hT := hC.p0.p0
  have hN := hs.tn
  have h8 := hN.1
  have h10 := hN.2.1
  have hK := hs.tr
  have hold : ∃ old, old < 16 ∧ I (x + 89) 2 = nI old := by obtain ⟨_, _, old, o1, o2, _⟩ := hH; exact ⟨old, o1, o2⟩
  refine Vw.iload_n (de_iload_1 (B 0 _ rfl)) 1 rfl (n := 1) rfl ?_
  refine Vw.iconst (v := -1) (de_iconst_m1 (B 1 _ rfl)) rfl (n := 2) rfl ?_
  refine Vw.aload_n (de_aload_0 (B 2 _ rfl)) 0 rfl (n := 3) rfl ?_
  refine Vw.getR (de_getfield (B 3 _ rfl) (B 4 _ rfl) (B 5 _ rfl)) fl_X11_12 rfl hC.k hC.f0 (n := 6) rfl ?_
  refine Vw.getI (de_getfield (B 6 _ rfl) (B 7 _ rfl) (B 8 _ rfl)) fl_X11_204 rfl hC.p0.k (n := 9) rfl ?_
  rw [hs.lw.2.1]
  refine Vw.iconst (v := 1) (de_iconst_1 (B 9 _ rfl)) rfl (n := 10) rfl ?_
  refine Vw.isub (de_isub (B 10 _ rfl)) (n := 11) rfl ?_
  refine Vw.isi3 (mi' := mX11_isWithin) (de_invokestatic (B 11 _ rfl) (B 12 _ rfl) (B 13 _ rfl)) ml_X11_165 ms_X11_isWithin (Nat.le_of_ble_eq_true rfl) (n := 14) rfl (c_X11_isWithin ?_)
  refine Vw.if_ne (tgt := 24) (n := 17) (de_if_ne (B 14 _ rfl) (B 15 _ rfl) (B 16 _ rfl)) rfl rfl (fun c_14 => ?_) (fun c_14 => ?_)
  · refine Vw.aload_n (de_aload_0 (B 24 _ rfl)) 0 rfl (n := 25) rfl ?_
    refine Vw.getR (de_getfield (B 25 _ rfl) (B 26 _ rfl) (B 27 _ rfl)) fl_X11_12 rfl hC.k hC.f0 (n := 28) rfl ?_
    refine Vw.getI (de_getfield (B 28 _ rfl) (B 29 _ rfl) (B 30 _ rfl)) fl_X11_243 rfl hC.p0.k (n := 31) rfl ?_
    rw [hs.fo]
    refine Vw.istore_n (lv2 := [(0, _), (1, _), (2, _)]) (de_istore_2 (B 31 _ rfl)) rfl (by decide) [1, 2, 0] rfl (n := 32) rfl ?_
    refine Vw.aload_n (de_aload_0 (B 32 _ rfl)) 0 rfl (n := 33) rfl ?_
    refine Vw.getR (de_getfield (B 33 _ rfl) (B 34 _ rfl) (B 35 _ rfl)) fl_X11_12 rfl hC.k hC.f0 (n := 36) rfl ?_
    refine Vw.iload_n (de_iload_1 (B 36 _ rfl)) 1 rfl (n := 37) rfl ?_
    refine Vw.putI (de_putfield (B 37 _ rfl) (B 38 _ rfl) (B 39 _ rfl)) fl_X11_243 hC.p0.k rfl rfl (n := 40) rfl ?_
    refine Vw.aload_n (de_aload_0 (B 40 _ rfl)) 0 rfl (n := 41) rfl ?_
    refine Vw.iload_n (de_iload_2 (B 41 _ rfl)) 2 rfl (n := 42) rfl ?_
    refine Vw.ivi1 (mi' := mX11_accept) (de_invokevirtual (B 42 _ rfl) (B 43 _ rfl) (B 44 _ rfl)) ml_X11_117 mv_X11_accept hC.k (Nat.le_of_ble_eq_true rfl) (n := 45) rfl (c_X11_accept hC ?_)
    exact Vw.iret (de_ireturn (B 45 _ rfl)) rfl ⟨_, rfl, (h c_14)⟩
  refine Vw.aload_n (de_aload_0 (B 17 _ rfl)) 0 rfl (n := 18) rfl ?_
  refine Vw.bipush (v := -2) (de_bipush (B 18 _ rfl) (B 19 _ rfl)) rfl (n := 20) rfl ?_
  refine Vw.ivi1 (mi' := mX11_refuse) (de_invokevirtual (B 20 _ rfl) (B 21 _ rfl) (B 22 _ rfl)) ml_X11_100 mv_X11_refuse hC.k (Nat.le_of_ble_eq_true rfl) (n := 23) rfl (c_X11_refuse (j := 2) hC rfl (by decide) ?_)
  exact Vw.iret (de_ireturn (B 23 _ rfl)) rfl ⟨_, rfl, (h1 c_14)⟩
theorem lie_m1n {v : Int32} {n : Nat} (hn : n ≤ 6) (h : ¬ zLie v (-1) (nI n - 1) = 0) : v = -1 ∨ ∃ t, t < n ∧ v = nI t := by
  have h2 := (zLie_iff v (-1) (nI n - 1)).mp h
  rw [i32_sub (by rw [nI_ti (by omega)]; show _ ≤ _ - (1 : Int); omega) (by rw [nI_ti (by omega)]; show _ - (1 : Int) < _; omega), nI_ti (by omega), show (-1 : Int32).toInt = -1 from rfl, show (1 : Int32).toInt = 1 from rfl] at h2
  by_cases z : v.toInt = -1
  · exact Or.inl (i32_eq z)
  · obtain ⟨j, j1, j2⟩ := nI_ex (x := v) (n := n) (by omega) (by omega)
    exact Or.inr ⟨j, j1, j2⟩
theorem pr_force {S : vS} {I : vI} {L : vL} {x r lb : Nat} {v : Int32} (hR : REL S I x r lb) : PR mX11_force mX12_force 0 0 [.int v] x r lb S I L := by
  intro d Q h
  obtain ⟨l, np, nc, ns, nl, hCP, hL, h32, hWd, hSP⟩ := hR
  have hR : REL S I x r lb := ⟨l, np, nc, ns, nl, hCP, hL, h32, hWd, hSP⟩
  have hs := hCP.1
  have hH := hCP.2.1
  have hN := hs.tn
  obtain ⟨hC, hM, hst, er, el, hl2⟩ := id hSP
  have el := hs.lw.2.2.1
  refine k_force hC hs hH (by omega) (fun c1 => h _ S _ L (fun _ _ => rfl) (fun d2 Q2 g => ?_)) (fun c1 => h _ S _ L (fun _ _ => rfl) (fun d2 Q2 g => ?_))
  · have e2 : cRef I x (-2) 2 (r + 2) = I (r + 2) := cRef_o (by omega) (by omega)
    refine c_X12_force (d := d2 + 59) hM (fun _ => g _ _ (hR.ref (k := (-2)) (j := 2) (by decide)) (fun b hb => by rw [mRef_o (by omega) (by omega), cRef_o (by omega) (by omega)])) (fun q => absurd (by rw [e2, el]; exact c1) q)
  · have e2 : cAcc (up2 I (x + 1) 3 v) x (r + 2) = I (r + 2) := by rw [cAcc_o (by omega), up2_row (by omega)]
    refine c_X12_force (d := d2 + 59) hM (fun q => absurd (by rw [e2, el] at q; exact q) c1) (fun _ => ?_)
    rw [e2]
    have eK : up2 (cAcc (up2 I (x + 1) 3 v) x) (r + 2) 145 v (r + 2) = upK (I (r + 2)) 145 v := by rw [up2_rs, e2]
    have fin := REL.good (I2 := up2 I (x + 1) 3 v) (Jr := up2 (cAcc (up2 I (x + 1) 3 v) x) (r + 2) 145 v) (nc2 := nc) (ns2 := ns) (nl2 := nl) hCP hL h32 hWd hSP (FA.of (fun b g1 g2 g3 g4 => up2_row (by omega))) (up2_row (by omega)) (fun b hb => up2_row hb)
      (by
        rw [eK]
        exact hs.sc (fun b g1 g2 => up2_row (by omega)) (fun b hb => up2_row (by omega)) (fun y h1 _ => upK_n (by omega)) (upK_n (by decide)) (upK_n (by decide)) (up2_k (by decide)) (Nat.le_refl _) (by rw [up2_k (by decide)]; exact hs.sr.1) (by rw [upK_n (by decide)]; exact hs.n143) (by rw [up2_s, upK_s]) (by rw [upK_s]; exact lie_m1n hs.lw.1 c1) (by rw [up2_k (by decide), upK_n (by decide)]; exact hs.fe) (by rw [up2_k (by decide), upK_n (by decide)]; exact hs.mo) (by rw [upK_n (by decide)]; exact hs.f10)) (hH.of hN.1 (fun b g1 g2 => up2_row (by omega)))
    exact g _ _ fin.1 fin.2
