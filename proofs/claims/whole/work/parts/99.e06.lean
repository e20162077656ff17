/-! Calls that change: accept, refuse -/
theorem REL.upd {S : vS} {I J : vI} {x r lb np nc ns nl np2 nc2 ns2 nl2 : Nat} {l l2 : List tH} (hR : CP S I x lb (I (r + 2)) l (I (r + 7)) (I r) (I (r + 1)) (I (r + 3)) (I (r + 4)) (I (r + 26)) (I (r + 27)) np nc ns nl) (hW : Wd (I (r + 6)) WL 0) (hP : SPx S x r lb)
    (f : ∀ b k, (x + 34 = b ∧ k = 11) ∨ (x + 43 ≤ b ∧ b ≤ x + 65) ∨ (x + 855 = b) ∨ (x + 858 ≤ b ∧ b < x + 914) ∨ lb ≤ b → J b k = I b k) (g : ∀ b, b = r + 3 ∨ b = r + 4 ∨ b = r + 6 ∨ b = r + 26 ∨ b = r + 27 → J b = I b) (g54 : J r 54 = I r 54) (g56 : J r 56 = I r 56)
    (hS : STR S J (x + 1) lb (J (r + 2)) np2 nc2 ns2 nl2) (hH : HC J (x + 89) l2 np2) (hL : LfR (J (r + 14)) l2 np2) (h32 : J r 32 = nI l2.length) (hold : ∃ old, old < 16 ∧ J (x + 460) 2 = nI old) (hn : ∃ n, n ≤ 400 ∧ J r 11 = nI n ∧ J x 12 = nI n) (hu : ∀ j, j < 400 → J (x + 856) j = J (r + 7) j &&& 255 ∧ bt (J (r + 7) j)) (h6 : J x 13 = J r 6) (h12 : J x 14 = J r 12) (h43 : J x 15 = J r 43) (h0 : J x 16 = J r 0) (hrf : ∀ j, j < 7 → J (x + 857) j = J (r + 1) j) : REL S J x r lb := by
  obtain ⟨-, -, -, -, -, -, -, -, -, -, h11, h12b, nd, h13, h14, h15⟩ := hR
  have row : ∀ b, (x + 43 ≤ b ∧ b ≤ x + 65) ∨ (x + 855 = b) ∨ (x + 858 ≤ b ∧ b < x + 914) ∨ lb ≤ b → J b = I b := fun b hb => funext fun k => f b k (Or.inr hb)
  refine ⟨l2, np2, nc2, ns2, nl2, ⟨hS, hH, hold, hn, hu, h6, h12, h43, h0, hrf, fun k hk => ?_, ?_, nd, h13, g54.trans h14, fun q => ?_⟩, hL, h32, by rw [g _ (by omega)]; exact hW, hP⟩
  · rw [row (x + 855) (by omega), g (r + 4) (by omega), g (r + 3) (by omega)]
    refine ⟨(h11 k hk).1, fun q => ?_⟩
    obtain ⟨a, b, c, e, st⟩ := (h11 k hk).2 q
    exact ⟨a, b, c, e, st.of (fun b g1 g2 => row b (by omega)) (fun b hb => row b (by omega))⟩
  · rw [f _ _ (Or.inl ⟨rfl, rfl⟩), g56]; exact h12b
  · rw [g56] at q
    obtain ⟨a, b, c⟩ := h15 q
    rw [g (r + 26) (by omega), g (r + 27) (by omega)]
    exact ⟨by rw [row (x + 43) (by omega)]; exact a, fun q hq => by rw [row _ (by omega)]; exact b q hq, fun t ht => by rw [row _ (by omega)]; exact c t ht⟩
def cRef (I : vI) (x : Nat) (k : Int32) (j : Nat) : vI := up2 (up2 I x 16 k) (x + 857) j (I (x + 857) j + 1)
def cAcc (I : vI) (x : Nat) : vI := up2 I x 16 0
theorem c_X11_accept {d : Nat} {S : vS} {I : vI} {L : vL} {Q : Int32 → vS → vI → vL → Prop} {x : Nat} {v : Int32} (hC : ClsS S x) (h : Q v S (cAcc I x) L) : Vc mX11_accept d 0 0 [.ref x, .int v] S I L (ViQ Q) := by
  refine Vc.of rfl (Nat.le_of_ble_eq_true rfl) ?_
  have B := bs_X11_accept
  show Vw mX11_accept d 0 0 0 0 (ViQ Q) 0 [(0, .ref x), (1, .int v)] [] S I L
  refine Vw.aload_n (de_aload_0 (B 0 _ rfl)) 0 rfl (n := 1) rfl ?_
  refine Vw.iconst (v := 0) (de_iconst_0 (B 1 _ rfl)) rfl (n := 2) rfl ?_
  refine Vw.putI (de_putfield (B 2 _ rfl) (B 3 _ rfl) (B 4 _ rfl)) fl_X11_410 hC.k rfl rfl (n := 5) rfl ?_
  refine Vw.iload_n (de_iload_1 (B 5 _ rfl)) 1 rfl (n := 6) rfl ?_
  exact Vw.iret (de_ireturn (B 6 _ rfl)) rfl ⟨_, rfl, h⟩
theorem neg_neg32 (a : Int32) : -(-a) = a := by rw [Int32.neg_neg]
theorem lie06 {j : Nat} (h : j ≤ 6) : ¬ zLie (nI j) 0 6 = 0 := by
  rw [zLie_iff, nI_ti (by omega)]
  show (0 : Int) ≤ _ ∧ _ ≤ (6 : Int)
  omega
theorem c_X11_refuse {d : Nat} {S : vS} {I : vI} {L : vL} {Q : Int32 → vS → vI → vL → Prop} {x j : Nat} {k : Int32} (hC : ClsS S x) (hj : -k = nI j) (hj6 : j ≤ 6) (h : Q k S (cRef I x k j) L) : Vc mX11_refuse (d + 1) 0 0 [.ref x, .int k] S I L (ViQ Q) := by
  refine Vc.of rfl (Nat.le_of_ble_eq_true rfl) ?_
  have B := bs_X11_refuse
  show Vw mX11_refuse (d + 1) 0 0 0 0 (ViQ Q) 0 [(0, .ref x), (1, .int k)] [] S I L
  refine Vw.aload_n (de_aload_0 (B 0 _ rfl)) 0 rfl (n := 1) rfl ?_
  refine Vw.iload_n (de_iload_1 (B 1 _ rfl)) 1 rfl (n := 2) rfl ?_
  refine Vw.putI (de_putfield (B 2 _ rfl) (B 3 _ rfl) (B 4 _ rfl)) fl_X11_410 hC.k rfl rfl (n := 5) rfl ?_
  refine Vw.iload_n (de_iload_1 (B 5 _ rfl)) 1 rfl (n := 6) rfl ?_
  refine Vw.ineg (de_ineg (B 6 _ rfl)) (n := 7) rfl ?_
  rw [hj]
  refine Vw.iconst (v := 0) (de_iconst_0 (B 7 _ rfl)) rfl (n := 8) rfl ?_
  refine Vw.aload_n (de_aload_0 (B 8 _ rfl)) 0 rfl (n := 9) rfl ?_
  refine Vw.getR (de_getfield (B 9 _ rfl) (B 10 _ rfl) (B 11 _ rfl)) fl_X11_93 rfl hC.k hC.f17 (n := 12) rfl ?_
  refine Vw.alen (de_arraylength (B 12 _ rfl)) hC.r17 (i := nI 7) rfl (n := 13) rfl ?_
  refine Vw.iconst (v := 1) (de_iconst_1 (B 13 _ rfl)) rfl (n := 14) rfl ?_
  refine Vw.isub (de_isub (B 14 _ rfl)) (n := 15) rfl ?_
  rw [show (nI 7 : Int32) - 1 = 6 from rfl]
  refine Vw.isi3 (mi' := mX11_isWithin) (de_invokestatic (B 15 _ rfl) (B 16 _ rfl) (B 17 _ rfl)) ml_X11_165 ms_X11_isWithin (Nat.le_of_ble_eq_true rfl) (n := 18) rfl (c_X11_isWithin ?_)
  refine Vw.if_eq (tgt := 32) (n := 21) (de_if_eq (B 18 _ rfl) (B 19 _ rfl) (B 20 _ rfl)) rfl rfl (fun c_18 => ?_) (fun c_18 => ?_)
  · exact absurd c_18 (lie06 hj6)
  refine Vw.aload_n (de_aload_0 (B 21 _ rfl)) 0 rfl (n := 22) rfl ?_
  refine Vw.getR (de_getfield (B 22 _ rfl) (B 23 _ rfl) (B 24 _ rfl)) fl_X11_93 rfl hC.k hC.f17 (n := 25) rfl ?_
  refine Vw.iload_n (de_iload_1 (B 25 _ rfl)) 1 rfl (n := 26) rfl ?_
  refine Vw.ineg (de_ineg (B 26 _ rfl)) (n := 27) rfl ?_
  rw [hj]
  refine Vw.dup2 (de_dup2 (B 27 _ rfl)) rfl rfl (n := 28) rfl ?_
  refine Vw.iald (de_iaload (B 28 _ rfl)) hC.r17 (vIx_n (k := j) rfl (by omega)) (n := 29) rfl ?_
  rw [up2_a (show x + 857 ≠ x by omega)]
  refine Vw.iconst (v := 1) (de_iconst_1 (B 29 _ rfl)) rfl (n := 30) rfl ?_
  refine Vw.iadd (de_iadd (B 30 _ rfl)) (n := 31) rfl ?_
  refine Vw.iast (de_iastore (B 31 _ rfl)) hC.r17 (vIx_n (k := j) rfl (by omega)) (n := 32) rfl ?_
  refine Vw.iload_n (de_iload_1 (B 32 _ rfl)) 1 rfl (n := 33) rfl ?_
  exact Vw.iret (de_ireturn (B 33 _ rfl)) rfl ⟨_, rfl, h⟩
theorem c_X11_judge {d : Nat} {S : vS} {I : vI} {L : vL} {Q : Int32 → vS → vI → vL → Prop} {x : Nat} {v : Int32} (hC : ClsS S x) (h0 : v < 0 → ∃ j, j ≤ 6 ∧ -v = nI j ∧ Q v S (cRef I x v j) L) (h : ¬ v < 0 → Q v S (cAcc I x) L) : Vc mX11_judge (d + 2) 0 0 [.ref x, .int v] S I L (ViQ Q) := by
  refine Vc.of rfl (Nat.le_of_ble_eq_true rfl) ?_
  have B := bs_X11_judge
  show Vw mX11_judge (d + 2) 0 0 0 0 (ViQ Q) 0 [(0, .ref x), (1, .int v)] [] S I L
  refine Vw.iload_n (de_iload_1 (B 0 _ rfl)) 1 rfl (n := 1) rfl ?_
  refine Vw.if_ge (tgt := 12) (n := 4) (de_if_ge (B 1 _ rfl) (B 2 _ rfl) (B 3 _ rfl)) rfl rfl (fun c_1 => ?_) (fun c_1 => ?_)
  · refine Vw.aload_n (de_aload_0 (B 12 _ rfl)) 0 rfl (n := 13) rfl ?_
    refine Vw.iload_n (de_iload_1 (B 13 _ rfl)) 1 rfl (n := 14) rfl ?_
    refine Vw.ivi1 (mi' := mX11_accept) (de_invokevirtual (B 14 _ rfl) (B 15 _ rfl) (B 16 _ rfl)) ml_X11_117 mv_X11_accept hC.k (Nat.le_of_ble_eq_true rfl) (n := 17) rfl (c_X11_accept hC ?_)
    exact Vw.iret (de_ireturn (B 17 _ rfl)) rfl ⟨_, rfl, (by first | exact hQ | exact h (Int32.not_lt.mpr c_1))⟩
  obtain ⟨j, j1, j2, hQ⟩ := h0 (Int32.not_le.mp c_1)
  refine Vw.aload_n (de_aload_0 (B 4 _ rfl)) 0 rfl (n := 5) rfl ?_
  refine Vw.iload_n (de_iload_1 (B 5 _ rfl)) 1 rfl (n := 6) rfl ?_
  refine Vw.ivi1 (mi' := mX11_refuse) (de_invokevirtual (B 6 _ rfl) (B 7 _ rfl) (B 8 _ rfl)) ml_X11_100 mv_X11_refuse hC.k (Nat.le_of_ble_eq_true rfl) (n := 9) rfl (c_X11_refuse hC j2 j1 ?_)
  refine Vw.goto_ (n := 17) (de_goto_ (B 9 _ rfl) (B 10 _ rfl) (B 11 _ rfl)) rfl ?_
  exact Vw.iret (de_ireturn (B 17 _ rfl)) rfl ⟨_, rfl, (by first | exact hQ | exact h (Int32.not_lt.mpr c_1))⟩
theorem cRef_o {I : vI} {x j b : Nat} {k : Int32} (h1 : b ≠ x) (h2 : b ≠ x + 857) : cRef I x k j b = I b := by unfold cRef; rw [up2_row h2, up2_row h1]
theorem cRef_16 {I : vI} {x j : Nat} {k : Int32} : cRef I x k j x 16 = k := by unfold cRef; rw [up2_a (by omega), up2_s]
theorem cRef_k {I : vI} {x j i : Nat} {k : Int32} (h : i ≠ 16) : cRef I x k j x i = I x i := by unfold cRef; rw [up2_a (by omega), up2_k h]
theorem cRef_r {I : vI} {x j i : Nat} {k : Int32} : cRef I x k j (x + 857) i = if i = j then I (x + 857) j + 1 else I (x + 857) i := by
  unfold cRef
  by_cases h : i = j
  · rw [if_pos h, h, up2_s]
  · rw [if_neg h, up2_k h, up2_a (by omega)]
theorem mRef_o {I : vI} {r j b : Nat} {k : Int32} (h1 : b ≠ r) (h2 : b ≠ r + 1) : mRef I r k j b = I b := by unfold mRef; rw [up2_row h2, up2_row h1]
theorem mRef_0 {I : vI} {r j : Nat} {k : Int32} : mRef I r k j r 0 = k := by unfold mRef; rw [up2_a (by omega), up2_s]
theorem mRef_k {I : vI} {r j i : Nat} {k : Int32} (h : i ≠ 0) : mRef I r k j r i = I r i := by unfold mRef; rw [up2_a (by omega), up2_k h]
theorem mRef_r {I : vI} {r j i : Nat} {k : Int32} : mRef I r k j (r + 1) i = if i = j then I (r + 1) j + 1 else I (r + 1) i := by
  unfold mRef
  by_cases h : i = j
  · rw [if_pos h, h, up2_s]
  · rw [if_neg h, up2_k h, up2_a (by omega)]
/-- alike but for a call that is refused -/
theorem REL.ref {S : vS} {I : vI} {x r lb j : Nat} {k : Int32} (h : REL S I x r lb) (hj : j < 7) : REL S (mRef (cRef I x k j) r k j) x r lb := by
  obtain ⟨l, np, nc, ns, nl, h1, h2, h3, h4, h5⟩ := h
  have h1b := h1
  have h5b := h5
  obtain ⟨hs, hH, hold, ⟨n, n4, zn, xn⟩, hu, h13, h14, h15, h16, hrf, him, hy, nd, nd8, z54, hyr⟩ := h1
  obtain ⟨-, -, -, er, el, -⟩ := h5
  have row : ∀ b, b ≠ x → b ≠ x + 857 → b ≠ r → b ≠ r + 1 → mRef (cRef I x k j) r k j b = I b := fun b g1 g2 g3 g4 => by rw [mRef_o g3 g4, cRef_o g1 g2]
  have xk : ∀ i, i ≠ 16 → mRef (cRef I x k j) r k j x i = I x i := fun i hi => by rw [mRef_o (by omega) (by omega), cRef_k hi]
  have rk : ∀ i, i ≠ 0 → mRef (cRef I x k j) r k j r i = I r i := fun i hi => by rw [mRef_k hi, cRef_o (by omega) (by omega)]
  refine REL.upd (np2 := np) (nc2 := nc) (ns2 := ns) (nl2 := nl) (l2 := l) h1b h4 h5b (fun b i hb => by rw [row b (by omega) (by omega) (by omega) (by omega)]) (fun b hb => row b (by omega) (by omega) (by omega) (by omega)) (rk _ (by decide)) (rk _ (by decide)) ?_ ?_ ?_ ?_ ?_ ?_ (fun i hi => ?_) ?_ ?_ ?_ ?_ (fun i hi => ?_)
  · rw [row (r + 2) (by omega) (by omega) (by omega) (by omega)]; exact hs.of (fun b g1 g2 => row b (by omega) (by omega) (by omega) (by omega)) (fun b hb => row b (by omega) (by omega) (by omega) (by omega))
  · exact hH.of hs.tn.1 (fun b g1 g2 => row b (by omega) (by omega) (by omega) (by omega))
  · rw [row (r + 14) (by omega) (by omega) (by omega) (by omega)]; exact h2
  · rw [rk _ (by decide)]; exact h3
  · rw [row (x + 460) (by omega) (by omega) (by omega) (by omega)]; exact hold
  · exact ⟨n, n4, by rw [rk _ (by decide)]; exact zn, by rw [xk _ (by decide)]; exact xn⟩
  · rw [row (x + 856) (by omega) (by omega) (by omega) (by omega), row (r + 7) (by omega) (by omega) (by omega) (by omega)]; exact hu i hi
  · rw [xk _ (by decide), rk _ (by decide)]; exact h13
  · rw [xk _ (by decide), rk _ (by decide)]; exact h14
  · rw [xk _ (by decide), rk _ (by decide)]; exact h15
  · rw [mRef_0, mRef_o (by omega) (by omega), cRef_16]
  · rw [mRef_r, mRef_o (by omega) (by omega), cRef_r, cRef_o (b := r + 1) (by omega) (by omega)]
    by_cases q : i = j
    · rw [if_pos q, if_pos q, hrf j hj]
    · rw [if_neg q, if_neg q]; exact hrf i hi
