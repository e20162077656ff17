/-! feed, row: alike -/
theorem pr_feed {S : vS} {I : vI} {L : vL} {x r lb : Nat} {a b c dd e : Int32} (hR : REL S I x r lb) : PR mX11_feed mX12_feed 0 0 [.int a, .int b, .int c, .int dd, .int e] x r lb S I L := by
  intro d Q h
  obtain ⟨l, np, nc, ns, nl, hCP, hL, h32, hWd, hSP⟩ := hR
  have hR : REL S I x r lb := ⟨l, np, nc, ns, nl, hCP, hL, h32, hWd, hSP⟩
  have hs := hCP.1
  have hH := hCP.2.1
  have hN := hs.tn
  obtain ⟨hC, hM, hst, er, el, hl2⟩ := id hSP
  obtain ⟨-, -, hold, ⟨n, n4, zn, xn⟩, hu, h13, h14, h15, h16, hrf, him, hy, nd, nd8, z54, hyr⟩ := id hCP
  refine k_feed hC hs hH (by omega) xn n4 (fun c1 => h _ S _ L (fun _ _ => rfl) (fun d2 Q2 g => c_X12_feed (n := n) hM zn n4 (fun _ => g _ _ hR (fun _ _ => rfl)) (fun q => absurd q (by omega)))) (fun c1 I2 f2 n2 t2 => h _ S _ L (fun _ _ => rfl) (fun d2 Q2 g => ?_))
  have r2 : ∀ b, b ≠ x → b ≠ x + 856 → I2 b = I b := fun b q1 q2 => funext fun k => f2 b k q2 (by omega)
  refine c_X12_feed (n := n) hM (by rw [r2 r (by omega) (by omega)]; exact zn) n4 (fun q => absurd q (by omega)) (fun _ J fj tj nj => ?_)
  rw [r2 (r + 7) (by omega) (by omega)] at tj
  have row : ∀ b, b ≠ x → b ≠ x + 856 → b ≠ r → b ≠ r + 7 → b ≠ r + 8 → J b = I b := fun b q1 q2 q3 q4 q5 => funext fun k => by rw [fj b k q4 q5 (by omega), r2 b q1 q2]
  have xk : ∀ k, k ≠ 12 → J x k = I x k := fun k hk => by rw [fj x k (by omega) (by omega) (by omega), f2 x k (by omega) (by omega)]
  have rk : ∀ k, k ≠ 11 → J r k = I r k := fun k hk => by rw [fj r k (by omega) (by omega) (by omega), r2 r (by omega) (by omega)]
  refine g _ _ (REL.upd (np2 := np) (nc2 := nc) (ns2 := ns) (nl2 := nl) (l2 := l) hCP hWd hSP (fun b k hb => by rw [row b (by omega) (by omega) (by omega) (by omega) (by omega)]) (fun b hb => row b (by omega) (by omega) (by omega) (by omega) (by omega)) (rk _ (by decide)) (rk _ (by decide)) ?_ ?_ ?_ ?_ ?_ ⟨n + 20, by omega, nj, by rw [fj x _ (by omega) (by omega) (by omega)]; exact n2⟩ (fun j hj => ?_) ?_ ?_ ?_ ?_ (fun i hi => ?_)) (fun b hb => row b (by omega) (by omega) (by omega) (by omega) (by omega))
  · rw [row (r + 2) (by omega) (by omega) (by omega) (by omega) (by omega)]; exact hs.of (fun b g1 g2 => row b (by omega) (by omega) (by omega) (by omega) (by omega)) (fun b hb => row b (by omega) (by omega) (by omega) (by omega) (by omega))
  · exact hH.of hN.1 (fun b g1 g2 => row b (by omega) (by omega) (by omega) (by omega) (by omega))
  · rw [row (r + 14) (by omega) (by omega) (by omega) (by omega) (by omega)]; exact hL
  · rw [rk _ (by decide)]; exact h32
  · rw [row (x + 460) (by omega) (by omega) (by omega) (by omega) (by omega)]; exact hold
  · rw [fj (x + 856) j (by omega) (by omega) (by omega), t2 j, tj]
    unfold feedT
    by_cases z : n ≤ j ∧ j < n + 20
    · rw [if_pos z, if_pos z]; exact ⟨(uby_eq (Nat.mod_lt _ (by decide))).symm, bt_at _ _⟩
    · rw [if_neg z, if_neg z]; exact hu j hj
  · rw [xk _ (by decide), rk _ (by decide)]; exact h13
  · rw [xk _ (by decide), rk _ (by decide)]; exact h14
  · rw [xk _ (by decide), rk _ (by decide)]; exact h15
  · rw [xk _ (by decide), rk _ (by decide)]; exact h16
  · rw [row (x + 857) (by omega) (by omega) (by omega) (by omega) (by omega), row (r + 1) (by omega) (by omega) (by omega) (by omega) (by omega)]; exact hrf i hi
theorem nI_p1 {n : Nat} : nI n + 1 = nI (n + 1) := nI_1 n
theorem nI_p2 {n : Nat} : nI n + 2 = nI (n + 2) := nI_add n 2
theorem nI_p3 {n : Nat} : nI n + 3 = nI (n + 3) := nI_add n 3
theorem nI_le3 {a b : Nat} (ha : a < 100000) (hb : b < 100000) : nI a ≤ nI b ↔ a ≤ b := by rw [i32_le, nI_ti (by omega), nI_ti (by omega)]; omega
theorem c_X11_addFromTape {d : Nat} {S : vS} {I : vI} {L : vL} {Q : Int32 → vS → vI → vL → Prop} {x np nc sz i : Nat} {K T : Nat → Int32} (hC : ClsS S x) (hK : TR I (x + 1 + 1) K np nc) (h8 : np ≤ 8) (h10 : nc ≤ 10) (hn : I x 12 = nI sz) (h4 : sz ≤ 400) (ht : ∀ j, j < 400 → I (x + 856) j = T j &&& 255) (hi : 3 * i < sz) (h0 : sz < 3 * i + 3 ∨ np = 8 ∨ rowCan T i = 0 → Q 0 S I L) (h : 3 * i + 3 ≤ sz → np < 8 → ¬ rowCan T i = 0 → ∀ I2, (∀ b, ¬ (x + 2 ≤ b ∧ b ≤ x + 24) → I2 b = I b) → TR I2 (x + 1 + 1) (addK K np (T (3 * i) &&& 255) (T (3 * i + 1) &&& 255) (T (3 * i + 2) &&& 255)) (np + 1) nc → Q 1 S I2 L) : Vc mX11_addFromTape (d + 2) 0 0 [.ref x, .int (nI (3 * i))] S I L (ViQ Q) := by
  refine Vc.of rfl (Nat.le_of_ble_eq_true rfl) ?_
  have B := bs_X11_addFromTape
  show Vw mX11_addFromTape (d + 2) 0 0 0 0 (ViQ Q) 0 [(0, .ref x), (1, .int (nI (3 * i)))] [] S I L
  have hT := hC.p0.p0
  refine Vw.iload_n (de_iload_1 (B 0 _ rfl)) 1 rfl (n := 1) rfl ?_
  refine Vw.iconst (v := 3) (de_iconst_3 (B 1 _ rfl)) rfl (n := 2) rfl ?_
  refine Vw.iadd (de_iadd (B 2 _ rfl)) (n := 3) rfl ?_
  rw [nI_p3]
  refine Vw.aload_n (de_aload_0 (B 3 _ rfl)) 0 rfl (n := 4) rfl ?_
  refine Vw.getI (de_getfield (B 4 _ rfl) (B 5 _ rfl) (B 6 _ rfl)) fl_X11_191 rfl hC.k (n := 7) rfl ?_
  rw [hn]
  refine Vw.icmp_gt (tgt := 25) (n := 10) (de_icmp_gt (B 7 _ rfl) (B 8 _ rfl) (B 9 _ rfl)) rfl rfl (fun c_7 => ?_) (fun c_7 => ?_)
  · refine Vw.iconst (v := 0) (de_iconst_0 (B 25 _ rfl)) rfl (n := 26) rfl ?_
    exact Vw.zret (de_ireturn (B 26 _ rfl)) rfl rfl ⟨_, rfl, (h0 (by first | exact Or.inl (by rcases Nat.lt_or_ge sz (3 * i + 3) with z | z; exact z; exact absurd (i32_lt.mp c_7) (by rw [nI_ti (by omega), nI_ti (by omega)]; omega)) | exact Or.inr (Or.inl (by rcases Nat.lt_or_ge np 8 with z | z; exact absurd (i32_lt.mpr (by rw [nI_ti (by omega)]; show (np : Int) < 8; omega)) c_22; omega))))⟩
  have s3 : 3 * i + 3 ≤ sz := by rcases Nat.lt_or_ge sz (3 * i + 3) with z | z; exact absurd (i32_lt.mpr (by rw [nI_ti (by omega), nI_ti (by omega)]; omega)) c_7; exact z
  refine Vw.aload_n (de_aload_0 (B 10 _ rfl)) 0 rfl (n := 11) rfl ?_
  refine Vw.getR (de_getfield (B 11 _ rfl) (B 12 _ rfl) (B 13 _ rfl)) fl_X11_12 rfl hC.k hC.f0 (n := 14) rfl ?_
  refine Vw.getR (de_getfield (B 14 _ rfl) (B 15 _ rfl) (B 16 _ rfl)) fl_X11_104 rfl hC.p0.k hC.p0.f0 (n := 17) rfl ?_
  refine Vw.getI (de_getfield (B 17 _ rfl) (B 18 _ rfl) (B 19 _ rfl)) fl_X11_107 rfl hC.p0.p0.k (n := 20) rfl ?_
  rw [hK.1]
  refine Vw.bipush (v := 8) (de_bipush (B 20 _ rfl) (B 21 _ rfl)) rfl (n := 22) rfl ?_
  refine Vw.icmp_lt (tgt := 27) (n := 25) (de_icmp_lt (B 22 _ rfl) (B 23 _ rfl) (B 24 _ rfl)) rfl rfl (fun c_22 => ?_) (fun c_22 => ?_)
  · have np8 : np < 8 := by rcases Nat.lt_or_ge np 8 with z | z; exact z; exact absurd (i32_lt.mp c_22) (by rw [nI_ti (by omega)]; show ¬ (np : Int) < 8; omega)
    refine Vw.aload_n (de_aload_0 (B 27 _ rfl)) 0 rfl (n := 28) rfl ?_
    refine Vw.getR (de_getfield (B 28 _ rfl) (B 29 _ rfl) (B 30 _ rfl)) fl_X11_82 rfl hC.k hC.f11 (n := 31) rfl ?_
    refine Vw.iload_n (de_iload_1 (B 31 _ rfl)) 1 rfl (n := 32) rfl ?_
    refine Vw.iald (de_iaload (B 32 _ rfl)) hC.r11 (vIx_n (k := 3 * i) rfl (by omega)) (n := 33) rfl ?_
    rw [ht (3 * i) (by omega)]
    refine Vw.aload_n (de_aload_0 (B 33 _ rfl)) 0 rfl (n := 34) rfl ?_
    refine Vw.getR (de_getfield (B 34 _ rfl) (B 35 _ rfl) (B 36 _ rfl)) fl_X11_82 rfl hC.k hC.f11 (n := 37) rfl ?_
    refine Vw.iload_n (de_iload_1 (B 37 _ rfl)) 1 rfl (n := 38) rfl ?_
    refine Vw.iconst (v := 1) (de_iconst_1 (B 38 _ rfl)) rfl (n := 39) rfl ?_
    refine Vw.iadd (de_iadd (B 39 _ rfl)) (n := 40) rfl ?_
    rw [nI_p1]
    refine Vw.iald (de_iaload (B 40 _ rfl)) hC.r11 (vIx_n (k := 3 * i + 1) rfl (by omega)) (n := 41) rfl ?_
    rw [ht (3 * i + 1) (by omega)]
    refine Vw.aload_n (de_aload_0 (B 41 _ rfl)) 0 rfl (n := 42) rfl ?_
    refine Vw.getR (de_getfield (B 42 _ rfl) (B 43 _ rfl) (B 44 _ rfl)) fl_X11_82 rfl hC.k hC.f11 (n := 45) rfl ?_
    refine Vw.iload_n (de_iload_1 (B 45 _ rfl)) 1 rfl (n := 46) rfl ?_
    refine Vw.iconst (v := 2) (de_iconst_2 (B 46 _ rfl)) rfl (n := 47) rfl ?_
    refine Vw.iadd (de_iadd (B 47 _ rfl)) (n := 48) rfl ?_
    rw [nI_p2]
    refine Vw.iald (de_iaload (B 48 _ rfl)) hC.r11 (vIx_n (k := 3 * i + 2) rfl (by omega)) (n := 49) rfl ?_
    rw [ht (3 * i + 2) (by omega)]
    refine Vw.isi3 (mi' := mX11_canBePerson) (de_invokestatic (B 49 _ rfl) (B 50 _ rfl) (B 51 _ rfl)) ml_X11_96 ms_X11_canBePerson (Nat.le_of_ble_eq_true rfl) (n := 52) rfl (c_X11_canBePerson ?_)
    refine Vw.if_ne (tgt := 57) (n := 55) (de_if_ne (B 52 _ rfl) (B 53 _ rfl) (B 54 _ rfl)) rfl rfl (fun c_52 => ?_) (fun c_52 => ?_)
    · refine Vw.aload_n (de_aload_0 (B 57 _ rfl)) 0 rfl (n := 58) rfl ?_
      refine Vw.getR (de_getfield (B 58 _ rfl) (B 59 _ rfl) (B 60 _ rfl)) fl_X11_12 rfl hC.k hC.f0 (n := 61) rfl ?_
      refine Vw.getR (de_getfield (B 61 _ rfl) (B 62 _ rfl) (B 63 _ rfl)) fl_X11_104 rfl hC.p0.k hC.p0.f0 (n := 64) rfl ?_
      refine Vw.aload_n (de_aload_0 (B 64 _ rfl)) 0 rfl (n := 65) rfl ?_
      refine Vw.getR (de_getfield (B 65 _ rfl) (B 66 _ rfl) (B 67 _ rfl)) fl_X11_82 rfl hC.k hC.f11 (n := 68) rfl ?_
      refine Vw.iload_n (de_iload_1 (B 68 _ rfl)) 1 rfl (n := 69) rfl ?_
      refine Vw.iald (de_iaload (B 69 _ rfl)) hC.r11 (vIx_n (k := 3 * i) rfl (by omega)) (n := 70) rfl ?_
      rw [ht (3 * i) (by omega)]
      refine Vw.aload_n (de_aload_0 (B 70 _ rfl)) 0 rfl (n := 71) rfl ?_
      refine Vw.getR (de_getfield (B 71 _ rfl) (B 72 _ rfl) (B 73 _ rfl)) fl_X11_82 rfl hC.k hC.f11 (n := 74) rfl ?_
      refine Vw.iload_n (de_iload_1 (B 74 _ rfl)) 1 rfl (n := 75) rfl ?_
      refine Vw.iconst (v := 1) (de_iconst_1 (B 75 _ rfl)) rfl (n := 76) rfl ?_
      refine Vw.iadd (de_iadd (B 76 _ rfl)) (n := 77) rfl ?_
      rw [nI_p1]
      refine Vw.iald (de_iaload (B 77 _ rfl)) hC.r11 (vIx_n (k := 3 * i + 1) rfl (by omega)) (n := 78) rfl ?_
      rw [ht (3 * i + 1) (by omega)]
      refine Vw.aload_n (de_aload_0 (B 78 _ rfl)) 0 rfl (n := 79) rfl ?_
      refine Vw.getR (de_getfield (B 79 _ rfl) (B 80 _ rfl) (B 81 _ rfl)) fl_X11_82 rfl hC.k hC.f11 (n := 82) rfl ?_
      refine Vw.iload_n (de_iload_1 (B 82 _ rfl)) 1 rfl (n := 83) rfl ?_
      refine Vw.iconst (v := 2) (de_iconst_2 (B 83 _ rfl)) rfl (n := 84) rfl ?_
      refine Vw.iadd (de_iadd (B 84 _ rfl)) (n := 85) rfl ?_
      rw [nI_p2]
      refine Vw.iald (de_iaload (B 85 _ rfl)) hC.r11 (vIx_n (k := 3 * i + 2) rfl (by omega)) (n := 86) rfl ?_
      rw [ht (3 * i + 2) (by omega)]
      refine Vw.ivi3 (mi' := mX9_addPerson) (de_invokevirtual (B 86 _ rfl) (B 87 _ rfl) (B 88 _ rfl)) ml_X11_113 mv_X9_addPerson hC.p0.p0.k (Nat.le_of_ble_eq_true rfl) (n := 89) rfl (c_X9_addPerson hT hK np8 h10 (fun I2 f2 k2 => ?_))
      refine Vw.pop (de_pop (B 89 _ rfl)) rfl (n := 90) rfl ?_
      refine Vw.iconst (v := 1) (de_iconst_1 (B 90 _ rfl)) rfl (n := 91) rfl ?_
      exact Vw.zret (de_ireturn (B 91 _ rfl)) rfl rfl ⟨_, rfl, (h s3 np8 c_52 I2 (fun b q => f2 b (by omega)) k2)⟩
    refine Vw.iconst (v := 0) (de_iconst_0 (B 55 _ rfl)) rfl (n := 56) rfl ?_
    exact Vw.zret (de_ireturn (B 56 _ rfl)) rfl rfl ⟨_, rfl, (h0 (Or.inr (Or.inr c_52)))⟩
  refine Vw.iconst (v := 0) (de_iconst_0 (B 25 _ rfl)) rfl (n := 26) rfl ?_
  exact Vw.zret (de_ireturn (B 26 _ rfl)) rfl rfl ⟨_, rfl, (h0 (by first | exact Or.inl (by rcases Nat.lt_or_ge sz (3 * i + 3) with z | z; exact z; exact absurd (i32_lt.mp c_7) (by rw [nI_ti (by omega), nI_ti (by omega)]; omega)) | exact Or.inr (Or.inl (by rcases Nat.lt_or_ge np 8 with z | z; exact absurd (i32_lt.mpr (by rw [nI_ti (by omega)]; show (np : Int) < 8; omega)) c_22; omega))))⟩
theorem row_1 {d x n1 nc sz i a b : Nat} {S : vS} {I : vI} {L : vL} {Q : Int32 → vS → vI → vL → Prop} {K T : Nat → Int32} (hC : ClsS S x) (h8 : n1 ≤ 8) (h10 : nc ≤ 10) (hn : I x 12 = nI sz) (h4 : sz ≤ 400) (ht : ∀ j, j < 400 → I (x + 856) j = T j &&& 255) (hK : TR I (x + 1 + 1) K n1 nc) (hi : 3 * i < sz) (k0 : sz < 3 * i + 3 ∨ n1 = 8 ∨ rowCan T i = 0 → Vw mX11_row (d + 80) 0 0 0 0 (ViQ Q) 20 [(0, .ref x), (1, .int (nI a)), (2, .int (nI (b + 1))), (3, .int (nI (3 * i + 3)))] [] S I L) (k1 : 3 * i + 3 ≤ sz → n1 < 8 → ¬ rowCan T i = 0 → ∀ I2, (∀ b, ¬ (x + 2 ≤ b ∧ b ≤ x + 24) → I2 b = I b) → TR I2 (x + 1 + 1) (addK K n1 (T (3 * i) &&& 255) (T (3 * i + 1) &&& 255) (T (3 * i + 2) &&& 255)) (n1 + 1) nc → Vw mX11_row (d + 80) 0 0 0 0 (ViQ Q) 20 [(0, .ref x), (1, .int (nI (a + 1))), (2, .int (nI b)), (3, .int (nI (3 * i + 3)))] [] S I2 L) : Vw mX11_row (d + 80) 0 0 0 0 (ViQ Q) 20 [(0, .ref x), (1, .int (nI a)), (2, .int (nI b)), (3, .int (nI (3 * i)))] [] S I L := by
  have B := bs_X11_row
  refine Vw.iload_n (de_iload_3 (B 20 _ rfl)) 3 rfl (n := 21) rfl ?_
  refine Vw.aload_n (de_aload_0 (B 21 _ rfl)) 0 rfl (n := 22) rfl ?_
  refine Vw.getI (de_getfield (B 22 _ rfl) (B 23 _ rfl) (B 24 _ rfl)) fl_X11_191 rfl hC.k (n := 25) rfl ?_
  rw [hn]
  refine Vw.icmp_ge (tgt := 51) (n := 28) (de_icmp_ge (B 25 _ rfl) (B 26 _ rfl) (B 27 _ rfl)) rfl rfl (fun c_25 => ?_) (fun c_25 => ?_)
  · exact absurd (i32_le.mp c_25) (by rw [nI_ti (by omega), nI_ti (by omega)]; omega)
  refine Vw.aload_n (de_aload_0 (B 28 _ rfl)) 0 rfl (n := 29) rfl ?_
  refine Vw.iload_n (de_iload_3 (B 29 _ rfl)) 3 rfl (n := 30) rfl ?_
  refine Vw.ivi1 (mi' := mX11_addFromTape) (de_invokevirtual (B 30 _ rfl) (B 31 _ rfl) (B 32 _ rfl)) ml_X11_198 mv_X11_addFromTape hC.k (Nat.le_of_ble_eq_true rfl) (n := 33) rfl (c_X11_addFromTape (d := d + 77) hC hK h8 h10 hn h4 ht hi (fun w0 => ?_) (fun w1 w2 w3 I2 f2 t2 => ?_))
  · refine Vw.if_eq (tgt := 42) (n := 36) (de_if_eq (B 33 _ rfl) (B 34 _ rfl) (B 35 _ rfl)) rfl rfl (fun c_33 => ?_) (fun c_33 => ?_)
    · refine Vw.iinc (v := nI (b + 1)) (lv2 := [(0, _), (1, _), (2, _), (3, _)]) (de_iinc (B 42 _ rfl) (B 43 _ rfl) (B 44 _ rfl)) 2 rfl (nI_1 b) (by decide) [1, 2, 0, 3] rfl (n := 45) rfl ?_
      refine Vw.iinc (v := nI (3 * i + 3)) (lv2 := [(0, _), (1, _), (2, _), (3, _)]) (de_iinc (B 45 _ rfl) (B 46 _ rfl) (B 47 _ rfl)) 3 rfl (nI_p3 (n := 3 * i)) (by decide) [1, 2, 3, 0] rfl (n := 48) rfl ?_
      refine Vw.goto_ (n := 20) (de_goto_ (B 48 _ rfl) (B 49 _ rfl) (B 50 _ rfl)) rfl ?_
      first | exact k0 w0 | exact k1 w1 w2 w3 I2 f2 t2
    exact absurd c_33 (by decide)
  · refine Vw.if_eq (tgt := 42) (n := 36) (de_if_eq (B 33 _ rfl) (B 34 _ rfl) (B 35 _ rfl)) rfl rfl (fun c_33 => ?_) (fun c_33 => ?_)
    · exact absurd c_33 (by decide)
    refine Vw.iinc (v := nI (a + 1)) (lv2 := [(0, _), (1, _), (2, _), (3, _)]) (de_iinc (B 36 _ rfl) (B 37 _ rfl) (B 38 _ rfl)) 1 rfl (nI_1 a) (by decide) [1, 0, 2, 3] rfl (n := 39) rfl ?_
    refine Vw.goto_ (n := 45) (de_goto_ (B 39 _ rfl) (B 40 _ rfl) (B 41 _ rfl)) rfl ?_
    refine Vw.iinc (v := nI (3 * i + 3)) (lv2 := [(0, _), (1, _), (2, _), (3, _)]) (de_iinc (B 45 _ rfl) (B 46 _ rfl) (B 47 _ rfl)) 3 rfl (nI_p3 (n := 3 * i)) (by decide) [1, 2, 3, 0] rfl (n := 48) rfl ?_
    refine Vw.goto_ (n := 20) (de_goto_ (B 48 _ rfl) (B 49 _ rfl) (B 50 _ rfl)) rfl ?_
    first | exact k0 w0 | exact k1 w1 w2 w3 I2 f2 t2
theorem row_e {d x sz c : Nat} {S : vS} {I : vI} {L : vL} {Q : Int32 → vS → vI → vL → Prop} {a b : Int32} (hC : ClsS S x) (hn : I x 12 = nI sz) (h4 : sz ≤ 400) (hc : sz ≤ c) (hc2 : c ≤ 500) (k : Vw mX11_row (d + 80) 0 0 0 0 (ViQ Q) 51 [(0, .ref x), (1, .int (a)), (2, .int (b)), (3, .int (nI c))] [] S I L) : Vw mX11_row (d + 80) 0 0 0 0 (ViQ Q) 20 [(0, .ref x), (1, .int (a)), (2, .int (b)), (3, .int (nI c))] [] S I L := by
  have B := bs_X11_row
  refine Vw.iload_n (de_iload_3 (B 20 _ rfl)) 3 rfl (n := 21) rfl ?_
  refine Vw.aload_n (de_aload_0 (B 21 _ rfl)) 0 rfl (n := 22) rfl ?_
  refine Vw.getI (de_getfield (B 22 _ rfl) (B 23 _ rfl) (B 24 _ rfl)) fl_X11_191 rfl hC.k (n := 25) rfl ?_
  rw [hn]
  refine Vw.icmp_ge (tgt := 51) (n := 28) (de_icmp_ge (B 25 _ rfl) (B 26 _ rfl) (B 27 _ rfl)) rfl rfl (fun c_25 => ?_) (fun c_25 => ?_)
  · exact k
  exact absurd (i32_le.mpr (by rw [nI_ti (by omega), nI_ti (by omega)]; omega)) c_25
theorem row_l {d x np nc sz : Nat} {S : vS} {I : vI} {L : vL} {Q : Int32 → vS → vI → vL → Prop} {K T : Nat → Int32} (hC : ClsS S x) (h142 : K 142 = nI np) (h8 : np ≤ 8) (h10 : nc ≤ 10) (hn : I x 12 = nI sz) (h4 : sz ≤ 400) (ht : ∀ j, j < 400 → I (x + 856) j = T j &&& 255) (k : ∀ I2 c, (∀ b, ¬ (x + 2 ≤ b ∧ b ≤ x + 24) → I2 b = I b) → TR I2 (x + 1 + 1) (rowP T K np (sz / 3)).1 (rowP T K np (sz / 3)).2 nc → Vw mX11_row (d + 80) 0 0 0 0 (ViQ Q) 51 [(0, .ref x), (1, .int (nI ((rowP T K np (sz / 3)).2 - np))), (2, .int (nI ((if sz % 3 = 0 then 0 else 1) + (sz / 3 - ((rowP T K np (sz / 3)).2 - np))))), (3, .int (nI c))] [] S I2 L) : ∀ m i J, i + m = sz / 3 → (∀ b, ¬ (x + 2 ≤ b ∧ b ≤ x + 24) → J b = I b) → TR J (x + 1 + 1) (rowP T K np i).1 (rowP T K np i).2 nc → Vw mX11_row (d + 80) 0 0 0 0 (ViQ Q) 20 [(0, .ref x), (1, .int (nI ((rowP T K np i).2 - np))), (2, .int (nI (i - ((rowP T K np i).2 - np)))), (3, .int (nI (3 * i)))] [] S J L := by
  intro m
  induction m with
  | zero =>
    intro i J hi f t
    obtain rfl : i = sz / 3 := by omega
    have ok := rowP_ok (T := T) h142 h8 (sz / 3)
    by_cases z : sz % 3 = 0
    · refine row_e (sz := sz) hC (by rw [f x (by omega)]; exact hn) h4 (by omega) (by omega) ?_
      have := k J (3 * (sz / 3)) f t
      rw [if_pos z, Nat.zero_add] at this
      exact this
    · refine row_1 (sz := sz) hC ok.2.2.1 h10 (by rw [f x (by omega)]; exact hn) h4 (fun j hj => by rw [f (x + 856) (by omega)]; exact ht j hj) t (by omega) (fun _ => ?_) (fun w => absurd w (by omega))
      refine row_e (sz := sz) hC (by rw [f x (by omega)]; exact hn) h4 (by omega) (by omega) ?_
      have := k J (3 * (sz / 3) + 3) f t
      rw [if_neg z, Nat.add_comm 1] at this
      exact this
  | succ m ih =>
    intro i J hi f t
    have ok := rowP_ok (T := T) h142 h8 i
    refine row_1 (sz := sz) hC ok.2.2.1 h10 (by rw [f x (by omega)]; exact hn) h4 (fun j hj => by rw [f (x + 856) (by omega)]; exact ht j hj) t (by omega) (fun w => ?_) (fun w1 w2 w3 J2 f2 t2 => ?_)
    · have e : rowP T K np (i + 1) = rowP T K np i := rowP_n (by rcases w with w | w | w; exact absurd w (by omega); exact Or.inr (by omega); exact Or.inl w)
      have := ih (i + 1) J (by omega) f (by rw [e]; exact t)
      rw [e, show i + 1 - ((rowP T K np i).2 - np) = i - ((rowP T K np i).2 - np) + 1 by omega] at this
      exact this
    · have e := rowP_y (K := K) (np := np) w3 w2
      have := ih (i + 1) J2 (by omega) (fun b hb => (f2 b hb).trans (f b hb)) (by rw [e]; exact t2)
      rw [e] at this
      simp only at this
      rw [show (rowP T K np i).2 + 1 - np = (rowP T K np i).2 - np + 1 by omega, show i + 1 - ((rowP T K np i).2 - np + 1) = i - ((rowP T K np i).2 - np) by omega] at this
      exact this
theorem rowP_st {T K : Nat → Int32} {np nc : Nat} (hN : TN K np nc) (hB : KB K np nc) : ∀ i, TN (rowP T K np i).1 (rowP T K np i).2 nc ∧ KB (rowP T K np i).1 (rowP T K np i).2 nc ∧ ∀ y, 122 ≤ y → y ≠ 142 → (rowP T K np i).1 y = K y
  | 0 => ⟨hN, hB, fun _ _ _ => rfl⟩
  | i + 1 => by
    obtain ⟨a, b, c⟩ := rowP_st (T := T) hN hB i
    by_cases z : ¬ rowCan T i = 0 ∧ (rowP T K np i).2 < 8
    · rw [rowP_y z.1 z.2]
      exact ⟨a.add z.2, b.add z.1 z.2 hN.2.1, fun y h1 h2 => by
        show addK _ _ _ _ _ y = _
        unfold addK; rw [upK_n h2, upK_n (by omega), upK_n (by omega), upK_n (by omega), upK_n (by omega)]; exact c y h1 h2⟩
    · rw [rowP_n (by rcases Classical.em (rowCan T i = 0) with w | w; exact Or.inl w; exact Or.inr (by rcases Nat.lt_or_ge (rowP T K np i).2 8 with v | v; exact absurd ⟨w, v⟩ z; exact v))]
      exact ⟨a, b, c⟩
theorem k_row {d : Nat} {S : vS} {I : vI} {L : vL} {Q : Int32 → vS → vI → vL → Prop} {x lb np nc ns nl : Nat} {K : Nat → Int32} {l : List tH} {sz : Nat} {T : Nat → Int32} (hC : ClsS S x) (hs : STR S I (x + 1) lb K np nc ns nl) (hH : HC I (x + 89) l np) (hlb : x + 942 ≤ lb) (hn : I x 12 = nI sz) (h4 : sz ≤ 400) (ht : ∀ j, j < 400 → I (x + 856) j = T j &&& 255) (h1 : sz = 0 → Q (-6) S (cRef I x (-6) 6) L) (h : ¬ sz = 0 → ∀ I2, (∀ b k, ¬ (x + 2 ≤ b ∧ b ≤ x + 24) → b ≠ x + 89 → ¬ (b = x ∧ (k = 12 ∨ k = 13)) → I2 b k = I b k) → TR I2 (x + 1 + 1) (rowP T K np (sz / 3)).1 (rowP T K np (sz / 3)).2 nc → HC I2 (x + 89) [] (rowP T K np (sz / 3)).2 → I2 x 12 = 0 → I2 x 13 = nI ((if sz % 3 = 0 then 0 else 1) + (sz / 3 - ((rowP T K np (sz / 3)).2 - np))) → Q (nI ((rowP T K np (sz / 3)).2 - np)) S (cAcc I2 x) L) : Vc mX11_row (d + 80) 0 0 [.ref x] S I L (ViQ Q) := by
  refine Vc.of rfl (Nat.le_of_ble_eq_true rfl) ?_
  have B := bs_X11_row
  show Vw mX11_row (d + 80) 0 0 0 0 (ViQ Q) 0 [(0, .ref x)] [] S I L
  have hT := hC.p0.p0
  have hN := hs.tn
  have h8 := hN.1
  have h10 := hN.2.1
  have hK := hs.tr
  have hold : ∃ old, old < 16 ∧ I (x + 89) 2 = nI old := by obtain ⟨_, _, old, o1, o2, _⟩ := hH; exact ⟨old, o1, o2⟩
  refine Vw.aload_n (de_aload_0 (B 0 _ rfl)) 0 rfl (n := 1) rfl ?_
  refine Vw.getI (de_getfield (B 1 _ rfl) (B 2 _ rfl) (B 3 _ rfl)) fl_X11_191 rfl hC.k (n := 4) rfl ?_
  rw [hn]
  refine Vw.if_ne (tgt := 14) (n := 7) (de_if_ne (B 4 _ rfl) (B 5 _ rfl) (B 6 _ rfl)) rfl rfl (fun c_4 => ?_) (fun c_4 => ?_)
  · refine Vw.iconst (v := 0) (de_iconst_0 (B 14 _ rfl)) rfl (n := 15) rfl ?_
    refine Vw.istore_n (lv2 := [(0, _), (1, _)]) (de_istore_1 (B 15 _ rfl)) rfl (by decide) [1, 0] rfl (n := 16) rfl ?_
    refine Vw.iconst (v := 0) (de_iconst_0 (B 16 _ rfl)) rfl (n := 17) rfl ?_
    refine Vw.istore_n (lv2 := [(0, _), (1, _), (2, _)]) (de_istore_2 (B 17 _ rfl)) rfl (by decide) [1, 2, 0] rfl (n := 18) rfl ?_
    refine Vw.iconst (v := 0) (de_iconst_0 (B 18 _ rfl)) rfl (n := 19) rfl ?_
    refine Vw.istore_n (lv2 := [(0, _), (1, _), (2, _), (3, _)]) (de_istore_3 (B 19 _ rfl)) rfl (by decide) [1, 2, 3, 0] rfl (n := 20) rfl ?_
    have ok := rowP_ok (T := T) hN.2.2.1 h8 (sz / 3)
    have e0 : 0 - ((rowP T K np 0).2 - np) = 0 := by rw [Nat.zero_sub]
    have go := row_l (d := d) (L := L) (Q := Q) (K := K) (T := T) hC hN.2.2.1 h8 h10 hn h4 ht (fun I1 c f1 t1 => ?_) (sz / 3) 0 I (by omega) (fun _ _ => rfl) hK
    · rw [show (rowP T K np 0).2 - np = 0 from Nat.sub_self np] at go; exact go
    refine Vw.aload_n (de_aload_0 (B 51 _ rfl)) 0 rfl (n := 52) rfl ?_
    refine Vw.iload_n (de_iload_2 (B 52 _ rfl)) 2 rfl (n := 53) rfl ?_
    refine Vw.putI (de_putfield (B 53 _ rfl) (B 54 _ rfl) (B 55 _ rfl)) fl_X11_201 hC.k rfl rfl (n := 56) rfl ?_
    refine Vw.aload_n (de_aload_0 (B 56 _ rfl)) 0 rfl (n := 57) rfl ?_
    refine Vw.iconst (v := 0) (de_iconst_0 (B 57 _ rfl)) rfl (n := 58) rfl ?_
    refine Vw.putI (de_putfield (B 58 _ rfl) (B 59 _ rfl) (B 60 _ rfl)) fl_X11_191 hC.k rfl rfl (n := 61) rfl ?_
    refine Vw.aload_n (de_aload_0 (B 61 _ rfl)) 0 rfl (n := 62) rfl ?_
    refine Vw.getR (de_getfield (B 62 _ rfl) (B 63 _ rfl) (B 64 _ rfl)) fl_X11_60 rfl hC.k hC.f6 (n := 65) rfl ?_
    refine Vw.ivv0 (mi' := mX2_clear) (de_invokevirtual (B 65 _ rfl) (B 66 _ rfl) (B 67 _ rfl)) ml_X11_110 mv_X2_clear hC.p6.k (Nat.le_of_ble_eq_true rfl) (n := 68) rfl (c_X2_clear (np := (rowP T K np (sz / 3)).2) hC.p6 (by rw [up2_row (by omega), up2_row (by omega), f1 _ (by omega)]; exact hold) (fun I2 f2 f2k h2c => ?_))
    refine Vw.aload_n (de_aload_0 (B 68 _ rfl)) 0 rfl (n := 69) rfl ?_
    refine Vw.iload_n (de_iload_1 (B 69 _ rfl)) 1 rfl (n := 70) rfl ?_
    refine Vw.ivi1 (mi' := mX11_accept) (de_invokevirtual (B 70 _ rfl) (B 71 _ rfl) (B 72 _ rfl)) ml_X11_117 mv_X11_accept hC.k (Nat.le_of_ble_eq_true rfl) (n := 73) rfl (c_X11_accept hC ?_)
    exact Vw.iret (de_ireturn (B 73 _ rfl)) rfl ⟨_, rfl, (h (fun z => c_4 (by rw [z]; rfl)) I2 (fun b k q1 q2 q3 => by rw [f2 b q2, up2_n (by omega), up2_n (by omega), f1 b q1]) ((t1.of (fun b q1 q2 => by rw [up2_row (by omega), up2_row (by omega)]) ok.2.2.1 h10).of (fun b q1 q2 => f2 b (by omega)) ok.2.2.1 h10) h2c (by rw [f2 x (by omega), up2_s]) (by rw [f2 x (by omega), up2_k (by decide), up2_s]))⟩
  refine Vw.aload_n (de_aload_0 (B 7 _ rfl)) 0 rfl (n := 8) rfl ?_
  refine Vw.bipush (v := -6) (de_bipush (B 8 _ rfl) (B 9 _ rfl)) rfl (n := 10) rfl ?_
  refine Vw.ivi1 (mi' := mX11_refuse) (de_invokevirtual (B 10 _ rfl) (B 11 _ rfl) (B 12 _ rfl)) ml_X11_100 mv_X11_refuse hC.k (Nat.le_of_ble_eq_true rfl) (n := 13) rfl (c_X11_refuse (j := 6) hC rfl (by decide) ?_)
  exact Vw.iret (de_ireturn (B 13 _ rfl)) rfl ⟨_, rfl, (h1 (nI_inj (a := sz) (b := 0) (by omega) (by decide) c_4))⟩
theorem up2_same {I : vI} {a j : Nat} {v : Int32} (h : I a j = v) : up2 I a j v = I := by
  funext b k
  by_cases z : b = a ∧ k = j
  · rw [z.1, z.2, up2_s, h]
  · rw [up2_n z]
theorem pr_row {S : vS} {I : vI} {L : vL} {x r lb : Nat} (hR : REL S I x r lb) : PR mX11_row mX12_row 0 0 [] x r lb S I L := by
  intro d Q h
  obtain ⟨l, np, nc, ns, nl, hCP, hL, h32, hWd, hSP⟩ := hR
  have hR : REL S I x r lb := ⟨l, np, nc, ns, nl, hCP, hL, h32, hWd, hSP⟩
  have hs := hCP.1
  have hH := hCP.2.1
  have hN := hs.tn
  obtain ⟨hC, hM, hst, er, el, hl2⟩ := id hSP
  obtain ⟨-, -, hold, ⟨sz, n4, zn, xn⟩, hu, h13, h14, h15, h16, hrf, him, hy, nd, nd8, z54, hyr⟩ := id hCP
  have h8 := hN.1
  have h10 := hN.2.1
  have ok := rowP_ok (T := I (r + 7)) hN.2.2.1 h8 (sz / 3)
  have sto := rowP_st (T := I (r + 7)) hN hs.kb (sz / 3)
  refine k_row hC hs hH (by omega) xn n4 (fun j hj => (hu j hj).1) (fun c1 => h _ S _ L (fun _ _ => rfl) (fun d2 Q2 g => ?_)) (fun c1 I2 f2 t2 hc2 x12 x13 => h _ S _ L (fun _ _ => rfl) (fun d2 Q2 g => ?_))
  · refine c_X12_row (d := d2 + 58) (np := np) (sz := sz) hM (by rw [cRef_o (by omega) (by omega)]; exact hN.2.2.1) h8 (by rw [cRef_o (by omega) (by omega)]; exact zn) n4 (fun _ => ?_) (fun q => absurd c1 q)
    rw [up2_same (by rw [cRef_o (by omega) (by omega), zn, c1]; rfl)]
    exact g _ _ (hR.ref (k := (-6)) (j := 6) (by decide)) (fun b hb => by rw [mRef_o (by omega) (by omega), cRef_o (by omega) (by omega)])
  · have r2 : ∀ b, b ≠ x → ¬ (x + 2 ≤ b ∧ b ≤ x + 24) → b ≠ x + 89 → I2 b = I b := fun b q1 q2 q3 => funext fun k => f2 b k q2 q3 (by omega)
    have rr : ∀ b, r ≤ b → cAcc I2 x b = I b := fun b hb => by rw [cAcc_o (by omega), r2 b (by omega) (by omega) (by omega)]
    refine c_X12_row (d := d2 + 58) (np := np) (sz := sz) hM (by rw [rr _ (by omega)]; exact hN.2.2.1) h8 (by rw [rr _ (by omega)]; exact zn) n4 (fun q => absurd q c1) (fun _ J fj kj j6 j11 => ?_)
    rw [rr _ (by omega), rr _ (by omega)] at kj j6 ⊢
    have row : ∀ b, b ≠ r → b ≠ r + 2 → mSet J r b = cAcc I2 x b := fun b q1 q2 => funext fun k => by rw [mSet_o q1, fj b k q2 (by omega)]
    have rowI : ∀ b, b ≠ x → ¬ (x + 2 ≤ b ∧ b ≤ x + 24) → b ≠ x + 89 → b ≠ r → b ≠ r + 2 → mSet J r b = I b := fun b q1 q2 q3 q4 q5 => by rw [row b q4 q5, cAcc_o q1, r2 b q1 q2 q3]
    have rk : ∀ k, k ≠ 0 → k ≠ 32 → k ≠ 6 → k ≠ 11 → mSet J r r k = I r k := fun k q1 q2 q3 q4 => by rw [mSet_k q1 q2, fj r k (by omega) (by omega), rr r (by omega)]
    have xk : ∀ k, k ≠ 16 → mSet J r x k = I2 x k := fun k q1 => by rw [row x (by omega) (by omega)]; unfold cAcc; rw [up2_k q1]
    refine g _ _ (REL.upd (np2 := (rowP (I (r + 7)) (I (r + 2)) np (sz / 3)).2) (nc2 := nc) (ns2 := ns) (nl2 := nl) (l2 := []) hCP hWd hSP (fun b k hb => by rw [rowI b (by omega) (by omega) (by omega) (by omega) (by omega)]) (fun b hb => rowI b (by omega) (by omega) (by omega) (by omega) (by omega)) (rk _ (by decide) (by decide) (by decide) (by decide)) (rk _ (by decide) (by decide) (by decide) (by decide)) ?_ ?_ (fun i k c q => by cases q) ?_ ?_ ⟨0, by decide, ?_, ?_⟩ (fun j hj => ?_) ?_ ?_ ?_ ?_ (fun i hi => ?_)) (fun b hb => rowI b (by omega) (by omega) (by omega) (by omega) (by omega))
    · rw [mSet_o (by omega), kj]
      exact hs.town (t2.of (fun b g1 g2 => by rw [row b (by omega) (by omega), cAcc_o (by omega)]) ok.2.2.1 h10) sto.1 sto.2.1 (fun y g1 g2 _ => sto.2.2 y g1 g2) (rowI _ (by omega) (by omega) (by omega) (by omega) (by omega)) (fun b g1 g2 => rowI b (by omega) (by omega) (by omega) (by omega) (by omega)) (fun b hb => rowI b (by omega) (by omega) (by omega) (by omega) (by omega))
    · exact hc2.of ok.2.2.1 (fun b g1 g2 => by rw [row b (by omega) (by omega), cAcc_o (by omega)])
    · rw [mSet_32]; rfl
    · rw [rowI (x + 460) (by omega) (by omega) (by omega) (by omega) (by omega)]; exact hold
    · rw [mSet_k (by decide) (by decide)]; exact j11
    · rw [xk _ (by decide)]; exact x12
    · rw [rowI (x + 856) (by omega) (by omega) (by omega) (by omega) (by omega), rowI (r + 7) (by omega) (by omega) (by omega) (by omega) (by omega)]; exact hu j hj
    · rw [xk _ (by decide), mSet_k (by decide) (by decide), j6]; exact x13
    · rw [xk _ (by decide), rk _ (by decide) (by decide) (by decide) (by decide), f2 x _ (by omega) (by omega) (by omega)]; exact h14
    · rw [xk _ (by decide), rk _ (by decide) (by decide) (by decide) (by decide), f2 x _ (by omega) (by omega) (by omega)]; exact h15
    · rw [mSet_0, row x (by omega) (by omega), cAcc_16]
    · rw [rowI (x + 857) (by omega) (by omega) (by omega) (by omega) (by omega), rowI (r + 1) (by omega) (by omega) (by omega) (by omega) (by omega)]; exact hrf i hi
