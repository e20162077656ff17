/-! forget, sight, end, nourish -/
theorem k_forget {d : Nat} {S : vS} {I : vI} {L : vL} {Q : Int32 → vS → vI → vL → Prop} {x lb np nc ns nl : Nat} {K : Nat → Int32} {l : List tH} (hC : ClsS S x) (hs : STR S I (x + 1) lb K np nc ns nl) (hH : HC I (x + 89) l np) (hlb : x + 942 ≤ lb)  (h : Q (nI ns) S (up2 I (x + 1) 9 0) L) : Vc mX11_forget (d + 80) 0 0 [.ref x] S I L (ViQ Q) := by
  refine Vc.of rfl (Nat.le_of_ble_eq_true rfl) ?_
  have B := bs_X11_forget
  show Vw mX11_forget (d + 80) 0 0 0 0 (ViQ Q) 0 [(0, .ref x)] [] S I L
  have hT := hC.p0.p0
  have hN := hs.tn
  have h8 := hN.1
  have h10 := hN.2.1
  have hK := hs.tr
  have hold : ∃ old, old < 16 ∧ I (x + 89) 2 = nI old := by obtain ⟨_, _, old, o1, o2, _⟩ := hH; exact ⟨old, o1, o2⟩
  refine Vw.aload_n (de_aload_0 (B 0 _ rfl)) 0 rfl (n := 1) rfl ?_
  refine Vw.getR (de_getfield (B 1 _ rfl) (B 2 _ rfl) (B 3 _ rfl)) fl_X11_12 rfl hC.k hC.f0 (n := 4) rfl ?_
  refine Vw.getI (de_getfield (B 4 _ rfl) (B 5 _ rfl) (B 6 _ rfl)) fl_X11_388 rfl hC.p0.k (n := 7) rfl ?_
  rw [hs.sr.1]
  refine Vw.istore_n (lv2 := [(0, _), (1, _)]) (de_istore_1 (B 7 _ rfl)) rfl (by decide) [1, 0] rfl (n := 8) rfl ?_
  refine Vw.aload_n (de_aload_0 (B 8 _ rfl)) 0 rfl (n := 9) rfl ?_
  refine Vw.getR (de_getfield (B 9 _ rfl) (B 10 _ rfl) (B 11 _ rfl)) fl_X11_12 rfl hC.k hC.f0 (n := 12) rfl ?_
  refine Vw.iconst (v := 0) (de_iconst_0 (B 12 _ rfl)) rfl (n := 13) rfl ?_
  refine Vw.putI (de_putfield (B 13 _ rfl) (B 14 _ rfl) (B 15 _ rfl)) fl_X11_388 hC.p0.k rfl rfl (n := 16) rfl ?_
  refine Vw.iload_n (de_iload_1 (B 16 _ rfl)) 1 rfl (n := 17) rfl ?_
  exact Vw.iret (de_ireturn (B 17 _ rfl)) rfl ⟨_, rfl, h⟩
theorem pr_forget {S : vS} {I : vI} {L : vL} {x r lb : Nat} (hR : REL S I x r lb) : PR mX11_forget mX12_forget 0 0 [] x r lb S I L := by
  intro d Q h
  obtain ⟨l, np, nc, ns, nl, hCP, hL, h32, hWd, hSP⟩ := hR
  have hR : REL S I x r lb := ⟨l, np, nc, ns, nl, hCP, hL, h32, hWd, hSP⟩
  have hs := hCP.1
  have hH := hCP.2.1
  have hN := hs.tn
  obtain ⟨hC, hM, hst, er, el, hl2⟩ := id hSP
  refine k_forget hC hs hH (by omega) (h _ S _ L (fun _ _ => rfl) (fun d2 Q2 g => ?_))
  have e2 : up2 I (x + 1) 9 0 (r + 2) = I (r + 2) := up2_row (by omega)
  refine c_X12_forget (d := d2 + 60) hM ?_
  rw [e2, hs.n143]
  have eK : up2 (up2 I (x + 1) 9 0) (r + 2) 143 0 (r + 2) = upK (I (r + 2)) 143 0 := by rw [up2_rs, e2]
  have fin := REL.fin (I2 := up2 I (x + 1) 9 0) (J := up2 (up2 I (x + 1) 9 0) (r + 2) 143 0) (np2 := np) (nc2 := nc) (ns2 := 0) (nl2 := nl) (l2 := l) hCP hWd hSP (FA.of (fun b g1 g2 g3 g4 => up2_row (by omega))) (fun b hb => up2_row (by omega)) (fun b hb => up2_row (by omega)) (fun k hk => by rw [up2_row (by omega)]) (by rw [up2_row (by omega), up2_row (by omega), up2_row (by omega)]; exact hCP.2.2.2.2.2.2.2.2.1.symm) (by rw [up2_row (by omega)]; exact hCP.2.2.1)
    (by
      rw [eK]
      exact hs.sc (fun b q1 q2 => up2_row (by omega)) (fun b hb => up2_row (by omega)) (fun y q1 _ => upK_n (by omega)) (upK_n (by decide)) (upK_n (by decide)) (up2_k (by decide)) (Nat.zero_le _) (up2_s _ _ _ _) (upK_s _ _ _) (by rw [up2_k (by decide), upK_n (by decide)]; exact hs.fo) (by rw [upK_n (by decide)]; exact hs.fr) (by rw [up2_k (by decide), upK_n (by decide)]; exact hs.fe) (by rw [up2_k (by decide), upK_n (by decide)]; exact hs.mo) (by rw [upK_n (by decide)]; exact hs.f10)) (hH.of hN.1 (fun b g1 g2 => up2_row (by omega))) (by rw [up2_row (by omega), up2_row (by omega)]; exact hL) (by rw [up2_row (by omega), up2_row (by omega)]; exact h32)
  exact g _ _ fin.1 fin.2
theorem c_X8_addSight {d : Nat} {S : vS} {I : vI} {L : vL} {Q : Int32 → vS → vI → vL → Prop} {s ns : Nat} {k q w : Int32} (hS : StateS S s) (h9 : I s 9 = nI ns) (hn : ns < 6) (h : Q (nI (ns + 1)) S (up2 (up2 (up2 (up2 I (s + 25) ns k) (s + 26) ns q) (s + 27) ns w) s 9 (nI (ns + 1))) L) : Vc mX8_addSight d 0 0 [.ref s, .int k, .int q, .int w] S I L (ViQ Q) := by
  refine Vc.of rfl (Nat.le_of_ble_eq_true rfl) ?_
  have B := bs_X8_addSight
  show Vw mX8_addSight d 0 0 0 0 (ViQ Q) 0 [(0, .ref s), (1, .int k), (2, .int q), (3, .int w)] [] S I L
  refine Vw.aload_n (de_aload_0 (B 0 _ rfl)) 0 rfl (n := 1) rfl ?_
  refine Vw.getR (de_getfield (B 1 _ rfl) (B 2 _ rfl) (B 3 _ rfl)) fl_X8_31 rfl hS.k hS.f6 (n := 4) rfl ?_
  refine Vw.aload_n (de_aload_0 (B 4 _ rfl)) 0 rfl (n := 5) rfl ?_
  refine Vw.getI (de_getfield (B 5 _ rfl) (B 6 _ rfl) (B 7 _ rfl)) fl_X8_57 rfl hS.k (n := 8) rfl ?_
  rw [h9]
  refine Vw.iload_n (de_iload_1 (B 8 _ rfl)) 1 rfl (n := 9) rfl ?_
  refine Vw.iast (de_iastore (B 9 _ rfl)) hS.r6 (vIx_n (k := ns) rfl (by omega)) (n := 10) rfl ?_
  refine Vw.aload_n (de_aload_0 (B 10 _ rfl)) 0 rfl (n := 11) rfl ?_
  refine Vw.getR (de_getfield (B 11 _ rfl) (B 12 _ rfl) (B 13 _ rfl)) fl_X8_35 rfl hS.k hS.f7 (n := 14) rfl ?_
  refine Vw.aload_n (de_aload_0 (B 14 _ rfl)) 0 rfl (n := 15) rfl ?_
  refine Vw.getI (de_getfield (B 15 _ rfl) (B 16 _ rfl) (B 17 _ rfl)) fl_X8_57 rfl hS.k (n := 18) rfl ?_
  rw [up2_a (show s ≠ s + 25 by omega), h9]
  refine Vw.iload_n (de_iload_2 (B 18 _ rfl)) 2 rfl (n := 19) rfl ?_
  refine Vw.iast (de_iastore (B 19 _ rfl)) hS.r7 (vIx_n (k := ns) rfl (by omega)) (n := 20) rfl ?_
  refine Vw.aload_n (de_aload_0 (B 20 _ rfl)) 0 rfl (n := 21) rfl ?_
  refine Vw.getR (de_getfield (B 21 _ rfl) (B 22 _ rfl) (B 23 _ rfl)) fl_X8_38 rfl hS.k hS.f8 (n := 24) rfl ?_
  refine Vw.aload_n (de_aload_0 (B 24 _ rfl)) 0 rfl (n := 25) rfl ?_
  refine Vw.getI (de_getfield (B 25 _ rfl) (B 26 _ rfl) (B 27 _ rfl)) fl_X8_57 rfl hS.k (n := 28) rfl ?_
  rw [up2_a (show s ≠ s + 26 by omega), up2_a (show s ≠ s + 25 by omega), h9]
  refine Vw.iload_n (de_iload_3 (B 28 _ rfl)) 3 rfl (n := 29) rfl ?_
  refine Vw.iast (de_iastore (B 29 _ rfl)) hS.r8 (vIx_n (k := ns) rfl (by omega)) (n := 30) rfl ?_
  refine Vw.aload_n (de_aload_0 (B 30 _ rfl)) 0 rfl (n := 31) rfl ?_
  refine Vw.dup (de_dup (B 31 _ rfl)) rfl (n := 32) rfl ?_
  refine Vw.getI (de_getfield (B 32 _ rfl) (B 33 _ rfl) (B 34 _ rfl)) fl_X8_57 rfl hS.k (n := 35) rfl ?_
  rw [up2_a (show s ≠ s + 27 by omega), up2_a (show s ≠ s + 26 by omega), up2_a (show s ≠ s + 25 by omega), h9]
  refine Vw.iconst (v := 1) (de_iconst_1 (B 35 _ rfl)) rfl (n := 36) rfl ?_
  refine Vw.iadd (de_iadd (B 36 _ rfl)) (n := 37) rfl ?_
  rw [nI_1]
  refine Vw.putI (de_putfield (B 37 _ rfl) (B 38 _ rfl) (B 39 _ rfl)) fl_X8_57 hS.k rfl rfl (n := 40) rfl ?_
  refine Vw.aload_n (de_aload_0 (B 40 _ rfl)) 0 rfl (n := 41) rfl ?_
  refine Vw.getI (de_getfield (B 41 _ rfl) (B 42 _ rfl) (B 43 _ rfl)) fl_X8_57 rfl hS.k (n := 44) rfl ?_
  rw [up2_s]
  exact Vw.iret (de_ireturn (B 44 _ rfl)) rfl ⟨_, rfl, h⟩
theorem k_sight {d : Nat} {S : vS} {I : vI} {L : vL} {Q : Int32 → vS → vI → vL → Prop} {x lb np nc ns nl : Nat} {K : Nat → Int32} {l : List tH} {k q w : Int32} (hC : ClsS S x) (hs : STR S I (x + 1) lb K np nc ns nl) (hH : HC I (x + 89) l np) (hlb : x + 942 ≤ lb) (h1 : zLie k 1 40 = 0 ∨ zLie w 5 200 = 0 → Q (-1) S (cRef I x (-1) 1) L) (h2 : ¬ zLie k 1 40 = 0 → ¬ zLie w 5 200 = 0 → zLie q 0 (nI np - 1) = 0 → Q (-2) S (cRef I x (-2) 2) L) (h3 : ¬ zLie k 1 40 = 0 → ¬ zLie w 5 200 = 0 → ¬ zLie q 0 (nI np - 1) = 0 → ns = 6 → Q (-5) S (cRef I x (-5) 5) L) (h : ¬ zLie k 1 40 = 0 → ¬ zLie w 5 200 = 0 → ¬ zLie q 0 (nI np - 1) = 0 → ns < 6 → Q (nI (ns + 1)) S (cAcc (up2 (up2 (up2 (up2 I (x + 26) ns k) (x + 27) ns q) (x + 28) ns w) (x + 1) 9 (nI (ns + 1))) x) L) : Vc mX11_sight (d + 80) 0 0 [.ref x, .int k, .int q, .int w] S I L (ViQ Q) := by
  refine Vc.of rfl (Nat.le_of_ble_eq_true rfl) ?_
  have B := bs_X11_sight
  show Vw mX11_sight (d + 80) 0 0 0 0 (ViQ Q) 0 [(0, .ref x), (1, .int k), (2, .int q), (3, .int w)] [] S I L
  have hT := hC.p0.p0
  have hN := hs.tn
  have h8 := hN.1
  have h10 := hN.2.1
  have hK := hs.tr
  have hold : ∃ old, old < 16 ∧ I (x + 89) 2 = nI old := by obtain ⟨_, _, old, o1, o2, _⟩ := hH; exact ⟨old, o1, o2⟩
  refine Vw.iload_n (de_iload_1 (B 0 _ rfl)) 1 rfl (n := 1) rfl ?_
  refine Vw.iconst (v := 1) (de_iconst_1 (B 1 _ rfl)) rfl (n := 2) rfl ?_
  refine Vw.bipush (v := 40) (de_bipush (B 2 _ rfl) (B 3 _ rfl)) rfl (n := 4) rfl ?_
  refine Vw.isi3 (mi' := mX11_isWithin) (de_invokestatic (B 4 _ rfl) (B 5 _ rfl) (B 6 _ rfl)) ml_X11_165 ms_X11_isWithin (Nat.le_of_ble_eq_true rfl) (n := 7) rfl (c_X11_isWithin ?_)
  refine Vw.if_eq (tgt := 21) (n := 10) (de_if_eq (B 7 _ rfl) (B 8 _ rfl) (B 9 _ rfl)) rfl rfl (fun c_7 => ?_) (fun c_7 => ?_)
  · refine Vw.aload_n (de_aload_0 (B 21 _ rfl)) 0 rfl (n := 22) rfl ?_
    refine Vw.iconst (v := -1) (de_iconst_m1 (B 22 _ rfl)) rfl (n := 23) rfl ?_
    refine Vw.ivi1 (mi' := mX11_refuse) (de_invokevirtual (B 23 _ rfl) (B 24 _ rfl) (B 25 _ rfl)) ml_X11_100 mv_X11_refuse hC.k (Nat.le_of_ble_eq_true rfl) (n := 26) rfl (c_X11_refuse (j := 1) hC rfl (by decide) ?_)
    exact Vw.iret (de_ireturn (B 26 _ rfl)) rfl ⟨_, rfl, (h1 (by first | exact Or.inl c_7 | exact Or.inr c_18))⟩
  refine Vw.iload_n (de_iload_3 (B 10 _ rfl)) 3 rfl (n := 11) rfl ?_
  refine Vw.iconst (v := 5) (de_iconst_5 (B 11 _ rfl)) rfl (n := 12) rfl ?_
  refine Vw.sipush (v := 200) (de_sipush (B 12 _ rfl) (B 13 _ rfl) (B 14 _ rfl)) rfl (n := 15) rfl ?_
  refine Vw.isi3 (mi' := mX11_isWithin) (de_invokestatic (B 15 _ rfl) (B 16 _ rfl) (B 17 _ rfl)) ml_X11_165 ms_X11_isWithin (Nat.le_of_ble_eq_true rfl) (n := 18) rfl (c_X11_isWithin ?_)
  refine Vw.if_ne (tgt := 27) (n := 21) (de_if_ne (B 18 _ rfl) (B 19 _ rfl) (B 20 _ rfl)) rfl rfl (fun c_18 => ?_) (fun c_18 => ?_)
  · refine Vw.aload_n (de_aload_0 (B 27 _ rfl)) 0 rfl (n := 28) rfl ?_
    refine Vw.getR (de_getfield (B 28 _ rfl) (B 29 _ rfl) (B 30 _ rfl)) fl_X11_12 rfl hC.k hC.f0 (n := 31) rfl ?_
    refine Vw.getR (de_getfield (B 31 _ rfl) (B 32 _ rfl) (B 33 _ rfl)) fl_X11_104 rfl hC.p0.k hC.p0.f0 (n := 34) rfl ?_
    refine Vw.iload_n (de_iload_2 (B 34 _ rfl)) 2 rfl (n := 35) rfl ?_
    refine Vw.ivi1 (mi' := mX9_hasPerson) (de_invokevirtual (B 35 _ rfl) (B 36 _ rfl) (B 37 _ rfl)) ml_X11_120 mv_X9_hasPerson hC.p0.p0.k (Nat.le_of_ble_eq_true rfl) (n := 38) rfl (c_X9_hasPerson hT hK.1 (by omega) ?_)
    refine Vw.if_ne (tgt := 48) (n := 41) (de_if_ne (B 38 _ rfl) (B 39 _ rfl) (B 40 _ rfl)) rfl rfl (fun c_38 => ?_) (fun c_38 => ?_)
    · refine Vw.aload_n (de_aload_0 (B 48 _ rfl)) 0 rfl (n := 49) rfl ?_
      refine Vw.getR (de_getfield (B 49 _ rfl) (B 50 _ rfl) (B 51 _ rfl)) fl_X11_12 rfl hC.k hC.f0 (n := 52) rfl ?_
      refine Vw.getI (de_getfield (B 52 _ rfl) (B 53 _ rfl) (B 54 _ rfl)) fl_X11_388 rfl hC.p0.k (n := 55) rfl ?_
      rw [hs.sr.1]
      have ns6 := hs.sr.2.1
      refine Vw.bipush (v := 6) (de_bipush (B 55 _ rfl) (B 56 _ rfl)) rfl (n := 57) rfl ?_
      refine Vw.icmp_lt (tgt := 67) (n := 60) (de_icmp_lt (B 57 _ rfl) (B 58 _ rfl) (B 59 _ rfl)) rfl rfl (fun c_57 => ?_) (fun c_57 => ?_)
      · have nl6 : ns < 6 := by rcases Nat.lt_or_ge ns 6 with z | z; exact z; exact absurd (i32_lt.mp c_57) (by rw [nI_ti (by omega)]; show ¬ (ns : Int) < 6; omega)
        refine Vw.aload_n (de_aload_0 (B 67 _ rfl)) 0 rfl (n := 68) rfl ?_
        refine Vw.aload_n (de_aload_0 (B 68 _ rfl)) 0 rfl (n := 69) rfl ?_
        refine Vw.getR (de_getfield (B 69 _ rfl) (B 70 _ rfl) (B 71 _ rfl)) fl_X11_12 rfl hC.k hC.f0 (n := 72) rfl ?_
        refine Vw.iload_n (de_iload_1 (B 72 _ rfl)) 1 rfl (n := 73) rfl ?_
        refine Vw.iload_n (de_iload_2 (B 73 _ rfl)) 2 rfl (n := 74) rfl ?_
        refine Vw.iload_n (de_iload_3 (B 74 _ rfl)) 3 rfl (n := 75) rfl ?_
        refine Vw.ivi3 (mi' := mX8_addSight) (de_invokevirtual (B 75 _ rfl) (B 76 _ rfl) (B 77 _ rfl)) ml_X11_391 mv_X8_addSight hC.p0.k (Nat.le_of_ble_eq_true rfl) (n := 78) rfl (c_X8_addSight hC.p0 hs.sr.1 nl6 ?_)
        refine Vw.ivi1 (mi' := mX11_accept) (de_invokevirtual (B 78 _ rfl) (B 79 _ rfl) (B 80 _ rfl)) ml_X11_117 mv_X11_accept hC.k (Nat.le_of_ble_eq_true rfl) (n := 81) rfl (c_X11_accept hC ?_)
        exact Vw.iret (de_ireturn (B 81 _ rfl)) rfl ⟨_, rfl, (h c_7 c_18 c_38 nl6)⟩
      refine Vw.aload_n (de_aload_0 (B 60 _ rfl)) 0 rfl (n := 61) rfl ?_
      refine Vw.bipush (v := -5) (de_bipush (B 61 _ rfl) (B 62 _ rfl)) rfl (n := 63) rfl ?_
      refine Vw.ivi1 (mi' := mX11_refuse) (de_invokevirtual (B 63 _ rfl) (B 64 _ rfl) (B 65 _ rfl)) ml_X11_100 mv_X11_refuse hC.k (Nat.le_of_ble_eq_true rfl) (n := 66) rfl (c_X11_refuse (j := 5) hC rfl (by decide) ?_)
      exact Vw.iret (de_ireturn (B 66 _ rfl)) rfl ⟨_, rfl, (h3 c_7 c_18 c_38 (by rcases Nat.lt_or_ge ns 6 with z | z; exact absurd (i32_lt.mpr (by rw [nI_ti (by omega)]; show (ns : Int) < 6; omega)) c_57; omega))⟩
    refine Vw.aload_n (de_aload_0 (B 41 _ rfl)) 0 rfl (n := 42) rfl ?_
    refine Vw.bipush (v := -2) (de_bipush (B 42 _ rfl) (B 43 _ rfl)) rfl (n := 44) rfl ?_
    refine Vw.ivi1 (mi' := mX11_refuse) (de_invokevirtual (B 44 _ rfl) (B 45 _ rfl) (B 46 _ rfl)) ml_X11_100 mv_X11_refuse hC.k (Nat.le_of_ble_eq_true rfl) (n := 47) rfl (c_X11_refuse (j := 2) hC rfl (by decide) ?_)
    exact Vw.iret (de_ireturn (B 47 _ rfl)) rfl ⟨_, rfl, (h2 c_7 c_18 c_38)⟩
  refine Vw.aload_n (de_aload_0 (B 21 _ rfl)) 0 rfl (n := 22) rfl ?_
  refine Vw.iconst (v := -1) (de_iconst_m1 (B 22 _ rfl)) rfl (n := 23) rfl ?_
  refine Vw.ivi1 (mi' := mX11_refuse) (de_invokevirtual (B 23 _ rfl) (B 24 _ rfl) (B 25 _ rfl)) ml_X11_100 mv_X11_refuse hC.k (Nat.le_of_ble_eq_true rfl) (n := 26) rfl (c_X11_refuse (j := 1) hC rfl (by decide) ?_)
  exact Vw.iret (de_ireturn (B 26 _ rfl)) rfl ⟨_, rfl, (h1 (by first | exact Or.inl c_7 | exact Or.inr c_18))⟩
theorem STR.sig {S : vS} {I : vI} {x lb np nc ns nl : Nat} {K : Nat → Int32} {k q w : Int32} (h : STR S I (x + 1) lb K np nc ns nl) (hlb : x + 942 ≤ lb) (hn : ns < 6) (hk : ¬ zLie k 1 40 = 0) : STR S (up2 (up2 (up2 (up2 I (x + 26) ns k) (x + 27) ns q) (x + 28) ns w) (x + 1) 9 (nI (ns + 1))) (x + 1) lb (upK (upK (upK (upK K (122 + 3 * ns) k) (122 + 3 * ns + 1) q) (122 + 3 * ns + 2) w) 143 (nI ns + 1)) np nc (ns + 1) nl := by
  have h8 := h.tn.1
  have h10 := h.tn.2.1
  have er : ∀ b, b ≠ x + 1 → b ≠ x + 26 → b ≠ x + 27 → b ≠ x + 28 → (up2 (up2 (up2 (up2 I (x + 26) ns k) (x + 27) ns q) (x + 28) ns w) (x + 1) 9 (nI (ns + 1))) b = I b := fun b q1 q2 q3 q4 => by rw [up2_row q1, up2_row q4, up2_row q3, up2_row q2]
  have e1 : ∀ j, j ≠ 9 → (up2 (up2 (up2 (up2 I (x + 26) ns k) (x + 27) ns q) (x + 28) ns w) (x + 1) 9 (nI (ns + 1))) (x + 1) j = I (x + 1) j := fun j hj => by rw [up2_k hj, up2_row (by omega), up2_row (by omega), up2_row (by omega)]
  have eK : ∀ y, ¬ (122 + 3 * ns ≤ y ∧ y ≤ 122 + 3 * ns + 2) → y ≠ 143 → (upK (upK (upK (upK K (122 + 3 * ns) k) (122 + 3 * ns + 1) q) (122 + 3 * ns + 2) w) 143 (nI ns + 1)) y = K y := fun y q1 q2 => by rw [upK_n q2, upK_n (by omega), upK_n (by omega), upK_n (by omega)]
  obtain ⟨t1, t2, t3, t4, t5, t6⟩ := h.tr.of (J := (up2 (up2 (up2 (up2 I (x + 26) ns k) (x + 27) ns q) (x + 28) ns w) (x + 1) 9 (nI (ns + 1)))) (fun b g1 g2 => er b (by omega) (by omega) (by omega) (by omega)) h8 h10
  refine ⟨⟨t1, t2, by rw [eK _ (by omega) (by omega)]; exact t3, fun q k hq hk => by rw [eK _ (by omega) (by omega)]; exact t4 q k hq hk, fun c k hc hk => by rw [eK _ (by omega) (by omega)]; exact t5 c k hc hk, fun j hj => by rw [eK _ (by omega) (by omega), eK _ (by omega) (by omega)]; exact t6 j hj⟩, ?_, ?_, ⟨up2_s _ _ _ _, by omega, fun i hi => ?_⟩, ?_, fun i hi => ?_, ?_, ?_, ?_, ?_, ?_, ?_⟩
  · obtain ⟨n1, n2, n3, n4, n5⟩ := h.tn
    exact ⟨n1, n2, by rw [eK _ (by omega) (by omega)]; exact n3, by rw [eK _ (by omega) (by omega)]; exact n4, fun c hc => by
      obtain ⟨c1, c2, c3⟩ := n5 c hc
      exact ⟨by rw [eK _ (by omega) (by omega)]; exact c1, by rw [eK _ (by omega) (by omega)]; exact c2, by rw [eK _ (by omega) (by omega)]; exact c3⟩⟩
  · obtain ⟨b1, b2, b3, b4⟩ := h.kb
    refine ⟨fun q hq => ?_, fun t ht => by rw [eK _ (by omega) (by omega)]; exact b2 t ht, fun c hc => ?_, by unfold NB; rw [eK _ (by omega) (by omega)]; exact b4⟩
    · unfold perP; rw [eK _ (by omega) (by omega), eK _ (by omega) (by omega), eK _ (by omega) (by omega), eK _ (by omega) (by omega)]; exact b1 q hq
    · obtain ⟨a, b, hh, u, q1, q2, q3, q4, q5⟩ := b3 c hc
      exact ⟨a, b, hh, u, by rw [eK _ (by omega) (by omega)]; exact q1, by rw [eK _ (by omega) (by omega)]; exact q2, by rw [eK _ (by omega) (by omega)]; exact q3, by rw [eK _ (by omega) (by omega)]; exact q4, q5⟩
  · show (up2 (up2 (up2 (up2 I (x + 26) ns k) (x + 27) ns q) (x + 28) ns w) (x + 1) 9 (nI (ns + 1))) (x + 26) i = _ ∧ (up2 (up2 (up2 (up2 I (x + 26) ns k) (x + 27) ns q) (x + 28) ns w) (x + 1) 9 (nI (ns + 1))) (x + 27) i = _ ∧ (up2 (up2 (up2 (up2 I (x + 26) ns k) (x + 27) ns q) (x + 28) ns w) (x + 1) 9 (nI (ns + 1))) (x + 28) i = _
    by_cases z : i = ns
    · subst z
      rw [up2_a (by omega), up2_a (by omega), up2_a (by omega), up2_s, up2_a (by omega), up2_a (by omega), up2_s, up2_a (by omega), up2_s, upK_n (by omega), upK_n (by omega), upK_n (by omega), upK_s, upK_n (by omega), upK_n (by omega), upK_s, upK_n (by omega), upK_s]
      exact ⟨rfl, rfl, rfl⟩
    · rw [up2_a (by omega), up2_a (by omega), up2_a (by omega), up2_k z, up2_a (by omega), up2_a (by omega), up2_k z, up2_a (by omega), up2_a (by omega), up2_k z, up2_a (by omega), up2_a (by omega), eK _ (by omega) (by omega), eK _ (by omega) (by omega), eK _ (by omega) (by omega)]
      exact h.sr.2.2 i (by omega)
  · rw [upK_s, nI_1]
  · by_cases z : i = ns
    · subst z
      obtain ⟨e, e1, e2, e3⟩ := lie_m (a := 1) (N := 40) (by decide) (by decide) hk
      exact ⟨e, e1, e2, by rw [upK_n (by omega), upK_n (by omega), upK_n (by omega), upK_s]; exact e3⟩
    · rw [eK _ (by omega) (by omega)]; exact h.sb i (by omega)
  · obtain ⟨l1, l2, l3, l4⟩ := h.lw
    refine ⟨l1, by rw [e1 _ (by decide)]; exact l2, by rw [eK _ (by omega) (by omega)]; exact l3, fun t ht => ?_⟩
    obtain ⟨a, cs, m, a1, a2, a3, a4, a5, a6⟩ := l4 t ht
    exact ⟨a, cs, m, a1, a2, a3, a4.of (fun k _ => er _ (by omega) (by omega) (by omega) (by omega)), a5, a6.of (by omega) (fun y hy _ => eK y (by omega) (by omega))⟩
  · rw [e1 _ (by decide), eK _ (by omega) (by omega)]; exact h.fo
  · rw [eK _ (by omega) (by omega)]; exact h.fr
  · rw [e1 _ (by decide), eK _ (by omega) (by omega)]; exact h.fe
  · rw [e1 _ (by decide), eK _ (by omega) (by omega)]; exact h.mo
  · rw [eK _ (by omega) (by omega)]; exact h.f10
theorem pr_sight {S : vS} {I : vI} {L : vL} {x r lb : Nat} {k q w : Int32} (hR : REL S I x r lb) : PR mX11_sight mX12_sight 0 0 [.int k, .int q, .int w] x r lb S I L := by
  intro d Q h
  obtain ⟨l, np, nc, ns, nl, hCP, hL, h32, hWd, hSP⟩ := hR
  have hR : REL S I x r lb := ⟨l, np, nc, ns, nl, hCP, hL, h32, hWd, hSP⟩
  have hs := hCP.1
  have hH := hCP.2.1
  have hN := hs.tn
  obtain ⟨hC, hM, hst, er, el, hl2⟩ := id hSP
  have n6 := hs.sr.2.1
  have e0 : ∀ (kk : Int32) jj, cRef I x kk jj (r + 2) = I (r + 2) := fun _ _ => cRef_o (by omega) (by omega)
  refine k_sight hC hs hH (by omega) (fun c1 => h _ S _ L (fun _ _ => rfl) (fun d2 Q2 g => ?_)) (fun c1 c2 c3 => h _ S _ L (fun _ _ => rfl) (fun d2 Q2 g => ?_)) (fun c1 c2 c3 c4 => h _ S _ L (fun _ _ => rfl) (fun d2 Q2 g => ?_)) (fun c1 c2 c3 c4 => h _ S _ L (fun _ _ => rfl) (fun d2 Q2 g => ?_))
  · exact c_X12_sight (d := d2 + 58) (n := np) (m := ns) hM (by rw [e0]; exact hN.2.2.1) hN.1 (by rw [e0]; exact hs.n143) n6 (fun _ => g _ _ (hR.ref (k := (-1)) (j := 1) (by decide)) (fun b hb => by rw [mRef_o (by omega) (by omega), cRef_o (by omega) (by omega)])) (fun q1 q2 => absurd c1 (fun z => z.elim q1 q2)) (fun q1 q2 => absurd c1 (fun z => z.elim q1 q2)) (fun q1 q2 => absurd c1 (fun z => z.elim q1 q2))
  · exact c_X12_sight (d := d2 + 58) (n := np) (m := ns) hM (by rw [e0]; exact hN.2.2.1) hN.1 (by rw [e0]; exact hs.n143) n6 (fun z => absurd z (fun z => z.elim c1 c2)) (fun _ _ _ => g _ _ (hR.ref (k := (-2)) (j := 2) (by decide)) (fun b hb => by rw [mRef_o (by omega) (by omega), cRef_o (by omega) (by omega)])) (fun _ _ q => absurd c3 q) (fun _ _ q => absurd c3 q)
  · exact c_X12_sight (d := d2 + 58) (n := np) (m := ns) hM (by rw [e0]; exact hN.2.2.1) hN.1 (by rw [e0]; exact hs.n143) n6 (fun z => absurd z (fun z => z.elim c1 c2)) (fun _ _ q => absurd q c3) (fun _ _ _ _ => g _ _ (hR.ref (k := (-5)) (j := 5) (by decide)) (fun b hb => by rw [mRef_o (by omega) (by omega), cRef_o (by omega) (by omega)])) (fun _ _ _ q => absurd q (by omega))
  · have e2 : cAcc (up2 (up2 (up2 (up2 I (x + 26) ns k) (x + 27) ns q) (x + 28) ns w) (x + 1) 9 (nI (ns + 1))) x (r + 2) = I (r + 2) := by rw [cAcc_o (by omega), up2_row (by omega), up2_row (by omega), up2_row (by omega), up2_row (by omega)]
    refine c_X12_sight (d := d2 + 58) (n := np) (m := ns) hM (by rw [e2]; exact hN.2.2.1) hN.1 (by rw [e2]; exact hs.n143) n6 (fun z => absurd z (fun z => z.elim c1 c2)) (fun _ _ q => absurd q c3) (fun _ _ _ q => absurd q (by omega)) (fun _ _ _ _ => ?_)
    rw [nI_1]
    obtain ⟨Jr, eJ⟩ : ∃ J : vI, J = up2 (up2 (up2 (up2 (cAcc (up2 (up2 (up2 (up2 I (x + 26) ns k) (x + 27) ns q) (x + 28) ns w) (x + 1) 9 (nI (ns + 1))) x) (r + 2) (122 + 3 * ns) k) (r + 2) (122 + 3 * ns + 1) q) (r + 2) (122 + 3 * ns + 2) w) (r + 2) 143 (nI (ns + 1)) := ⟨_, rfl⟩
    rw [← eJ]
    have eK : Jr (r + 2) = (upK (upK (upK (upK (I (r + 2)) (122 + 3 * ns) k) (122 + 3 * ns + 1) q) (122 + 3 * ns + 2) w) 143 (nI ns + 1)) := by rw [eJ, up2_rs, up2_rs, up2_rs, up2_rs, e2, nI_1]
    have fin := REL.good (I2 := (up2 (up2 (up2 (up2 I (x + 26) ns k) (x + 27) ns q) (x + 28) ns w) (x + 1) 9 (nI (ns + 1)))) (Jr := Jr) (nc2 := nc) (ns2 := ns + 1) (nl2 := nl) hCP hL h32 hWd hSP (FA.of (fun b g1 g2 g3 g4 => by rw [up2_row (by omega), up2_row (by omega), up2_row (by omega), up2_row (by omega)])) (by rw [up2_row (by omega), up2_row (by omega), up2_row (by omega), up2_row (by omega)]) (fun b hb => by rw [eJ, up2_row hb, up2_row hb, up2_row hb, up2_row hb]) (by rw [eK]; exact hs.sig (by omega) c4 c1) (hH.of hN.1 (fun b g1 g2 => by rw [up2_row (by omega), up2_row (by omega), up2_row (by omega), up2_row (by omega)]))
    exact g _ _ fin.1 fin.2
theorem k_end {d : Nat} {S : vS} {I : vI} {L : vL} {Q : Int32 → vS → vI → vL → Prop} {x lb np nc ns nl : Nat} {K : Nat → Int32} {l : List tH} {v : Int32} (hC : ClsS S x) (hs : STR S I (x + 1) lb K np nc ns nl) (hH : HC I (x + 89) l np) (hlb : x + 942 ≤ lb) (h1 : zLie v 0 (I x 12) = 0 → Q (-1) S I L) (h : ¬ zLie v 0 (I x 12) = 0 → Q v S (up2 I x 12 v) L) : Vc mX11_end (d + 80) 0 0 [.ref x, .int v] S I L (ViQ Q) := by
  refine Vc.of rfl (Nat.le_of_ble_eq_true rfl) ?_
  have B := bs_X11_end
  show Vw mX11_end (d + 80) 0 0 0 0 (ViQ Q) 0 [(0, .ref x), (1, .int v)] [] S I L
  have hT := hC.p0.p0
  have hN := hs.tn
  have h8 := hN.1
  have h10 := hN.2.1
  have hK := hs.tr
  have hold : ∃ old, old < 16 ∧ I (x + 89) 2 = nI old := by obtain ⟨_, _, old, o1, o2, _⟩ := hH; exact ⟨old, o1, o2⟩
  refine Vw.iload_n (de_iload_1 (B 0 _ rfl)) 1 rfl (n := 1) rfl ?_
  refine Vw.iconst (v := 0) (de_iconst_0 (B 1 _ rfl)) rfl (n := 2) rfl ?_
  refine Vw.aload_n (de_aload_0 (B 2 _ rfl)) 0 rfl (n := 3) rfl ?_
  refine Vw.getI (de_getfield (B 3 _ rfl) (B 4 _ rfl) (B 5 _ rfl)) fl_X11_191 rfl hC.k (n := 6) rfl ?_
  refine Vw.isi3 (mi' := mX11_isWithin) (de_invokestatic (B 6 _ rfl) (B 7 _ rfl) (B 8 _ rfl)) ml_X11_165 ms_X11_isWithin (Nat.le_of_ble_eq_true rfl) (n := 9) rfl (c_X11_isWithin ?_)
  refine Vw.if_ne (tgt := 14) (n := 12) (de_if_ne (B 9 _ rfl) (B 10 _ rfl) (B 11 _ rfl)) rfl rfl (fun c_9 => ?_) (fun c_9 => ?_)
  · refine Vw.aload_n (de_aload_0 (B 14 _ rfl)) 0 rfl (n := 15) rfl ?_
    refine Vw.iload_n (de_iload_1 (B 15 _ rfl)) 1 rfl (n := 16) rfl ?_
    refine Vw.putI (de_putfield (B 16 _ rfl) (B 17 _ rfl) (B 18 _ rfl)) fl_X11_191 hC.k rfl rfl (n := 19) rfl ?_
    refine Vw.iload_n (de_iload_1 (B 19 _ rfl)) 1 rfl (n := 20) rfl ?_
    exact Vw.iret (de_ireturn (B 20 _ rfl)) rfl ⟨_, rfl, (h c_9)⟩
  refine Vw.iconst (v := -1) (de_iconst_m1 (B 12 _ rfl)) rfl (n := 13) rfl ?_
  exact Vw.iret (de_ireturn (B 13 _ rfl)) rfl ⟨_, rfl, (h1 c_9)⟩
theorem pr_end {S : vS} {I : vI} {L : vL} {x r lb : Nat} {v : Int32} (hR : REL S I x r lb) : PR mX11_end mX12_end 0 0 [.int v] x r lb S I L := by
  intro d Q h
  obtain ⟨l, np, nc, ns, nl, hCP, hL, h32, hWd, hSP⟩ := hR
  have hR : REL S I x r lb := ⟨l, np, nc, ns, nl, hCP, hL, h32, hWd, hSP⟩
  have hs := hCP.1
  have hH := hCP.2.1
  have hN := hs.tn
  obtain ⟨hC, hM, hst, er, el, hl2⟩ := id hSP
  have hCP2 := hCP
  obtain ⟨-, -, hold, ⟨n, n4, zn, xn⟩, hu, h13, h14, h15, h16, hrf, him, hy, nd, nd8, z54, hyr⟩ := hCP2
  refine k_end hC hs hH (by omega) (fun c1 => h _ S _ L (fun _ _ => rfl) (fun d2 Q2 g => ?_)) (fun c1 => h _ S _ L (fun _ _ => rfl) (fun d2 Q2 g => ?_))
  · exact c_X12_end (d := d2 + 59) hM (fun _ => g _ _ hR (fun _ _ => rfl)) (fun q => absurd (by rw [zn, ← xn]; exact c1) q)
  · have e2 : up2 I x 12 v r = I r := up2_row (by omega)
    refine c_X12_end (d := d2 + 59) hM (fun q => absurd (by rw [e2, zn, ← xn] at q; exact q) c1) (fun _ => ?_)
    rw [xn] at c1
    obtain ⟨m, m1, m2⟩ := lie_n (N := n) (by omega) c1
    have row : ∀ b, b ≠ x → b ≠ r → up2 (up2 I x 12 v) r 11 v b = I b := fun b q1 q2 => by rw [up2_row q2, up2_row q1]
    have xk : ∀ k, k ≠ 12 → up2 (up2 I x 12 v) r 11 v x k = I x k := fun k hk => by rw [up2_row (by omega), up2_k hk]
    have rk : ∀ k, k ≠ 11 → up2 (up2 I x 12 v) r 11 v r k = I r k := fun k hk => by rw [up2_k hk, up2_row (by omega)]
    refine g _ _ (REL.upd (np2 := np) (nc2 := nc) (ns2 := ns) (nl2 := nl) (l2 := l) hCP hWd hSP (fun b k hb => by rw [row b (by omega) (by omega)]) (fun b hb => row b (by omega) (by omega)) (rk _ (by decide)) (rk _ (by decide)) ?_ ?_ ?_ ?_ ?_ ⟨m, by omega, by rw [up2_s]; exact m2, by rw [up2_row (by omega), up2_s]; exact m2⟩ (fun i hi => ?_) ?_ ?_ ?_ ?_ (fun i hi => ?_)) (fun b hb => row b (by omega) (by omega))
    · rw [row (r + 2) (by omega) (by omega)]; exact hs.of (fun b g1 g2 => row b (by omega) (by omega)) (fun b hb => row b (by omega) (by omega))
    · exact hH.of hN.1 (fun b g1 g2 => row b (by omega) (by omega))
    · rw [row (r + 14) (by omega) (by omega)]; exact hL
    · rw [rk _ (by decide)]; exact h32
    · rw [row (x + 460) (by omega) (by omega)]; exact hold
    · rw [row (x + 856) (by omega) (by omega), row (r + 7) (by omega) (by omega)]; exact hu i hi
    · rw [xk _ (by decide), rk _ (by decide)]; exact h13
    · rw [xk _ (by decide), rk _ (by decide)]; exact h14
    · rw [xk _ (by decide), rk _ (by decide)]; exact h15
    · rw [xk _ (by decide), rk _ (by decide)]; exact h16
    · rw [row (x + 857) (by omega) (by omega), row (r + 1) (by omega) (by omega)]; exact hrf i hi
