/-! The cutter: firstBest, choose, planCutting -/
/-- rows of the most that can be paid, up to cl -/
def BR (I : vI) (s np cl : Nat) (cn pn : Nat → Nat → Nat) : Prop := ∀ q c, q ≤ np → c ≤ cl → I (s + 68) (1000 * q + c) = nI (mN cn pn np (np - q) c)
theorem pn_b {cs py : Nat → Nat → Int32} {cn pn : Nat → Nat → Nat} {np : Nat} (h : CPN cs py cn pn np) : ∀ q j, q < np → j < 16 → pn q j ≤ 999 := fun q j a b => (h q j a b).2.2.2
theorem c_X1_firstBest {d : Nat} {S : vS} {I : vI} {L : vL} {Q : Int32 → vS → vI → vL → Prop} {s np cl q c : Nat} {cs py : Nat → Nat → Int32} {cn pn : Nat → Nat → Nat} (hc : CutS S (s + 65) s (s + 28) (s + 33)) (hX : CPN cs py cn pn np) (h8 : np ≤ 8) (hq : q < np) (hcl : cl ≤ 999) (hcc : c ≤ cl) (hO : OptQ I s q (cn q) (pn q)) (hB : BR I s np cl cn pn) (h : Q (optP cs py np q c) S I L) : Vc mX1_firstBest d 0 0 [.ref (s + 65), .int (nI q), .int (nI c)] S I L (ViQ Q) := by
  refine Vc.of rfl (Nat.le_of_ble_eq_true rfl) ?_
  have B := bs_X1_firstBest
  show Vw mX1_firstBest d 0 0 0 0 (ViQ Q) 0 [(0, .ref (s + 65)), (1, .int (nI q)), (2, .int (nI c))] [] S I L
  have loop : ∀ k, k ≤ 16 → optP cs py np q c = optF (cs q) (py q) (mostR cs py np (np - (q + 1))) (mostR cs py np (np - q) c) c (16 - k) k → Vw mX1_firstBest d 0 0 0 0 (ViQ Q) 9 [(0, .ref (s + 65)), (1, .int (nI q)), (2, .int (nI c)), (3, .int (nI (1000 * q))), (4, .int (nI k))] [] S I L := by
    refine loop_up (fun k hk ih => ?_)
    intro eP
    refine Vw.iload (de_iload (B 9 _ rfl) (B 10 _ rfl)) 4 rfl (n := 11) rfl ?_
    refine Vw.bipush (v := 16) (de_bipush (B 11 _ rfl) (B 12 _ rfl)) rfl (n := 13) rfl ?_
    refine Vw.icmp_ge (tgt := 94) (n := 16) (de_icmp_ge (B 13 _ rfl) (B 14 _ rfl) (B 15 _ rfl)) rfl rfl (fun c_13 => ?_) (fun c_13 => ?_)
    · have z_13 : 16 ≤ k := ((nI_leI (a := 16) (b := k) (by omega) (by omega)).mp c_13)
      obtain rfl : k = 16 := by omega
      rw [Nat.sub_self, optF] at eP
      refine Vw.bipush (v := 100) (de_bipush (B 94 _ rfl) (B 95 _ rfl)) rfl (n := 96) rfl ?_
      exact Vw.iret (de_ireturn (B 96 _ rfl)) rfl ⟨_, rfl, (qv eP h)⟩
    have z_13 : k < 16 := by rcases Nat.lt_or_ge k 16 with z | z; exact z; exact absurd ((nI_leI (a := 16) (b := k) (by omega) (by omega)).mpr z) c_13
    obtain ⟨o1, o2, o3, o4⟩ := hO k z_13
    obtain ⟨x1, x2, x3, x4⟩ := hX q k hq z_13
    rw [show 16 - k = (16 - (k + 1)) + 1 by omega, optF, x1, nI_cl (by omega)] at eP
    refine Vw.aload_n (de_aload_0 (B 16 _ rfl)) 0 rfl (n := 17) rfl ?_
    refine Vw.getR (de_getfield (B 17 _ rfl) (B 18 _ rfl) (B 19 _ rfl)) fl_X1_9 rfl hc.k hc.f3 (n := 20) rfl ?_
    refine Vw.iload_n (de_iload_1 (B 20 _ rfl)) 1 rfl (n := 21) rfl ?_
    refine Vw.bipush (v := 16) (de_bipush (B 21 _ rfl) (B 22 _ rfl)) rfl (n := 23) rfl ?_
    refine Vw.imul (de_imul (B 23 _ rfl)) (n := 24) rfl ?_
    refine Vw.iload (de_iload (B 24 _ rfl) (B 25 _ rfl)) 4 rfl (n := 26) rfl ?_
    refine Vw.iadd (de_iadd (B 26 _ rfl)) (n := 27) rfl ?_
    refine Vw.iald (de_iaload (B 27 _ rfl)) hc.r3 (vIx_n (k := 16 * q + k) n16 (by omega)) (n := 28) rfl ?_
    rw [show I (s + 65 + 1) (16 * q + k) = I (s + 66) (16 * q + k) from rfl]
    refine Vw.istore (lv2 := [(0, _), (1, _), (2, _), (3, _), (4, _), (5, _)]) (de_istore (B 28 _ rfl) (B 29 _ rfl)) (by decide) [1, 2, 3, 4, 5, 0] rfl (n := 30) rfl ?_
    refine Vw.aload_n (de_aload_0 (B 30 _ rfl)) 0 rfl (n := 31) rfl ?_
    refine Vw.getR (de_getfield (B 31 _ rfl) (B 32 _ rfl) (B 33 _ rfl)) fl_X1_15 rfl hc.k hc.f4 (n := 34) rfl ?_
    refine Vw.iload_n (de_iload_1 (B 34 _ rfl)) 1 rfl (n := 35) rfl ?_
    refine Vw.bipush (v := 16) (de_bipush (B 35 _ rfl) (B 36 _ rfl)) rfl (n := 37) rfl ?_
    refine Vw.imul (de_imul (B 37 _ rfl)) (n := 38) rfl ?_
    refine Vw.iload (de_iload (B 38 _ rfl) (B 39 _ rfl)) 4 rfl (n := 40) rfl ?_
    refine Vw.iadd (de_iadd (B 40 _ rfl)) (n := 41) rfl ?_
    refine Vw.iald (de_iaload (B 41 _ rfl)) hc.r4 (vIx_n (k := 16 * q + k) n16 (by omega)) (n := 42) rfl ?_
    rw [show I (s + 65 + 2) (16 * q + k) = nI (pn q k) from o3]
    refine Vw.istore (lv2 := [(0, _), (1, _), (2, _), (3, _), (4, _), (5, _), (6, _)]) (de_istore (B 42 _ rfl) (B 43 _ rfl)) (by decide) [1, 2, 3, 4, 5, 6, 0] rfl (n := 44) rfl ?_
    refine Vw.iload (de_iload (B 44 _ rfl) (B 45 _ rfl)) 5 rfl (n := 46) rfl ?_
    refine Vw.iconst (v := -1) (de_iconst_m1 (B 46 _ rfl)) rfl (n := 47) rfl ?_
    refine Vw.icmp_eq (tgt := 88) (n := 50) (de_icmp_eq (B 47 _ rfl) (B 48 _ rfl) (B 49 _ rfl)) rfl rfl (fun c_47 => ?_) (fun c_47 => ?_)
    · refine Vw.iinc (v := nI (k + 1)) (lv2 := [(0, _), (1, _), (2, _), (3, _), (4, _), (5, _), (6, _)]) (de_iinc (B 88 _ rfl) (B 89 _ rfl) (B 90 _ rfl)) 4 rfl (nI_1 k) (by decide) [1, 2, 3, 4, 0, 5, 6] rfl (n := 91) rfl ?_
      refine Vw.goto_ (n := 9) (de_goto_ (B 91 _ rfl) (B 92 _ rfl) (B 93 _ rfl)) rfl ?_
      refine Vw.lvs (lv2 := [(0, _), (1, _), (2, _), (3, _), (4, _)]) [0, 1, 2, 3, 4] rfl ?_
      first
      | (have cn1 : 1000 ≤ cn q k := by
           rcases o1 with o1 | o1
           · exact o1.2
           · rw [o1] at c_47; exact absurd c_47 (nI_m1 (by omega))
         exact ih z_13 (by rw [eP, if_neg (fun z => absurd ((nI_leI (a := cn q k) (b := c) (by omega) (by omega)).mp z.1) (by omega))]))
      | exact ih z_13 (by rw [eP, if_neg (fun z => c_82 z.2), e2])
      | exact ih z_13 (by rw [eP, if_neg (fun z => absurd z.1 (Int32.not_le.mpr c_53))])
    have o1b : I (s + 66) (16 * q + k) = nI (cn q k) := o1.resolve_left (fun z => c_47 z.1)
    rw [o1b]
    refine Vw.iload (de_iload (B 50 _ rfl) (B 51 _ rfl)) 5 rfl (n := 52) rfl ?_
    refine Vw.iload_n (de_iload_2 (B 52 _ rfl)) 2 rfl (n := 53) rfl ?_
    refine Vw.icmp_gt (tgt := 88) (n := 56) (de_icmp_gt (B 53 _ rfl) (B 54 _ rfl) (B 55 _ rfl)) rfl rfl (fun c_53 => ?_) (fun c_53 => ?_)
    · refine Vw.iinc (v := nI (k + 1)) (lv2 := [(0, _), (1, _), (2, _), (3, _), (4, _), (5, _), (6, _)]) (de_iinc (B 88 _ rfl) (B 89 _ rfl) (B 90 _ rfl)) 4 rfl (nI_1 k) (by decide) [1, 2, 3, 4, 0, 5, 6] rfl (n := 91) rfl ?_
      refine Vw.goto_ (n := 9) (de_goto_ (B 91 _ rfl) (B 92 _ rfl) (B 93 _ rfl)) rfl ?_
      refine Vw.lvs (lv2 := [(0, _), (1, _), (2, _), (3, _), (4, _)]) [0, 1, 2, 3, 4] rfl ?_
      first
      | (have cn1 : 1000 ≤ cn q k := by
           rcases o1 with o1 | o1
           · exact o1.2
           · rw [o1] at c_47; exact absurd c_47 (nI_m1 (by omega))
         exact ih z_13 (by rw [eP, if_neg (fun z => absurd ((nI_leI (a := cn q k) (b := c) (by omega) (by omega)).mp z.1) (by omega))]))
      | exact ih z_13 (by rw [eP, if_neg (fun z => c_82 z.2), e2])
      | exact ih z_13 (by rw [eP, if_neg (fun z => absurd z.1 (Int32.not_le.mpr c_53))])
    have z_53 : cn q k ≤ c := (nI_leI (a := cn q k) (b := c) (by omega) (by omega)).mp (Int32.not_lt.mp c_53)
    have e1 : mostR cs py np (np - (q + 1)) (c - cn q k) = nI (mN cn pn np (np - (q + 1)) (c - cn q k)) := mostR_N hX h8 (by omega) (by omega)
    have e2 : mostR cs py np (np - q) c = nI (mN cn pn np (np - q) c) := mostR_N hX h8 (by omega) (by omega)
    rw [e1, e2, x3] at eP
    refine Vw.iload (de_iload (B 56 _ rfl) (B 57 _ rfl)) 6 rfl (n := 58) rfl ?_
    refine Vw.aload_n (de_aload_0 (B 58 _ rfl)) 0 rfl (n := 59) rfl ?_
    refine Vw.getR (de_getfield (B 59 _ rfl) (B 60 _ rfl) (B 61 _ rfl)) fl_X1_18 rfl hc.k hc.f5 (n := 62) rfl ?_
    refine Vw.iload_n (de_iload_3 (B 62 _ rfl)) 3 rfl (n := 63) rfl ?_
    refine Vw.sipush (v := 1000) (de_sipush (B 63 _ rfl) (B 64 _ rfl) (B 65 _ rfl)) rfl (n := 66) rfl ?_
    refine Vw.iadd (de_iadd (B 66 _ rfl)) (n := 67) rfl ?_
    refine Vw.iload_n (de_iload_2 (B 67 _ rfl)) 2 rfl (n := 68) rfl ?_
    refine Vw.iadd (de_iadd (B 68 _ rfl)) (n := 69) rfl ?_
    refine Vw.iload (de_iload (B 69 _ rfl) (B 70 _ rfl)) 5 rfl (n := 71) rfl ?_
    refine Vw.isub (de_isub (B 71 _ rfl)) (n := 72) rfl ?_
    refine Vw.iald (de_iaload (B 72 _ rfl)) hc.r5 (vIx_n (k := 1000 * (q + 1) + (c - cn q k)) (by rw [show nI (1000 * q) + 1000 = nI (1000 * q + 1000) from (nI_A _ _).symm, ← nI_A, nI_sub (by omega) (by omega)]; congr 1; omega) (by omega)) (n := 73) rfl ?_
    rw [show I (s + 65 + 3) (1000 * (q + 1) + (c - cn q k)) = nI (mN cn pn np (np - (q + 1)) (c - cn q k)) from hB (q + 1) _ (by omega) (by omega)]
    refine Vw.iadd (de_iadd (B 73 _ rfl)) (n := 74) rfl ?_
    refine Vw.aload_n (de_aload_0 (B 74 _ rfl)) 0 rfl (n := 75) rfl ?_
    refine Vw.getR (de_getfield (B 75 _ rfl) (B 76 _ rfl) (B 77 _ rfl)) fl_X1_18 rfl hc.k hc.f5 (n := 78) rfl ?_
    refine Vw.iload_n (de_iload_3 (B 78 _ rfl)) 3 rfl (n := 79) rfl ?_
    refine Vw.iload_n (de_iload_2 (B 79 _ rfl)) 2 rfl (n := 80) rfl ?_
    refine Vw.iadd (de_iadd (B 80 _ rfl)) (n := 81) rfl ?_
    refine Vw.iald (de_iaload (B 81 _ rfl)) hc.r5 (vIx_n (k := 1000 * q + c) (nI_A _ _).symm (by omega)) (n := 82) rfl ?_
    rw [show I (s + 65 + 3) (1000 * q + c) = nI (mN cn pn np (np - q) c) from hB q c (by omega) hcc]
    refine Vw.icmp_ne (tgt := 88) (n := 85) (de_icmp_ne (B 82 _ rfl) (B 83 _ rfl) (B 84 _ rfl)) rfl rfl (fun c_82 => ?_) (fun c_82 => ?_)
    · refine Vw.iinc (v := nI (k + 1)) (lv2 := [(0, _), (1, _), (2, _), (3, _), (4, _), (5, _), (6, _)]) (de_iinc (B 88 _ rfl) (B 89 _ rfl) (B 90 _ rfl)) 4 rfl (nI_1 k) (by decide) [1, 2, 3, 4, 0, 5, 6] rfl (n := 91) rfl ?_
      refine Vw.goto_ (n := 9) (de_goto_ (B 91 _ rfl) (B 92 _ rfl) (B 93 _ rfl)) rfl ?_
      refine Vw.lvs (lv2 := [(0, _), (1, _), (2, _), (3, _), (4, _)]) [0, 1, 2, 3, 4] rfl ?_
      first
      | (have cn1 : 1000 ≤ cn q k := by
           rcases o1 with o1 | o1
           · exact o1.2
           · rw [o1] at c_47; exact absurd c_47 (nI_m1 (by omega))
         exact ih z_13 (by rw [eP, if_neg (fun z => absurd ((nI_leI (a := cn q k) (b := c) (by omega) (by omega)).mp z.1) (by omega))]))
      | exact ih z_13 (by rw [eP, if_neg (fun z => c_82 z.2), e2])
      | exact ih z_13 (by rw [eP, if_neg (fun z => absurd z.1 (Int32.not_le.mpr c_53))])
    refine Vw.iload (de_iload (B 85 _ rfl) (B 86 _ rfl)) 4 rfl (n := 87) rfl ?_
    exact Vw.iret (de_ireturn (B 87 _ rfl)) rfl ⟨_, rfl, (qv (by rw [eP, if_pos ⟨(nI_leI (a := cn q k) (b := c) (by omega) (by omega)).mpr z_53, c_82⟩]) h)⟩
  refine Vw.iload_n (de_iload_1 (B 0 _ rfl)) 1 rfl (n := 1) rfl ?_
  refine Vw.sipush (v := 1000) (de_sipush (B 1 _ rfl) (B 2 _ rfl) (B 3 _ rfl)) rfl (n := 4) rfl ?_
  refine Vw.imul (de_imul (B 4 _ rfl)) (n := 5) rfl ?_
  rw [n1000]
  refine Vw.istore_n (lv2 := [(0, _), (1, _), (2, _), (3, _)]) (de_istore_3 (B 5 _ rfl)) rfl (by decide) [1, 2, 3, 0] rfl (n := 6) rfl ?_
  refine Vw.iconst (v := 0) (de_iconst_0 (B 6 _ rfl)) rfl (n := 7) rfl ?_
  refine Vw.istore (lv2 := [(0, _), (1, _), (2, _), (3, _), (4, _)]) (de_istore (B 7 _ rfl) (B 8 _ rfl)) (by decide) [1, 2, 3, 4, 0] rfl (n := 9) rfl ?_
  exact loop 0 (Nat.zero_le _) rfl
theorem c_X1_choose {d : Nat} {S : vS} {I : vI} {L : vL} {Q : vS → vI → vL → Prop} {s np nc cl : Nat} {K : Nat → Int32} {cs py : Nat → Nat → Int32} {cn pn : Nat → Nat → Nat} (hc : CutS S (s + 65) s (s + 28) (s + 33)) (hK : TR I (s + 1) K np nc) (h10 : nc ≤ 10) (hX : CPN cs py cn pn np) (h8 : np ≤ 8) (hcl : cl ≤ 999) (hO : ∀ q, q < np → OptQ I s q (cn q) (pn q)) (hB : BR I s np cl cn pn) (h : ∀ I2, (∀ b i, ¬ (b = s + 65 ∧ i = 10) → b ≠ s + 71 → I2 b i = I b i) → (∀ q, q < np → I2 (s + 71) q = optP cs py np q (cutH cs py np cl q)) → I2 (s + 65) 10 = nI cl - nI (cutH cs py np cl np) → Q S I2 L) : Vc mX1_choose (d + 1) 0 0 [.ref (s + 65), .int (nI cl)] S I L (VvQ Q) := by
  refine Vc.of rfl (Nat.le_of_ble_eq_true rfl) ?_
  have B := bs_X1_choose
  show Vw mX1_choose (d + 1) 0 0 0 0 (VvQ Q) 0 [(0, .ref (s + 65)), (1, .int (nI cl))] [] S I L
  have hT := hc.p0.p0
  have loop : ∀ q, q ≤ np → ∀ J, (∀ b i, ¬ (b = s + 65 ∧ i = 10) → b ≠ s + 71 → J b i = I b i) → (∀ x, x < q → J (s + 71) x = optP cs py np x (cutH cs py np cl x)) → Vw mX1_choose (d + 1) 0 0 0 0 (VvQ Q) 4 [(0, .ref (s + 65)), (1, .int (nI cl)), (2, .int (nI (cutH cs py np cl q))), (3, .int (nI q))] [] S J L := by
    refine loop_up (fun q hq ih => ?_)
    intro J fJ eJ
    have hle := cutH_le (cs := cs) (py := py) (np := np) (cl := cl) (q := q)
    have kJ : TR J (s + 1) K np nc := hK.of (fun b g1 g2 => funext fun i => fJ b i (by omega) (by omega)) h8 h10
    refine Vw.iload_n (de_iload_3 (B 4 _ rfl)) 3 rfl (n := 5) rfl ?_
    refine Vw.aload_n (de_aload_0 (B 5 _ rfl)) 0 rfl (n := 6) rfl ?_
    refine Vw.getR (de_getfield (B 6 _ rfl) (B 7 _ rfl) (B 8 _ rfl)) fl_X1_36 rfl hc.k hc.f0 (n := 9) rfl ?_
    refine Vw.getR (de_getfield (B 9 _ rfl) (B 10 _ rfl) (B 11 _ rfl)) fl_X1_48 rfl hc.p0.k hc.p0.f0 (n := 12) rfl ?_
    refine Vw.getI (de_getfield (B 12 _ rfl) (B 13 _ rfl) (B 14 _ rfl)) fl_X1_63 rfl hc.p0.p0.k (n := 15) rfl ?_
    rw [kJ.1]
    refine Vw.icmp_ge (tgt := 66) (n := 18) (de_icmp_ge (B 15 _ rfl) (B 16 _ rfl) (B 17 _ rfl)) rfl rfl (fun c_15 => ?_) (fun c_15 => ?_)
    · have z_15 : np ≤ q := ((nI_leI (a := np) (b := q) (by omega) (by omega)).mp c_15)
      obtain rfl : q = np := by omega
      refine Vw.aload_n (de_aload_0 (B 66 _ rfl)) 0 rfl (n := 67) rfl ?_
      refine Vw.iload_n (de_iload_1 (B 67 _ rfl)) 1 rfl (n := 68) rfl ?_
      refine Vw.iload_n (de_iload_2 (B 68 _ rfl)) 2 rfl (n := 69) rfl ?_
      refine Vw.isub (de_isub (B 69 _ rfl)) (n := 70) rfl ?_
      refine Vw.putI (de_putfield (B 70 _ rfl) (B 71 _ rfl) (B 72 _ rfl)) fl_X1_149 hc.k rfl rfl (n := 73) rfl ?_
      exact Vw.vret (de_return_ (B 73 _ rfl)) rfl ⟨rfl, (h _ (fun b i h1 h2 => by rw [up2_ne h1]; exact fJ b i h1 h2) (fun x hx => by rw [up2_a (by omega)]; exact eJ x hx) (up2_s _ _ _ _))⟩
    have z_15 : q < np := by rcases Nat.lt_or_ge q np with z | z; exact z; exact absurd ((nI_leI (a := np) (b := q) (by omega) (by omega)).mpr z) c_15
    have oJ : OptQ J s q (cn q) (pn q) := (hO q z_15).of (fun k hk => fJ _ _ (by omega) (by omega)) (fun k hk => fJ _ _ (by omega) (by omega))
    have bJ : BR J s np cl cn pn := fun x y h1 h2 => by rw [fJ _ _ (by omega) (by omega)]; exact hB x y h1 h2
    refine Vw.aload_n (de_aload_0 (B 18 _ rfl)) 0 rfl (n := 19) rfl ?_
    refine Vw.iload_n (de_iload_3 (B 19 _ rfl)) 3 rfl (n := 20) rfl ?_
    refine Vw.iload_n (de_iload_2 (B 20 _ rfl)) 2 rfl (n := 21) rfl ?_
    refine Vw.ivi2 (mi' := mX1_firstBest) (de_invokevirtual (B 21 _ rfl) (B 22 _ rfl) (B 23 _ rfl)) ml_X1_146 mv_X1_firstBest hc.k (Nat.le_of_ble_eq_true rfl) (n := 24) rfl (c_X1_firstBest hc hX h8 z_15 hcl hle oJ bJ ?_)
    refine Vw.istore (lv2 := [(0, _), (1, _), (2, _), (3, _), (4, _)]) (de_istore (B 24 _ rfl) (B 25 _ rfl)) (by decide) [1, 2, 3, 4, 0] rfl (n := 26) rfl ?_
    refine Vw.aload_n (de_aload_0 (B 26 _ rfl)) 0 rfl (n := 27) rfl ?_
    refine Vw.getR (de_getfield (B 27 _ rfl) (B 28 _ rfl) (B 29 _ rfl)) fl_X1_27 rfl hc.k hc.f9 (n := 30) rfl ?_
    refine Vw.iload_n (de_iload_3 (B 30 _ rfl)) 3 rfl (n := 31) rfl ?_
    refine Vw.iload (de_iload (B 31 _ rfl) (B 32 _ rfl)) 4 rfl (n := 33) rfl ?_
    refine Vw.iast (de_iastore (B 33 _ rfl)) hc.r9 (vIx_n (k := q) rfl (by omega)) (n := 34) rfl ?_
    refine Vw.iload_n (de_iload_2 (B 34 _ rfl)) 2 rfl (n := 35) rfl ?_
    refine Vw.iload (de_iload (B 35 _ rfl) (B 36 _ rfl)) 4 rfl (n := 37) rfl ?_
    refine Vw.bipush (v := 100) (de_bipush (B 37 _ rfl) (B 38 _ rfl)) rfl (n := 39) rfl ?_
    refine Vw.icmp_ne (tgt := 46) (n := 42) (de_icmp_ne (B 39 _ rfl) (B 40 _ rfl) (B 41 _ rfl)) rfl rfl (fun c_39 => ?_) (fun c_39 => ?_)
    · obtain ⟨j, hj, ej, hjc⟩ := (optF_c (cs := cs q) (py := py q) (nx := mostR cs py np (np - (q + 1))) (v := mostR cs py np (np - q) (cutH cs py np cl q)) (c := cutH cs py np cl q) (f := 16) (k := 0) rfl).resolve_left c_39
      change optP cs py np q (cutH cs py np cl q) = nI j at ej
      obtain ⟨x1, x2, -, -⟩ := hX q j z_15 hj
      have hcj : cn q j ≤ cutH cs py np cl q := (nI_leI (a := cn q j) (b := cutH cs py np cl q) (by omega) (by omega)).mp (by rw [← x1]; exact hjc)
      have o1b : J (s + 66) (16 * q + j) = nI (cn q j) := ((oJ j hj).1).resolve_left (fun z => by have := z.2; omega)
      refine Vw.aload_n (de_aload_0 (B 46 _ rfl)) 0 rfl (n := 47) rfl ?_
      refine Vw.getR (de_getfield (B 47 _ rfl) (B 48 _ rfl) (B 49 _ rfl)) fl_X1_9 rfl hc.k hc.f3 (n := 50) rfl ?_
      refine Vw.iload_n (de_iload_3 (B 50 _ rfl)) 3 rfl (n := 51) rfl ?_
      refine Vw.bipush (v := 16) (de_bipush (B 51 _ rfl) (B 52 _ rfl)) rfl (n := 53) rfl ?_
      refine Vw.imul (de_imul (B 53 _ rfl)) (n := 54) rfl ?_
      refine Vw.iload (de_iload (B 54 _ rfl) (B 55 _ rfl)) 4 rfl (n := 56) rfl ?_
      refine Vw.iadd (de_iadd (B 56 _ rfl)) (n := 57) rfl ?_
      refine Vw.iald (de_iaload (B 57 _ rfl)) hc.r3 (vIx_n (k := 16 * q + j) (by rw [ej]; exact n16) (by omega)) (n := 58) rfl ?_
      skip
      refine Vw.isub (de_isub (B 58 _ rfl)) (n := 59) rfl ?_
      refine Vw.istore_n (lv2 := [(0, _), (1, _), (2, _), (3, _), (4, _)]) (de_istore_2 (B 59 _ rfl)) rfl (by decide) [1, 2, 0, 3, 4] rfl (n := 60) rfl ?_
      refine Vw.iinc (v := nI (q + 1)) (lv2 := [(0, _), (1, _), (2, _), (3, _), (4, _)]) (de_iinc (B 60 _ rfl) (B 61 _ rfl) (B 62 _ rfl)) 3 rfl (nI_1 q) (by decide) [1, 2, 3, 0, 4] rfl (n := 63) rfl ?_
      refine Vw.goto_ (n := 4) (de_goto_ (B 63 _ rfl) (B 64 _ rfl) (B 65 _ rfl)) rfl ?_
      refine Vw.lvs (lv2 := [(0, _), (1, _), (2, _), (3, _)]) [0, 1, 2, 3] rfl ?_
      have e3 : ∀ x, x < q + 1 → up2 J (s + 65 + 6) q (optP cs py np q (cutH cs py np cl q)) (s + 71) x = optP cs py np x (cutH cs py np cl x) := fun x hx => by
        rcases (show x = q ∨ x < q by omega) with z | z
        · subst z; rw [show s + 71 = s + 65 + 6 from rfl, up2_s]
        · rw [up2_k (by omega)]; exact eJ x z
      have g := ih z_15 (up2 J (s + 65 + 6) q (optP cs py np q (cutH cs py np cl q))) (fun b i h1 h2 => by rw [up2_ne (by omega)]; exact fJ b i h1 h2) e3
      rw [cutH] at g
      first
      | (rw [if_pos c_39] at g; rw [Int32.sub_zero]; exact g)
      | (rw [if_neg c_39, ej, nI_cl (by omega), x1, nI_cl (by omega), ← ej] at g
         rw [up2_a (show s + 65 + 1 ≠ s + 65 + 6 by omega), show J (s + 65 + 1) (16 * q + j) = nI (cn q j) from o1b, nI_sub hcj (by omega)]
         exact g)
    refine Vw.iconst (v := 0) (de_iconst_0 (B 42 _ rfl)) rfl (n := 43) rfl ?_
    refine Vw.goto_ (n := 58) (de_goto_ (B 43 _ rfl) (B 44 _ rfl) (B 45 _ rfl)) rfl ?_
    skip
    refine Vw.isub (de_isub (B 58 _ rfl)) (n := 59) rfl ?_
    refine Vw.istore_n (lv2 := [(0, _), (1, _), (2, _), (3, _), (4, _)]) (de_istore_2 (B 59 _ rfl)) rfl (by decide) [1, 2, 0, 3, 4] rfl (n := 60) rfl ?_
    refine Vw.iinc (v := nI (q + 1)) (lv2 := [(0, _), (1, _), (2, _), (3, _), (4, _)]) (de_iinc (B 60 _ rfl) (B 61 _ rfl) (B 62 _ rfl)) 3 rfl (nI_1 q) (by decide) [1, 2, 3, 0, 4] rfl (n := 63) rfl ?_
    refine Vw.goto_ (n := 4) (de_goto_ (B 63 _ rfl) (B 64 _ rfl) (B 65 _ rfl)) rfl ?_
    refine Vw.lvs (lv2 := [(0, _), (1, _), (2, _), (3, _)]) [0, 1, 2, 3] rfl ?_
    have e3 : ∀ x, x < q + 1 → up2 J (s + 65 + 6) q (optP cs py np q (cutH cs py np cl q)) (s + 71) x = optP cs py np x (cutH cs py np cl x) := fun x hx => by
      rcases (show x = q ∨ x < q by omega) with z | z
      · subst z; rw [show s + 71 = s + 65 + 6 from rfl, up2_s]
      · rw [up2_k (by omega)]; exact eJ x z
    have g := ih z_15 (up2 J (s + 65 + 6) q (optP cs py np q (cutH cs py np cl q))) (fun b i h1 h2 => by rw [up2_ne (by omega)]; exact fJ b i h1 h2) e3
    rw [cutH] at g
    first
    | (rw [if_pos c_39] at g; rw [Int32.sub_zero]; exact g)
    | (rw [if_neg c_39, ej, nI_cl (by omega), x1, nI_cl (by omega), ← ej] at g
       rw [up2_a (show s + 65 + 1 ≠ s + 65 + 6 by omega), show J (s + 65 + 1) (16 * q + j) = nI (cn q j) from o1b, nI_sub hcj (by omega)]
       exact g)
  refine Vw.iload_n (de_iload_1 (B 0 _ rfl)) 1 rfl (n := 1) rfl ?_
  refine Vw.istore_n (lv2 := [(0, _), (1, _), (2, _)]) (de_istore_2 (B 1 _ rfl)) rfl (by decide) [1, 2, 0] rfl (n := 2) rfl ?_
  refine Vw.iconst (v := 0) (de_iconst_0 (B 2 _ rfl)) rfl (n := 3) rfl ?_
  refine Vw.istore_n (lv2 := [(0, _), (1, _), (2, _), (3, _)]) (de_istore_3 (B 3 _ rfl)) rfl (by decide) [1, 2, 3, 0] rfl (n := 4) rfl ?_
  exact loop 0 (Nat.zero_le _) I (fun _ _ _ _ => rfl) (fun x hx => absurd hx (Nat.not_lt_zero _))
theorem oCc_n {W : tW} {K : Nat → Int32} {t : Int32} {np n q k : Nat} (h : ∀ q, q < np → PBt (perP K q)) (hq : q < np) (hk : k < 16) : oCl W K t q k = nI (oCl W K t q k).toNatClampNeg ∧ (oCl W K t q k).toNatClampNeg ≤ 1000000 ∧ oPay W K t n q k = nI (oPay W K t n q k).toNatClampNeg ∧ (oPay W K t n q k).toNatClampNeg ≤ 999 ∧ ((oCc W K t q k = -1 ∧ 1000 ≤ (oCl W K t q k).toNatClampNeg) ∨ oCc W K t q k = nI (oCl W K t q k).toNatClampNeg) := by
  obtain ⟨c, c1, c2⟩ := oCl_n (W := W) (t := t) h q k hq hk
  have pb : ∃ v, v ≤ 999 ∧ oPay W K t n q k = nI v := by
    unfold oPay
    split
    · exact ⟨0, by omega, rfl⟩
    · have b := payP_b W (nI q) t (oSz K q k) (oWd K q k) (K 121 + oDue W K n q k) (walkP W (nI q) (K 121) (perP K q) (oDue W K n q k).toNatClampNeg)
      obtain ⟨j, j1, j2⟩ := nI_ex (n := 1000) b.1 (by omega)
      exact ⟨j, by omega, j2⟩
  obtain ⟨v, v1, v2⟩ := pb
  refine ⟨by rw [c2, nI_cl (by omega)], by rw [c2, nI_cl (by omega)]; exact c1, by rw [v2, nI_cl (by omega)], by rw [v2, nI_cl (by omega)]; exact v1, ?_⟩
  by_cases z : barP W (nI q) t (oSz K q k) (oWd K q k) (K 121) (perP K q) = 0
  · refine Or.inr ?_
    have e1 : oCc W K t q k = oCl W K t q k := by unfold oCc oCl; rw [if_pos z, if_pos z]
    rw [e1, c2, nI_cl (by omega)]
  · refine Or.inl ⟨by unfold oCc; rw [if_neg z], ?_⟩
    have e1 : oCl W K t q k = 1000000 := by unfold oCl; rw [if_neg z]
    rw [e1]; decide
def FC (s : Nat) (I I2 : vI) : Prop := ∀ b, b ≠ s + 28 → b ≠ s + 29 → ¬ (s + 34 ≤ b ∧ b ≤ s + 37) → ¬ (s + 65 ≤ b ∧ b ≤ s + 73) → I2 b = I b
theorem FC.rfl {s : Nat} {I : vI} : FC s I I := fun _ _ _ _ _ => Eq.refl _
theorem FC.trans {s : Nat} {I I2 I3 : vI} (h : FC s I I2) (g : FC s I2 I3) : FC s I I3 := fun b h1 h2 h3 h4 => (g b h1 h2 h3 h4).trans (h b h1 h2 h3 h4)
theorem FC.tr {s np nc : Nat} {I J : vI} {K : Nat → Int32} (f : FC s I J) (h : TR I (s + 1) K np nc) (h8 : np ≤ 8) (h10 : nc ≤ 10) : TR J (s + 1) K np nc := h.of (fun b g1 g2 => f b (by omega) (by omega) (by omega) (by omega)) h8 h10
theorem FC.wc {S : vS} {s lb : Nat} {I J : vI} {W : tW} (f : FC s I J) (h : WC S I s lb W) (hl : s + 75 ≤ lb) : WC S J s lb W := h.of (f s (by omega) (by omega) (by omega) (by omega)) (fun b hb => f b (by omega) (by omega) (by omega) (by omega))
theorem FP.fc {s : Nat} {I J : vI} (f : FP s I J) : FC s I J := fun b h1 h2 h3 _ => f b h1 h2 h3
theorem c_X1_planCutting {d : Nat} {S : vS} {I : vI} {L : vL} {Q : vS → vI → vL → Prop} {s lb np nc : Nat} {K : Nat → Int32} {W : tW} {tl n cl : Nat} (hc : CutS S (s + 65) s (s + 28) (s + 33)) (hK : TR I (s + 1) K np nc) (hN : TN K np nc) (hW : WC S I s lb W) (hlb : s + 75 ≤ lb) (hPB : ∀ q, q < np → PBt (perP K q)) (ht : tl < 4) (hn : n ≤ 40) (hcl : cl ≤ 999) (hcK : K (113 + 2 * tl) = nI cl) (h : ∀ I2 M, FC s I I2 → Lev (s + 28) L M → I2 (s + 65) 11 = mostR (oCl W K (nI tl)) (oPay W K (nI tl) n) np np cl → I2 (s + 65) 10 = nI cl - nI (cutH (oCl W K (nI tl)) (oPay W K (nI tl) n) np cl np) → (∀ q, q < np → I2 (s + 71) q = optP (oCl W K (nI tl)) (oPay W K (nI tl) n) np q (cutH (oCl W K (nI tl)) (oPay W K (nI tl) n) np cl q)) → Q S I2 M) : Vc mX1_planCutting (d + 5) 0 0 [.ref (s + 65), .int (nI tl), .int (nI n)] S I L (VvQ Q) := by
  refine Vc.of rfl (Nat.le_of_ble_eq_true rfl) ?_
  have B := bs_X1_planCutting
  show Vw mX1_planCutting (d + 5) 0 0 0 0 (VvQ Q) 0 [(0, .ref (s + 65)), (1, .int (nI tl)), (2, .int (nI n))] [] S I L
  have h8 := hN.1
  have h10 := hN.2.1
  have hp := hc.p2
  have hT := hc.p0.p0
  have hR := hc.p1
  have hX : CPN (oCl W K (nI tl)) (oPay W K (nI tl) n) (fun q k => (oCl W K (nI tl) q k).toNatClampNeg) (fun q k => (oPay W K (nI tl) n q k).toNatClampNeg) np := fun q k hq hk => by
    have z := oCc_n (W := W) (K := K) (t := nI tl) (n := n) hPB hq hk
    exact ⟨z.1, z.2.1, z.2.2.1, z.2.2.2.1⟩
  have opt : ∀ J : vI, (∀ x, x < 16 * np → (J (s + 66) x = oCc W K (nI tl) (x / 16) (x % 16) ∧ J (s + 67) x = oPay W K (nI tl) n (x / 16) (x % 16))) → ∀ q, q < np → OptQ J s q ((fun q k => (oCl W K (nI tl) q k).toNatClampNeg) q) ((fun q k => (oPay W K (nI tl) n q k).toNatClampNeg) q) := fun J e q hq k hk => by
    have z := oCc_n (W := W) (K := K) (t := nI tl) (n := n) hPB hq hk
    have g := e (16 * q + k) (by omega)
    rw [show (16 * q + k) / 16 = q by omega, show (16 * q + k) % 16 = k by omega] at g
    rw [g.1, g.2]
    exact ⟨z.2.2.2.2, z.2.1, z.2.2.1, z.2.2.2.1⟩
  have hmb : ∀ m c, m ≤ np → mN (fun q k => (oCl W K (nI tl) q k).toNatClampNeg) (fun q k => (oPay W K (nI tl) n q k).toNatClampNeg) np m c ≤ 50000 := fun m c hm => by
    have := mN_b (cn := (fun q k => (oCl W K (nI tl) q k).toNatClampNeg)) (pn := (fun q k => (oPay W K (nI tl) n q k).toNatClampNeg)) (np := np) (m := m) (c := c) (pn_b hX) hm
    omega
  have down : ∀ m, m ≤ np → ∀ J M n2, FC s I J → Lev (s + 28) L M → (∀ x, x < 16 * np → (J (s + 66) x = oCc W K (nI tl) (x / 16) (x % 16) ∧ J (s + 67) x = oPay W K (nI tl) n (x / 16) (x % 16))) → (∀ q c, np - m ≤ q → q ≤ np → c ≤ cl → J (s + 68) (1000 * q + c) = nI (mN (fun q k => (oCl W K (nI tl) q k).toNatClampNeg) (fun q k => (oPay W K (nI tl) n q k).toNatClampNeg) np (np - q) c)) → Stq J s (mN (fun q k => (oCl W K (nI tl) q k).toNatClampNeg) (fun q k => (oPay W K (nI tl) n q k).toNatClampNeg) np m) (cl + 1) n2 → Vw mX1_planCutting (d + 5) 0 0 0 0 (VvQ Q) 120 [(0, .ref (s + 65)), (1, .int (nI tl)), (2, .int (nI n)), (3, .ref (s + 1)), (4, .int (nI cl)), (5, .int (nI (1000 * np))), (6, .int (nI (np - m) - 1))] [] S J M := by
    refine loop_up (fun m hm ih => ?_)
    intro J M n2 fJ fM oJ bJ sJ
    refine Vw.iload (de_iload (B 120 _ rfl) (B 121 _ rfl)) 6 rfl (n := 122) rfl ?_
    refine Vw.if_lt (tgt := 139) (n := 125) (de_if_lt (B 122 _ rfl) (B 123 _ rfl) (B 124 _ rfl)) rfl rfl (fun c_122 => ?_) (fun c_122 => ?_)
    · have z_122 : m = np := by
        rcases Nat.lt_or_ge m np with z | z
        · refine absurd c_122 (Int32.not_lt.mpr ?_)
          rw [show nI (np - m) - 1 = nI (np - (m + 1)) from (nI_sub (a := np - m) (b := 1) (by omega) (by omega)).trans (by congr 1)]
          exact (nI_leI (a := 0) (b := np - (m + 1)) (by omega) (by omega)).mpr (Nat.zero_le _)
        · omega
      have kJ := fJ.tr hK h8 h10
      refine Vw.aload_n (de_aload_0 (B 139 _ rfl)) 0 rfl (n := 140) rfl ?_
      refine Vw.aload_n (de_aload_0 (B 140 _ rfl)) 0 rfl (n := 141) rfl ?_
      refine Vw.getR (de_getfield (B 141 _ rfl) (B 142 _ rfl) (B 143 _ rfl)) fl_X1_18 rfl hc.k hc.f5 (n := 144) rfl ?_
      refine Vw.iload (de_iload (B 144 _ rfl) (B 145 _ rfl)) 4 rfl (n := 146) rfl ?_
      refine Vw.iald (de_iaload (B 146 _ rfl)) hc.r5 (vIx_n (k := cl) rfl (by omega)) (n := 147) rfl ?_
      rw [show J (s + 65 + 3) cl = nI (mN (fun q k => (oCl W K (nI tl) q k).toNatClampNeg) (fun q k => (oPay W K (nI tl) n q k).toNatClampNeg) np np cl) from by have := bJ 0 cl (by omega) (by omega) (Nat.le_refl _); rw [show 1000 * 0 + cl = cl by omega, Nat.sub_zero] at this; exact this, ← mostR_N hX h8 (Nat.le_refl _) hcl]
      refine Vw.putI (de_putfield (B 147 _ rfl) (B 148 _ rfl) (B 149 _ rfl)) fl_X1_89 hc.k rfl rfl (n := 150) rfl ?_
      have k5 : ∀ v, TR (up2 J (s + 65) 11 v) (s + 1) K np nc := fun v => kJ.of (fun b g1 g2 => up2_row (by omega)) h8 h10
      refine Vw.aload_n (de_aload_0 (B 150 _ rfl)) 0 rfl (n := 151) rfl ?_
      refine Vw.iload (de_iload (B 151 _ rfl) (B 152 _ rfl)) 4 rfl (n := 153) rfl ?_
      refine Vw.ivv1 (mi' := mX1_choose) (de_invokevirtual (B 153 _ rfl) (B 154 _ rfl) (B 155 _ rfl)) ml_X1_92 mv_X1_choose hc.k (Nat.le_of_ble_eq_true rfl) (n := 156) rfl (c_X1_choose (cs := oCl W K (nI tl)) (py := oPay W K (nI tl) n) (cn := (fun q k => (oCl W K (nI tl) q k).toNatClampNeg)) (pn := (fun q k => (oPay W K (nI tl) n q k).toNatClampNeg)) hc (k5 _) h10 hX h8 hcl (fun q hq => (opt J oJ q hq).of (fun k hk => by rw [up2_a (by omega)]) (fun k hk => by rw [up2_a (by omega)])) (fun q c h1 h2 => by rw [up2_a (by omega)]; exact bJ q c (by omega) h1 h2) (fun I3 f3 e3 e4 => ?_))
      exact Vw.vret (de_return_ (B 156 _ rfl)) rfl ⟨rfl, (h I3 M (fJ.trans (fun b h1 h2 h3 h4 => funext fun i => by rw [f3 b i (by omega) (by omega), up2_a (by omega)])) fM (by rw [f3 _ _ (by omega) (by omega), up2_s]) e4 e3)⟩
    have z_122 : m < np := by
      rcases Nat.lt_or_ge m np with z | z
      · exact z
      · exact absurd (by rw [show np - m = 0 by omega]; decide) c_122
    rw [show nI (np - m) - 1 = nI (np - (m + 1)) from (nI_sub (a := np - m) (b := 1) (by omega) (by omega)).trans (by congr 1)]
    refine Vw.aload_n (de_aload_0 (B 125 _ rfl)) 0 rfl (n := 126) rfl ?_
    refine Vw.iload (de_iload (B 126 _ rfl) (B 127 _ rfl)) 6 rfl (n := 128) rfl ?_
    refine Vw.iload (de_iload (B 128 _ rfl) (B 129 _ rfl)) 4 rfl (n := 130) rfl ?_
    refine Vw.ivv2 (mi' := mX1_fillBest) (de_invokevirtual (B 130 _ rfl) (B 131 _ rfl) (B 132 _ rfl)) ml_X1_86 mv_X1_fillBest hc.k (Nat.le_of_ble_eq_true rfl) (n := 133) rfl (c_X1_fillBest (cn := (fun q k => (oCl W K (nI tl) q k).toNatClampNeg) (np - (m + 1))) (pn := (fun q k => (oPay W K (nI tl) n q k).toNatClampNeg) (np - (m + 1))) (g := mN (fun q k => (oCl W K (nI tl) q k).toNatClampNeg) (fun q k => (oPay W K (nI tl) n q k).toNatClampNeg) np m) hc (by omega) hcl (opt J oJ _ (by omega)) (fun c hc2 => ⟨by rw [show np - (m + 1) + 1 = np - m by omega]; rw [bJ (np - m) c (by omega) (by omega) hc2, show np - (np - m) = m by omega], hmb m c (by omega)⟩) (fun x y h1 _ => mN_mo h1) sJ (fun I3 n3 f3 e3 s3 => ?_))
    refine Vw.iinc (v := nI (np - (m + 1)) - 1) (lv2 := [(0, _), (1, _), (2, _), (3, _), (4, _), (5, _), (6, _)]) (de_iinc (B 133 _ rfl) (B 134 _ rfl) (B 135 _ rfl)) 6 rfl (inc_m1 _) (by decide) [1, 2, 3, 4, 5, 6, 0] rfl (n := 136) rfl ?_
    refine Vw.goto_ (n := 120) (de_goto_ (B 136 _ rfl) (B 137 _ rfl) (B 138 _ rfl)) rfl ?_
    refine ih z_122 I3 M n3 (fJ.trans (fun b h1 h2 h3 h4 => funext fun i => f3 b i (by omega) (by omega) (by omega) (by omega))) fM (fun x hx => by rw [f3 _ _ (by omega) (by omega) (by omega) (by omega), f3 _ _ (by omega) (by omega) (by omega) (by omega)]; exact oJ x hx) (fun q c h1 h2 h3 => ?_) (s3.of (fun c hc2 => rfl) rfl rfl rfl)
    rcases (show q = np - (m + 1) ∨ np - m ≤ q by omega) with z | z
    · subst z
      rw [e3 c h3, show np - (np - (m + 1)) = m + 1 by omega]
      rfl
    · rw [f3 _ _ (by omega) (by omega) (by omega) (by omega)]; exact bJ q c z h2 h3
  have up : ∀ q, q ≤ np → ∀ J M, FC s I J → Lev (s + 28) L M → (∀ x, x < 16 * q → (J (s + 66) x = oCc W K (nI tl) (x / 16) (x % 16) ∧ J (s + 67) x = oPay W K (nI tl) n (x / 16) (x % 16))) → Vw mX1_planCutting (d + 5) 0 0 0 0 (VvQ Q) 26 [(0, .ref (s + 65)), (1, .int (nI tl)), (2, .int (nI n)), (3, .ref (s + 1)), (4, .int (nI cl)), (5, .int (nI q))] [] S J M := by
    refine loop_up (fun q hq ih => ?_)
    intro J M fJ fM oJ
    have kJ := fJ.tr hK h8 h10
    have wJ := fJ.wc hW hlb
    have inner : q < np → ∀ k, k ≤ 16 → ∀ J M, FC s I J → Lev (s + 28) L M → PW J s (walkP W (nI q) (K 121) (perP K q)) n → (∀ x, x < 16 * q + k → (J (s + 66) x = oCc W K (nI tl) (x / 16) (x % 16) ∧ J (s + 67) x = oPay W K (nI tl) n (x / 16) (x % 16))) → Vw mX1_planCutting (d + 5) 0 0 0 0 (VvQ Q) 48 [(0, .ref (s + 65)), (1, .int (nI tl)), (2, .int (nI n)), (3, .ref (s + 1)), (4, .int (nI cl)), (5, .int (nI q)), (6, .int (nI k))] [] S J M := by
      intro hqn
      refine loop_up (fun k hk ih2 => ?_)
      intro J M fJ fM pJ oJ
      have kJ := fJ.tr hK h8 h10
      have wJ := fJ.wc hW hlb
      refine Vw.iload (de_iload (B 48 _ rfl) (B 49 _ rfl)) 6 rfl (n := 50) rfl ?_
      refine Vw.bipush (v := 16) (de_bipush (B 50 _ rfl) (B 51 _ rfl)) rfl (n := 52) rfl ?_
      refine Vw.icmp_ge (tgt := 71) (n := 55) (de_icmp_ge (B 52 _ rfl) (B 53 _ rfl) (B 54 _ rfl)) rfl rfl (fun c_52 => ?_) (fun c_52 => ?_)
      · have z_52 : 16 ≤ k := ((nI_leI (a := 16) (b := k) (by omega) (by omega)).mp c_52)
        refine Vw.iinc (v := nI (q + 1)) (lv2 := [(0, _), (1, _), (2, _), (3, _), (4, _), (5, _), (6, _)]) (de_iinc (B 71 _ rfl) (B 72 _ rfl) (B 73 _ rfl)) 5 rfl (nI_1 q) (by decide) [1, 2, 3, 4, 5, 0, 6] rfl (n := 74) rfl ?_
        refine Vw.goto_ (n := 26) (de_goto_ (B 74 _ rfl) (B 75 _ rfl) (B 76 _ rfl)) rfl ?_
        refine Vw.lvs (lv2 := [(0, _), (1, _), (2, _), (3, _), (4, _), (5, _)]) [0, 1, 2, 3, 4, 5] rfl ?_
        exact ih hqn J M fJ fM (fun x hx => oJ x (by omega))
      have z_52 : k < 16 := by rcases Nat.lt_or_ge k 16 with z | z; exact z; exact absurd ((nI_leI (a := 16) (b := k) (by omega) (by omega)).mpr z) c_52
      refine Vw.aload_n (de_aload_0 (B 55 _ rfl)) 0 rfl (n := 56) rfl ?_
      refine Vw.iload (de_iload (B 56 _ rfl) (B 57 _ rfl)) 5 rfl (n := 58) rfl ?_
      refine Vw.iload (de_iload (B 58 _ rfl) (B 59 _ rfl)) 6 rfl (n := 60) rfl ?_
      refine Vw.iload_n (de_iload_1 (B 60 _ rfl)) 1 rfl (n := 61) rfl ?_
      refine Vw.iload_n (de_iload_2 (B 61 _ rfl)) 2 rfl (n := 62) rfl ?_
      refine Vw.ivv4 (mi' := mX1_price) (de_invokevirtual (B 62 _ rfl) (B 63 _ rfl) (B 64 _ rfl)) ml_X1_73 mv_X1_price hc.k (Nat.le_of_ble_eq_true rfl) (n := 65) rfl (c_X1_price hc kJ hN wJ hlb hqn z_52 (by omega) pJ (fun I3 M3 f3 m3 e3 e4 => ?_))
      refine Vw.iinc (v := nI (k + 1)) (lv2 := [(0, _), (1, _), (2, _), (3, _), (4, _), (5, _), (6, _)]) (de_iinc (B 65 _ rfl) (B 66 _ rfl) (B 67 _ rfl)) 6 rfl (nI_1 k) (by decide) [1, 2, 3, 4, 5, 6, 0] rfl (n := 68) rfl ?_
      refine Vw.goto_ (n := 48) (de_goto_ (B 68 _ rfl) (B 69 _ rfl) (B 70 _ rfl)) rfl ?_
      refine ih2 z_52 I3 M3 (fJ.trans (fun b h1 h2 h3 h4 => funext fun i => f3 b i h1 h2 (by omega) (by omega) (by omega))) (fM.trans m3) (pJ.of (fun b g1 g2 => funext fun i => f3 b i (by omega) (by omega) (by omega) (by omega) (by omega))) (fun x hx => ?_)
      rcases (show x = 16 * q + k ∨ x < 16 * q + k by omega) with z | z
      · subst z
        rw [show (16 * q + k) / 16 = q by omega, show (16 * q + k) % 16 = k by omega]
        exact ⟨e3, e4⟩
      · rw [f3 _ _ (by omega) (by omega) (by omega) (by omega) (by omega), f3 _ _ (by omega) (by omega) (by omega) (by omega) (by omega)]; exact oJ x z
    refine Vw.iload (de_iload (B 26 _ rfl) (B 27 _ rfl)) 5 rfl (n := 28) rfl ?_
    refine Vw.aload_n (de_aload_3 (B 28 _ rfl)) 3 rfl (n := 29) rfl ?_
    refine Vw.getI (de_getfield (B 29 _ rfl) (B 30 _ rfl) (B 31 _ rfl)) fl_X1_63 rfl hT.k (n := 32) rfl ?_
    rw [kJ.1]
    refine Vw.icmp_ge (tgt := 77) (n := 35) (de_icmp_ge (B 32 _ rfl) (B 33 _ rfl) (B 34 _ rfl)) rfl rfl (fun c_32 => ?_) (fun c_32 => ?_)
    · have z_32 : np ≤ q := ((nI_leI (a := np) (b := q) (by omega) (by omega)).mp c_32)
      obtain rfl : q = np := by omega
      refine Vw.aload_n (de_aload_3 (B 77 _ rfl)) 3 rfl (n := 78) rfl ?_
      refine Vw.getI (de_getfield (B 78 _ rfl) (B 79 _ rfl) (B 80 _ rfl)) fl_X1_63 rfl hT.k (n := 81) rfl ?_
      rw [kJ.1]
      refine Vw.sipush (v := 1000) (de_sipush (B 81 _ rfl) (B 82 _ rfl) (B 83 _ rfl)) rfl (n := 84) rfl ?_
      refine Vw.imul (de_imul (B 84 _ rfl)) (n := 85) rfl ?_
      rw [n1000]
      refine Vw.istore (lv2 := [(0, _), (1, _), (2, _), (3, _), (4, _), (5, _)]) (de_istore (B 85 _ rfl) (B 86 _ rfl)) (by decide) [1, 2, 3, 4, 5, 0] rfl (n := 87) rfl ?_
      refine Vw.aload_n (de_aload_0 (B 87 _ rfl)) 0 rfl (n := 88) rfl ?_
      refine Vw.getR (de_getfield (B 88 _ rfl) (B 89 _ rfl) (B 90 _ rfl)) fl_X1_18 rfl hc.k hc.f5 (n := 91) rfl ?_
      refine Vw.iload (de_iload (B 91 _ rfl) (B 92 _ rfl)) 5 rfl (n := 93) rfl ?_
      refine Vw.iload (de_iload (B 93 _ rfl) (B 94 _ rfl)) 5 rfl (n := 95) rfl ?_
      refine Vw.iload (de_iload (B 95 _ rfl) (B 96 _ rfl)) 4 rfl (n := 97) rfl ?_
      refine Vw.iadd (de_iadd (B 97 _ rfl)) (n := 98) rfl ?_
      rw [← nI_A]
      refine Vw.iconst (v := 1) (de_iconst_1 (B 98 _ rfl)) rfl (n := 99) rfl ?_
      refine Vw.iadd (de_iadd (B 99 _ rfl)) (n := 100) rfl ?_
      rw [nI_1]
      refine Vw.iconst (v := 0) (de_iconst_0 (B 100 _ rfl)) rfl (n := 101) rfl ?_
      refine Vw.isv4 (mi' := mJ7_fill_fda19) (de_invokestatic (B 101 _ rfl) (B 102 _ rfl) (B 103 _ rfl)) ml_X1_77 ms_J7_fill_fda19 (Nat.le_of_ble_eq_true rfl) (n := 104) rfl (c_J7_fill_fda19 hc.r5 (by omega) (by omega) (by decide) (fun I3 f3 e3 o3 => ?_))
      have f3c : FC s I I3 := fJ.trans (fun b h1 h2 h3 h4 => f3 b (by omega))
      refine Vw.aload_n (de_aload_0 (B 104 _ rfl)) 0 rfl (n := 105) rfl ?_
      refine Vw.iload (de_iload (B 105 _ rfl) (B 106 _ rfl)) 5 rfl (n := 107) rfl ?_
      refine Vw.iload (de_iload (B 107 _ rfl) (B 108 _ rfl)) 4 rfl (n := 109) rfl ?_
      refine Vw.ivv2 (mi' := mX1_findSteps) (de_invokevirtual (B 109 _ rfl) (B 110 _ rfl) (B 111 _ rfl)) ml_X1_83 mv_X1_findSteps hc.k (Nat.le_of_ble_eq_true rfl) (n := 112) rfl (c_X1_findSteps (f := fun _ => 0) hc (by omega) hcl (fun c hc2 => ⟨e3 (1000 * q + c) (by omega) (by omega), Nat.zero_le _⟩) (fun I4 n4 f4 e4 s4 => ?_))
      have f4c : FC s I I4 := f3c.trans (fun b h1 h2 h3 h4 => funext fun i => f4 b i (by omega) (by omega) (by omega) (by omega))
      refine Vw.aload_n (de_aload_3 (B 112 _ rfl)) 3 rfl (n := 113) rfl ?_
      refine Vw.getI (de_getfield (B 113 _ rfl) (B 114 _ rfl) (B 115 _ rfl)) fl_X1_63 rfl hT.k (n := 116) rfl ?_
      rw [(f4c.tr hK h8 h10).1]
      refine Vw.iconst (v := 1) (de_iconst_1 (B 116 _ rfl)) rfl (n := 117) rfl ?_
      refine Vw.isub (de_isub (B 117 _ rfl)) (n := 118) rfl ?_
      refine Vw.istore (lv2 := [(0, _), (1, _), (2, _), (3, _), (4, _), (5, _), (6, _)]) (de_istore (B 118 _ rfl) (B 119 _ rfl)) (by decide) [1, 2, 3, 4, 5, 6, 0] rfl (n := 120) rfl ?_
      have rz : ∀ c, rmx (fun _ => 0) c = 0 := fun c => Nat.le_antisymm (rmx_le (fun _ _ => Nat.le_refl _)) (Nat.zero_le _)
      refine down 0 (Nat.zero_le _) I4 M n4 f4c fM (fun x hx => by rw [f4 _ _ (by omega) (by omega) (by omega) (by omega), f4 _ _ (by omega) (by omega) (by omega) (by omega), f3 _ (by omega), f3 _ (by omega)]; exact oJ x hx) (fun y c h1 h2 h3 => ?_) (s4.of (fun c hc2 => rz c) rfl rfl rfl)
      obtain rfl : y = q := by omega
      rw [e4 c h3, rz, Nat.sub_self]
      rfl
    have z_32 : q < np := by rcases Nat.lt_or_ge q np with z | z; exact z; exact absurd ((nI_leI (a := np) (b := q) (by omega) (by omega)).mpr z) c_32
    refine Vw.aload_n (de_aload_0 (B 35 _ rfl)) 0 rfl (n := 36) rfl ?_
    refine Vw.getR (de_getfield (B 36 _ rfl) (B 37 _ rfl) (B 38 _ rfl)) fl_X1_44 rfl hc.k hc.f2 (n := 39) rfl ?_
    refine Vw.iload (de_iload (B 39 _ rfl) (B 40 _ rfl)) 5 rfl (n := 41) rfl ?_
    refine Vw.iload_n (de_iload_2 (B 41 _ rfl)) 2 rfl (n := 42) rfl ?_
    refine Vw.ivv2 (mi' := mX4_walk) (de_invokevirtual (B 42 _ rfl) (B 43 _ rfl) (B 44 _ rfl)) ml_X1_67 mv_X4_walk hc.p2.k (Nat.le_of_ble_eq_true rfl) (n := 45) rfl (c_X4_walk hp kJ hN wJ (by omega) z_32 (by omega) (fun I3 M3 f3 m3 p3 o3 => ?_))
    refine Vw.iconst (v := 0) (de_iconst_0 (B 45 _ rfl)) rfl (n := 46) rfl ?_
    refine Vw.istore (lv2 := [(0, _), (1, _), (2, _), (3, _), (4, _), (5, _), (6, _)]) (de_istore (B 46 _ rfl) (B 47 _ rfl)) (by decide) [1, 2, 3, 4, 5, 6, 0] rfl (n := 48) rfl ?_
    exact inner z_32 0 (Nat.zero_le _) I3 M3 (fJ.trans f3.fc) (fM.trans m3) p3 (fun x hx => by rw [f3 (s + 66) (by omega) (by omega) (by omega), f3 (s + 67) (by omega) (by omega) (by omega)]; exact oJ x (by omega))
  refine Vw.aload_n (de_aload_0 (B 0 _ rfl)) 0 rfl (n := 1) rfl ?_
  refine Vw.getR (de_getfield (B 1 _ rfl) (B 2 _ rfl) (B 3 _ rfl)) fl_X1_36 rfl hc.k hc.f0 (n := 4) rfl ?_
  refine Vw.getR (de_getfield (B 4 _ rfl) (B 5 _ rfl) (B 6 _ rfl)) fl_X1_48 rfl hc.p0.k hc.p0.f0 (n := 7) rfl ?_
  refine Vw.astore_n (lv2 := [(0, _), (1, _), (2, _), (3, _)]) (de_astore_3 (B 7 _ rfl)) rfl (by decide) [1, 2, 3, 0] rfl (n := 8) rfl ?_
  refine Vw.aload_n (de_aload_3 (B 8 _ rfl)) 3 rfl (n := 9) rfl ?_
  refine Vw.getR (de_getfield (B 9 _ rfl) (B 10 _ rfl) (B 11 _ rfl)) fl_X1_54 rfl hc.p0.p0.k hc.p0.p0.f2 (n := 12) rfl ?_
  refine Vw.iload_n (de_iload_1 (B 12 _ rfl)) 1 rfl (n := 13) rfl ?_
  refine Vw.iald (de_iaload (B 13 _ rfl)) hc.p0.p0.r2 (vIx_n (k := tl) rfl (by omega)) (n := 14) rfl ?_
  rw [(hK.2.2.2.2.2 tl ht).1, hcK]
  refine Vw.iconst (v := 0) (de_iconst_0 (B 14 _ rfl)) rfl (n := 15) rfl ?_
  refine Vw.sipush (v := 999) (de_sipush (B 15 _ rfl) (B 16 _ rfl) (B 17 _ rfl)) rfl (n := 18) rfl ?_
  refine Vw.isni3 (mi' := mX11_nearest) (de_invokestatic (B 18 _ rfl) (B 19 _ rfl) (B 20 _ rfl)) (by decide) ms_X11_nearest (Nat.le_of_ble_eq_true rfl) (n := 21) rfl (c_X11_nearest ?_)
  rw [show zWithin (nI cl) 0 999 = nI cl from by unfold zWithin; rw [if_pos (show (0 : Int32) ≤ nI cl from (nI_leI (a := 0) (b := cl) (by omega) (by omega)).mpr (Nat.zero_le _)), if_pos (show nI cl ≤ (999 : Int32) from (nI_leI (a := cl) (b := 999) (by omega) (by omega)).mpr hcl)]]
  refine Vw.istore (lv2 := [(0, _), (1, _), (2, _), (3, _), (4, _)]) (de_istore (B 21 _ rfl) (B 22 _ rfl)) (by decide) [1, 2, 3, 4, 0] rfl (n := 23) rfl ?_
  refine Vw.iconst (v := 0) (de_iconst_0 (B 23 _ rfl)) rfl (n := 24) rfl ?_
  refine Vw.istore (lv2 := [(0, _), (1, _), (2, _), (3, _), (4, _), (5, _)]) (de_istore (B 24 _ rfl) (B 25 _ rfl)) (by decide) [1, 2, 3, 4, 5, 0] rfl (n := 26) rfl ?_
  exact up 0 (Nat.zero_le _) I L FC.rfl Lev.rfl (fun x hx => absurd hx (by omega))
