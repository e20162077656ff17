/-! The reader: whole CLAUSES -/
theorem upK_row {I : vI} {a k : Nat} {v : Int32} {b : Nat} (h : b ≠ a) : up2 I a k v b = I b := up2_row h
theorem k_clauseL {d : Nat} {S : vS} {I : vI} {L : vL} {Q : Int32 → vS → vI → vL → Prop} {s tp nt i l c n : Nat} {u cd vl : Nat → Int32} {f : Int32} {w : Nat → Int32} (hx : RX S I s tp u cd vl nt false) (hi : i ≤ nt) (hl : l ≤ 50) (hci : c ≤ i) (hn : n < 12)
    (h1 : ∀ j l2 cl c2 w2 I2, pOne cd vl false i l = .ok (j, l2, cl) → i < j → j ≤ nt → l2 ≤ 50 → c2 + i ≤ c + j → c ≤ c2 → (∀ x, x < c → w2 x = w x) → OKw w2 c c2 → FrC I I2 s n → CQ false I2 w2 s n cl c c2 → Q 1 S (rm I2 s (nI j) (nI l2) (nI c2) f w2) L)
    (h0 : ∀ e t l2 c2 w2 I2, pOne cd vl false i l = .error e → e ≤ nt → FrC I I2 s n → Q 0 S (rm I2 s t l2 c2 (I (s + 84) e) w2) L) : Vc mX5_readClause (d + 45) 0 0 [.ref (s + 74), .int (nI n)] S (rm I s (nI i) (nI l) (nI c) f w) L (ViQ Q) := by
  refine Vc.of rfl (Nat.le_of_ble_eq_true rfl) ?_
  have B := bs_X5_readClause
  show Vw mX5_readClause (d + 45) 0 0 0 0 (ViQ Q) 0 [(0, .ref (s + 74)), (1, .int (nI n))] [] S (rm I s (nI i) (nI l) (nI c) f w) L
  have h4 := hx.n4
  rcases ls1 (cd i) with ⟨k, k1, e_c, w2, vb1, vb2⟩ | ⟨w2, nv, n5⟩
  rotate_left
  · refine Vw.aload_n (de_aload_0 (B 0 _ rfl)) 0 rfl (n := 1) rfl ?_
    refine Vw.aload_n (de_aload_0 (B 1 _ rfl)) 0 rfl (n := 2) rfl ?_
    refine Vw.getI (de_getfield (B 2 _ rfl) (B 3 _ rfl) (B 4 _ rfl)) fl_X5_40 rfl hx.rd.k (n := 5) rfl ?_
    rw [rm_6, hx.ord]
    refine Vw.if_eq (tgt := 13) (n := 8) (de_if_eq (B 5 _ rfl) (B 6 _ rfl) (B 7 _ rfl)) rfl rfl (fun c_5 => ?_) (fun c_5 => ?_)
    · obtain ⟨z13, hz13⟩ := hx.str 1 (by decide)
      refine Vw.ldcS (i := 1) (de_ldc (B 13 _ rfl) (B 14 _ rfl)) rfl (by decide) hz13.2.1 (n := 15) rfl ?_
      refine Vw.ivi1 (mi' := mX5_listed) (de_invokevirtual (B 15 _ rfl) (B 16 _ rfl) (B 17 _ rfl)) ml_X5_95 mv_X5_listed hx.rd.k (Nat.le_of_ble_eq_true rfl) (n := 18) rfl (k_listed hx hz13 hi ?_)
      rw [w2]
      refine Vw.istore_n (lv2 := [(0, _), (1, _), (2, _)]) (de_istore_2 (B 18 _ rfl)) rfl (by decide) [1, 2, 0] rfl (n := 19) rfl ?_
      refine Vw.iload_n (de_iload_2 (B 19 _ rfl)) 2 rfl (n := 20) rfl ?_
      refine Vw.iconst (v := -1) (de_iconst_m1 (B 20 _ rfl)) rfl (n := 21) rfl ?_
      refine Vw.icmp_ne (tgt := 29) (n := 24) (de_icmp_ne (B 21 _ rfl) (B 22 _ rfl) (B 23 _ rfl)) rfl rfl (fun c_21 => ?_) (fun c_21 => ?_)
      · exact absurd rfl c_21
      refine Vw.aload_n (de_aload_0 (B 24 _ rfl)) 0 rfl (n := 25) rfl ?_
      refine Vw.ivi0 (mi' := mX5_fail) (de_invokevirtual (B 25 _ rfl) (B 26 _ rfl) (B 27 _ rfl)) ml_X5_67 mv_X5_fail hx.rd.k (Nat.le_of_ble_eq_true rfl) (n := 28) rfl (k_fail hx hi ?_)
      exact Vw.zret (de_ireturn (B 28 _ rfl)) rfl rfl ⟨_, rfl, (h0 i _ _ _ _ I (by unfold pOne; rw [if_neg (by decide)]; unfold pClause; rw [if_neg nv, if_neg n5]) hi FrC.rfl)⟩
    exact absurd rfl c_5
  · have i1 : i < nt := by
      rcases Nat.lt_or_ge i nt with z | z
      · exact z
      · rw [show i = nt by omega, hx.c0] at e_c; exact absurd (nI_inj (a := 0) (b := 1 + k) (by decide) (by omega) e_c) (by omega)
    have f98 : ∀ IA : vI, RX S IA s tp u cd vl nt false → FrC I IA s n → IA (s + 76) n = nI k → IA (s + 77) n = 1 → IA (s + 78) n = nI c → ∀ j l2 a c2 w2, ((c < c2 ∧ ¬ cd i = 5 ∧ WC2 (klO false) w2 c c2 a 19) ∨ (c = c2 ∧ cd i = 5 ∧ a = tD1)) → pOne cd vl false i l = pTail cd vl false (cd i) a tD0 1 j l2 → i < j → j ≤ nt → l2 ≤ 50 → c2 + i ≤ c + j → c ≤ c2 → (∀ x, x < c → w2 x = w x) → OKw w2 c c2 → Vw mX5_readClause (d + 45) 0 0 0 0 (ViQ Q) 98 [(0, .ref (s + 74)), (1, .int (nI n)), (2, .int (nI k))] [] S (rm IA s (nI j) (nI l2) (nI c2) f w2) L := by
      intro IA hxA frA A76 A77 A78 j l2 a c2 w2 hfst eP hij hjn hl2 hcc hc2 hw hok
      have hx := hxA
      obtain ⟨b, hb⟩ : ∃ b, b = tD0 := ⟨_, rfl⟩
      rw [← hb] at eP
      obtain ⟨fe, hfe⟩ : ∃ fe, fe = c2 := ⟨_, rfl⟩
      refine Vw.aload_n (de_aload_0 (B 98 _ rfl)) 0 rfl (n := 99) rfl ?_
      refine Vw.getR (de_getfield (B 99 _ rfl) (B 100 _ rfl) (B 101 _ rfl)) fl_X5_14 rfl hx.rd.k hx.rd.f0 (n := 102) rfl ?_
      refine Vw.getR (de_getfield (B 102 _ rfl) (B 103 _ rfl) (B 104 _ rfl)) fl_X5_109 rfl hx.rd.p0.k hx.rd.p0.f4 (n := 105) rfl ?_
      refine Vw.iload_n (de_iload_1 (B 105 _ rfl)) 1 rfl (n := 106) rfl ?_
      refine Vw.aload_n (de_aload_0 (B 106 _ rfl)) 0 rfl (n := 107) rfl ?_
      refine Vw.getI (de_getfield (B 107 _ rfl) (B 108 _ rfl) (B 109 _ rfl)) fl_X5_54 rfl hx.rd.k (n := 110) rfl ?_
      rw [rm_10]
      refine Vw.iast (de_iastore (B 110 _ rfl)) hx.rd.p0.r4 (vIx_n (k := n) rfl (by omega)) (n := 111) rfl ?_
      rw [show s + 74 + 1 + 4 = s + 79 from rfl, up_I (by omega) (by omega)]
      refine Vw.aload_n (de_aload_0 (B 111 _ rfl)) 0 rfl (n := 112) rfl ?_
      refine Vw.getI (de_getfield (B 112 _ rfl) (B 113 _ rfl) (B 114 _ rfl)) fl_X5_40 rfl hx.rd.k (n := 115) rfl ?_
      rw [rm_6, up2_a (show s + 74 ≠ s + 79 by omega), hxA.ord]
      refine Vw.if_eq (tgt := 133) (n := 118) (de_if_eq (B 115 _ rfl) (B 116 _ rfl) (B 117 _ rfl)) rfl rfl (fun c_115 => ?_) (fun c_115 => ?_)
      · refine Vw.aload_n (de_aload_0 (B 133 _ rfl)) 0 rfl (n := 134) rfl ?_
        refine Vw.getR (de_getfield (B 134 _ rfl) (B 135 _ rfl) (B 136 _ rfl)) fl_X5_14 rfl hx.rd.k hx.rd.f0 (n := 137) rfl ?_
        refine Vw.getR (de_getfield (B 137 _ rfl) (B 138 _ rfl) (B 139 _ rfl)) fl_X5_115 rfl hx.rd.p0.k hx.rd.p0.f5 (n := 140) rfl ?_
        refine Vw.iload_n (de_iload_1 (B 140 _ rfl)) 1 rfl (n := 141) rfl ?_
        refine Vw.aload_n (de_aload_0 (B 141 _ rfl)) 0 rfl (n := 142) rfl ?_
        refine Vw.getI (de_getfield (B 142 _ rfl) (B 143 _ rfl) (B 144 _ rfl)) fl_X5_54 rfl hx.rd.k (n := 145) rfl ?_
        rw [rm_10]
        refine Vw.iast (de_iastore (B 145 _ rfl)) hx.rd.p0.r5 (vIx_n (k := n) rfl (by omega)) (n := 146) rfl ?_
        rw [show s + 74 + 1 + 5 = s + 80 from rfl, up_I (by omega) (by omega)]
        obtain ⟨IB, eB⟩ : ∃ x : vI, x = up2 (up2 IA (s + 79) n (nI c2)) (s + 80) n (nI c2) := ⟨_, rfl⟩
        rw [← eB]
        have frB : FrC I IB s n := by rw [eB]; exact (frA.up (by omega) (by omega)).up (by omega) (by omega)
        have B76 : IB (s + 76) n = vbX false (cd i) := by rw [eB, up2_ne (by omega), up2_ne (by omega), A76]; exact vb2.symm
        have B77 : IB (s + 77) n = 1 := by rw [eB, up2_ne (by omega), up2_ne (by omega)]; exact A77
        have B78 : IB (s + 78) n = nI c := by rw [eB, up2_ne (by omega), up2_ne (by omega)]; exact A78
        have B79 : IB (s + 79) n = nI fe := by rw [eB, up2_ne (by omega), up2_s, hfe]
        have B80 : IB (s + 80) n = nI c2 := by rw [eB, up2_s]
        have hxB : RX S IB s tp u cd vl nt false := hxA.fr (n := n) (by rw [eB]; exact (FrC.rfl.up (by omega) (by omega)).up (by omega) (by omega))
        have hq1 : CQ1 false w2 (cd i) a b c fe c2 := by
          rw [hfe]
          refine ⟨hc2, Nat.le_refl _, ?_, Or.inr ⟨rfl, hb, ?_, ?_⟩⟩
          · rcases hfst with ⟨q1, q2, q3⟩ | ⟨q1, q2, q3⟩
            · exact Or.inl ⟨q1, q2, q3.up (by omega)⟩
            · exact Or.inr ⟨q1, q2, q3⟩
          · rw [e_c]; exact fun z => absurd (nI_inj (a := 1 + k) (b := 21) (by omega) (by decide) z) (by omega)
          · rw [e_c]; exact fun z => absurd (nI_inj (a := 1 + k) (b := 23) (by omega) (by decide) z) (by omega)
        refine Vw.aload_n (de_aload_0 (B 146 _ rfl)) 0 rfl (n := 147) rfl ?_
        refine Vw.getI (de_getfield (B 147 _ rfl) (B 148 _ rfl) (B 149 _ rfl)) fl_X5_40 rfl hx.rd.k (n := 150) rfl ?_
        rw [rm_6, hxB.ord]
        refine Vw.if_eq (tgt := 172) (n := 153) (de_if_eq (B 150 _ rfl) (B 151 _ rfl) (B 152 _ rfl)) rfl rfl (fun c_150 => ?_) (fun c_150 => ?_)
        · refine k_tail172 hxB hjn hl2 (by omega) hn (fun q6 => ?_) (fun j2 l3 t c3 w3 q6 eT b1 b2 b3 b4 b5 b6 => ?_) (fun e t3 l3 c3 w3 q6 eT b1 => ?_)
          · refine h1 j l2 (cd i, a, b, 1, none) c2 w2 _ (by rw [eP]; unfold pTail; rw [if_neg q6]) hij hjn hl2 hcc (by omega) hw hok (frB.up (by omega) (by omega)) ⟨fe, c2, ?_, ?_, ?_, ?_, ?_, ?_, hq1, Nat.le_refl _, Or.inl ⟨rfl, rfl⟩⟩
            · rw [up2_ne (by omega)]; exact B78
            · rw [up2_ne (by omega)]; exact B79
            · rw [up2_ne (by omega)]; exact B80
            · exact up2_s _ _ _ _
            · rw [up2_ne (by omega)]; exact B77
            · rw [up2_ne (by omega)]; exact B76
          · have gb := b6.1
            refine h1 j2 l3 (cd i, a, b, 1, some t) c3 w3 _ (by rw [eP]; unfold pTail; rw [if_pos q6, eT]) (by omega) b2 b3 (by omega) (by omega) (fun x hx2 => by rw [b5 x (by omega)]; exact hw x hx2) ((hok.of (fun x _ g => b5 x g)).app b6.2.1) (frB.up (by omega) (by omega)) ⟨fe, c2, ?_, ?_, ?_, ?_, ?_, ?_, hq1.of b5, by omega, Or.inr ⟨gb, t, rfl, b6⟩⟩
            · rw [up2_ne (by omega)]; exact B78
            · rw [up2_ne (by omega)]; exact B79
            · rw [up2_ne (by omega)]; exact B80
            · exact up2_s _ _ _ _
            · rw [up2_ne (by omega)]; exact B77
            · rw [up2_ne (by omega)]; exact B76
          · have g := h0 e t3 l3 c3 w3 _ (by rw [eP]; unfold pTail; rw [if_pos q6, eT]) b1 frB
            rw [frB.row (by omega)]
            exact g
        exact absurd rfl c_150
      exact absurd rfl c_115
    refine Vw.aload_n (de_aload_0 (B 0 _ rfl)) 0 rfl (n := 1) rfl ?_
    refine Vw.aload_n (de_aload_0 (B 1 _ rfl)) 0 rfl (n := 2) rfl ?_
    refine Vw.getI (de_getfield (B 2 _ rfl) (B 3 _ rfl) (B 4 _ rfl)) fl_X5_40 rfl hx.rd.k (n := 5) rfl ?_
    rw [rm_6, hx.ord]
    refine Vw.if_eq (tgt := 13) (n := 8) (de_if_eq (B 5 _ rfl) (B 6 _ rfl) (B 7 _ rfl)) rfl rfl (fun c_5 => ?_) (fun c_5 => ?_)
    · obtain ⟨z13, hz13⟩ := hx.str 1 (by decide)
      refine Vw.ldcS (i := 1) (de_ldc (B 13 _ rfl) (B 14 _ rfl)) rfl (by decide) hz13.2.1 (n := 15) rfl ?_
      refine Vw.ivi1 (mi' := mX5_listed) (de_invokevirtual (B 15 _ rfl) (B 16 _ rfl) (B 17 _ rfl)) ml_X5_95 mv_X5_listed hx.rd.k (Nat.le_of_ble_eq_true rfl) (n := 18) rfl (k_listed hx hz13 hi ?_)
      rw [w2]
      refine Vw.istore_n (lv2 := [(0, _), (1, _), (2, _)]) (de_istore_2 (B 18 _ rfl)) rfl (by decide) [1, 2, 0] rfl (n := 19) rfl ?_
      refine Vw.iload_n (de_iload_2 (B 19 _ rfl)) 2 rfl (n := 20) rfl ?_
      refine Vw.iconst (v := -1) (de_iconst_m1 (B 20 _ rfl)) rfl (n := 21) rfl ?_
      refine Vw.icmp_ne (tgt := 29) (n := 24) (de_icmp_ne (B 21 _ rfl) (B 22 _ rfl) (B 23 _ rfl)) rfl rfl (fun c_21 => ?_) (fun c_21 => ?_)
      · refine Vw.aload_n (de_aload_0 (B 29 _ rfl)) 0 rfl (n := 30) rfl ?_
        refine Vw.dup (de_dup (B 30 _ rfl)) rfl (n := 31) rfl ?_
        refine Vw.getI (de_getfield (B 31 _ rfl) (B 32 _ rfl) (B 33 _ rfl)) fl_X5_48 rfl hx.rd.k (n := 34) rfl ?_
        rw [rm_8]
        refine Vw.iconst (v := 1) (de_iconst_1 (B 34 _ rfl)) rfl (n := 35) rfl ?_
        refine Vw.iadd (de_iadd (B 35 _ rfl)) (n := 36) rfl ?_
        rw [nI_1]
        refine Vw.putI (de_putfield (B 36 _ rfl) (B 37 _ rfl) (B 38 _ rfl)) fl_X5_48 hx.rd.k rfl rfl (n := 39) rfl ?_
        rw [up_8]
        refine Vw.aload_n (de_aload_0 (B 39 _ rfl)) 0 rfl (n := 40) rfl ?_
        refine Vw.getR (de_getfield (B 40 _ rfl) (B 41 _ rfl) (B 42 _ rfl)) fl_X5_14 rfl hx.rd.k hx.rd.f0 (n := 43) rfl ?_
        refine Vw.getR (de_getfield (B 43 _ rfl) (B 44 _ rfl) (B 45 _ rfl)) fl_X5_99 rfl hx.rd.p0.k hx.rd.p0.f1 (n := 46) rfl ?_
        refine Vw.iload_n (de_iload_1 (B 46 _ rfl)) 1 rfl (n := 47) rfl ?_
        refine Vw.iload_n (de_iload_2 (B 47 _ rfl)) 2 rfl (n := 48) rfl ?_
        refine Vw.iast (de_iastore (B 48 _ rfl)) hx.rd.p0.r1 (vIx_n (k := n) rfl (by omega)) (n := 49) rfl ?_
        rw [show s + 74 + 1 + 1 = s + 76 from rfl, up_I (by omega) (by omega)]
        refine Vw.aload_n (de_aload_0 (B 49 _ rfl)) 0 rfl (n := 50) rfl ?_
        refine Vw.getR (de_getfield (B 50 _ rfl) (B 51 _ rfl) (B 52 _ rfl)) fl_X5_14 rfl hx.rd.k hx.rd.f0 (n := 53) rfl ?_
        refine Vw.getR (de_getfield (B 53 _ rfl) (B 54 _ rfl) (B 55 _ rfl)) fl_X5_102 rfl hx.rd.p0.k hx.rd.p0.f2 (n := 56) rfl ?_
        refine Vw.iload_n (de_iload_1 (B 56 _ rfl)) 1 rfl (n := 57) rfl ?_
        refine Vw.iconst (v := 1) (de_iconst_1 (B 57 _ rfl)) rfl (n := 58) rfl ?_
        refine Vw.iast (de_iastore (B 58 _ rfl)) hx.rd.p0.r2 (vIx_n (k := n) rfl (by omega)) (n := 59) rfl ?_
        rw [show s + 74 + 1 + 2 = s + 77 from rfl, up_I (by omega) (by omega)]
        refine Vw.aload_n (de_aload_0 (B 59 _ rfl)) 0 rfl (n := 60) rfl ?_
        refine Vw.getR (de_getfield (B 60 _ rfl) (B 61 _ rfl) (B 62 _ rfl)) fl_X5_14 rfl hx.rd.k hx.rd.f0 (n := 63) rfl ?_
        refine Vw.getR (de_getfield (B 63 _ rfl) (B 64 _ rfl) (B 65 _ rfl)) fl_X5_105 rfl hx.rd.p0.k hx.rd.p0.f3 (n := 66) rfl ?_
        refine Vw.iload_n (de_iload_1 (B 66 _ rfl)) 1 rfl (n := 67) rfl ?_
        refine Vw.aload_n (de_aload_0 (B 67 _ rfl)) 0 rfl (n := 68) rfl ?_
        refine Vw.getI (de_getfield (B 68 _ rfl) (B 69 _ rfl) (B 70 _ rfl)) fl_X5_54 rfl hx.rd.k (n := 71) rfl ?_
        rw [rm_10]
        refine Vw.iast (de_iastore (B 71 _ rfl)) hx.rd.p0.r3 (vIx_n (k := n) rfl (by omega)) (n := 72) rfl ?_
        rw [show s + 74 + 1 + 3 = s + 78 from rfl, up_I (by omega) (by omega)]
        obtain ⟨IA, eA⟩ : ∃ x : vI, x = up2 (up2 (up2 I (s + 76) n (nI k)) (s + 77) n 1) (s + 78) n (nI c) := ⟨_, rfl⟩
        rw [← eA]
        have frA : FrC I IA s n := by rw [eA]; exact ((FrC.rfl.up (by omega) (by omega)).up (by omega) (by omega)).up (by omega) (by omega)
        have A76 : IA (s + 76) n = (nI k) := by rw [eA]; rw [up2_ne (by omega), up2_ne (by omega), up2_s]
        have A77 : IA (s + 77) n = 1 := by rw [eA]; rw [up2_ne (by omega), up2_s]
        have A78 : IA (s + 78) n = nI c := by rw [eA, up2_s]
        have hxA := hx.fr frA
        refine Vw.iload_n (de_iload_2 (B 72 _ rfl)) 2 rfl (n := 73) rfl ?_
        refine Vw.aload_n (de_aload_0 (B 73 _ rfl)) 0 rfl (n := 74) rfl ?_
        refine Vw.getI (de_getfield (B 74 _ rfl) (B 75 _ rfl) (B 76 _ rfl)) fl_X5_40 rfl hx.rd.k (n := 77) rfl ?_
        rw [rm_6, hxA.ord]
        refine Vw.if_eq (tgt := 84) (n := 80) (de_if_eq (B 77 _ rfl) (B 78 _ rfl) (B 79 _ rfl)) rfl rfl (fun c_77 => ?_) (fun c_77 => ?_)
        · refine Vw.iconst (v := 4) (de_iconst_4 (B 84 _ rfl)) rfl (n := 85) rfl ?_
          refine Vw.icmp_eq (tgt := 98) (n := 88) (de_icmp_eq (B 85 _ rfl) (B 86 _ rfl) (B 87 _ rfl)) rfl rfl (fun c_85 => ?_) (fun c_85 => ?_)
          · have k4 : k = 4 := nI_inj (a := k) (b := 4) (by omega) (by decide) c_85
            have c5 : cd i = 5 := by rw [e_c, k4]; rfl
            exact f98 IA hxA frA A76 A77 A78 (i + 1) l tD1 c w (Or.inr ⟨rfl, c5, rfl⟩) (by unfold pOne; rw [if_neg (by decide)]; unfold pClause; rw [if_neg (fun z => absurd (vb1.mp z) (by omega)), if_pos c5, c5]) (by omega) (by omega) hl (by omega) (Nat.le_refl _) (fun _ _ => rfl) OKw.nil
          refine Vw.aload_n (de_aload_0 (B 88 _ rfl)) 0 rfl (n := 89) rfl ?_
          refine Vw.iconst (v := 0) (de_iconst_0 (B 89 _ rfl)) rfl (n := 90) rfl ?_
          refine Vw.ivi1 (mi' := mX5_readSum) (de_invokevirtual (B 90 _ rfl) (B 91 _ rfl) (B 92 _ rfl)) ml_X5_106 mv_X5_readSum hx.rd.k (Nat.le_of_ble_eq_true rfl) (n := 93) rfl (((kr_sumM 8 (by decide)).le (show 3 * 8 + 3 + 5 ≤ 44 by decide)) d S IA L _ s tp u cd vl nt false (i + 1) l c f w hxA (by omega) hl (by omega) (fun j l2 a c2 w2 e2 a1 a2 a3 a4 a5 a6 a7 => ?_) (fun e t2 l2 c2 w2 e2 a1 => ?_))
          · dsimp only at e2
            refine Vw.if_ne (tgt := 98) (n := 96) (de_if_ne (B 93 _ rfl) (B 94 _ rfl) (B 95 _ rfl)) rfl rfl (fun c_93 => ?_) (fun c_93 => ?_)
            · exact f98 IA hxA frA A76 A77 A78 j l2 a c2 w2 (Or.inl ⟨a6.1, fun z => c_85 (by rw [e_c] at z; have := nI_inj (a := 1 + k) (b := 5) (by omega) (by decide) z; rw [show k = 4 by omega]; rfl), a6⟩) (by unfold pOne; rw [if_neg (by decide)]; unfold pClause; rw [if_pos (vb1.mpr (by rcases Nat.lt_or_ge k 4 with z | z; exact z; exact absurd (by rw [show k = 4 by omega]; rfl) c_85)), e2]) (by omega) a2 a3 (by omega) (Nat.le_of_lt a6.1) a5 a6.2.1
            exact absurd c_93 (by decide)
          · dsimp only at e2
            refine Vw.if_ne (tgt := 98) (n := 96) (de_if_ne (B 93 _ rfl) (B 94 _ rfl) (B 95 _ rfl)) rfl rfl (fun c_93 => ?_) (fun c_93 => ?_)
            · exact absurd c_93 (by decide)
            refine Vw.iconst (v := 0) (de_iconst_0 (B 96 _ rfl)) rfl (n := 97) rfl ?_
            exact Vw.zret (de_ireturn (B 97 _ rfl)) rfl rfl ⟨_, rfl, (by have g := h0 e t2 l2 c2 w2 IA (by unfold pOne; rw [if_neg (by decide)]; unfold pClause; rw [if_pos (vb1.mpr (by rcases Nat.lt_or_ge k 4 with z | z; exact z; exact absurd (by rw [show k = 4 by omega]; rfl) c_85)), e2]) a1 frA; rw [frA.row (by omega)]; exact g)⟩
        exact absurd rfl c_77
      exact absurd c_21 (nI_m1 (by omega))
    exact absurd rfl c_5
theorem k_clauseO {d : Nat} {S : vS} {I : vI} {L : vL} {Q : Int32 → vS → vI → vL → Prop} {s tp nt i l c n : Nat} {u cd vl : Nat → Int32} {f : Int32} {w : Nat → Int32} (hx : RX S I s tp u cd vl nt true) (hi : i ≤ nt) (hl : l ≤ 50) (hci : c ≤ i) (hn : n < 12)
    (h1 : ∀ j l2 cl c2 w2 I2, pOne cd vl true i l = .ok (j, l2, cl) → i < j → j ≤ nt → l2 ≤ 50 → c2 + i ≤ c + j → c ≤ c2 → (∀ x, x < c → w2 x = w x) → OKw w2 c c2 → FrC I I2 s n → CQ true I2 w2 s n cl c c2 → Q 1 S (rm I2 s (nI j) (nI l2) (nI c2) f w2) L)
    (h0 : ∀ e t l2 c2 w2 I2, pOne cd vl true i l = .error e → e ≤ nt → FrC I I2 s n → Q 0 S (rm I2 s t l2 c2 (I (s + 84) e) w2) L) : Vc mX5_readClause (d + 45) 0 0 [.ref (s + 74), .int (nI n)] S (rm I s (nI i) (nI l) (nI c) f w) L (ViQ Q) := by
  refine Vc.of rfl (Nat.le_of_ble_eq_true rfl) ?_
  have B := bs_X5_readClause
  show Vw mX5_readClause (d + 45) 0 0 0 0 (ViQ Q) 0 [(0, .ref (s + 74)), (1, .int (nI n))] [] S (rm I s (nI i) (nI l) (nI c) f w) L
  have h4 := hx.n4
  have f172 : ∀ (vb : Int32) (IB : vI), RX S IB s tp u cd vl nt true → FrC I IB s n → ∀ fe c2 a b j l2 w2 tm, IB (s + 76) n = vbX true (cd i) → IB (s + 77) n = tm → IB (s + 78) n = nI c → IB (s + 79) n = nI fe → IB (s + 80) n = nI c2 → CQ1 true w2 (cd i) a b c fe c2 → pOne cd vl true i l = pTail cd vl true (cd i) a b tm j l2 → i < j → j ≤ nt → l2 ≤ 50 → c2 + i ≤ c + j → (∀ x, x < c → w2 x = w x) → OKw w2 c c2 → Vw mX5_readClause (d + 45) 0 0 0 0 (ViQ Q) 172 [(0, .ref (s + 74)), (1, .int (nI n)), (2, .int vb)] [] S (rm IB s (nI j) (nI l2) (nI c2) f w2) L := by
    intro vb IB hxB frB fe c2 a b j l2 w2 tm B76 B77 B78 B79 B80 hq1 eP hij hjn hl2 hcc hw hok
    have q12 := hq1.1
    have q13 := hq1.2.1
    refine k_tail172 hxB hjn hl2 (by omega) hn (fun q6 => ?_) (fun j2 l3 t c3 w3 q6 eT b1 b2 b3 b4 b5 b6 => ?_) (fun e t3 l3 c3 w3 q6 eT b1 => ?_)
    · refine h1 j l2 (cd i, a, b, tm, none) c2 w2 _ (by rw [eP]; unfold pTail; rw [if_neg q6]) hij hjn hl2 hcc (by omega) hw hok (frB.up (by omega) (by omega)) ⟨fe, c2, ?_, ?_, ?_, ?_, ?_, ?_, hq1, Nat.le_refl _, Or.inl ⟨rfl, rfl⟩⟩
      · rw [up2_ne (by omega)]; exact B78
      · rw [up2_ne (by omega)]; exact B79
      · rw [up2_ne (by omega)]; exact B80
      · exact up2_s _ _ _ _
      · rw [up2_ne (by omega)]; exact B77
      · rw [up2_ne (by omega)]; exact B76
    · have gb := b6.1
      refine h1 j2 l3 (cd i, a, b, tm, some t) c3 w3 _ (by rw [eP]; unfold pTail; rw [if_pos q6, eT]) (by omega) b2 b3 (by omega) (by omega) (fun x hx2 => by rw [b5 x (by omega)]; exact hw x hx2) ((hok.of (fun x _ g => b5 x g)).app b6.2.1) (frB.up (by omega) (by omega)) ⟨fe, c2, ?_, ?_, ?_, ?_, ?_, ?_, hq1.of b5, by omega, Or.inr ⟨gb, t, rfl, b6⟩⟩
      · rw [up2_ne (by omega)]; exact B78
      · rw [up2_ne (by omega)]; exact B79
      · rw [up2_ne (by omega)]; exact B80
      · exact up2_s _ _ _ _
      · rw [up2_ne (by omega)]; exact B77
      · rw [up2_ne (by omega)]; exact B76
    · have g := h0 e t3 l3 c3 w3 _ (by rw [eP]; unfold pTail; rw [if_pos q6, eT]) b1 frB
      rw [frB.row (by omega)]
      exact g
  have f146 : ∀ (vb : Int32) (IB : vI), RX S IB s tp u cd vl nt true → FrC I IB s n → ∀ fe se a b j l2 w2, IB (s + 76) n = vbX true (cd i) → IB (s + 77) n = 1 → IB (s + 78) n = nI c → IB (s + 79) n = nI fe → IB (s + 80) n = nI se → CQ1 true w2 (cd i) a b c fe se → pOne cd vl true i l = pTimes cd vl true (cd i) a b j l2 → i < j → j ≤ nt → l2 ≤ 50 → se + i ≤ c + j → (∀ x, x < c → w2 x = w x) → OKw w2 c se → Vw mX5_readClause (d + 45) 0 0 0 0 (ViQ Q) 146 [(0, .ref (s + 74)), (1, .int (nI n)), (2, .int vb)] [] S (rm IB s (nI j) (nI l2) (nI se) f w2) L := by
    intro vb IB hxB frB fe c2 a b j l2 w2 B76 B77 B78 B79 B80 hq1 eP0 hij hjn hl2 hcc hw hok
    have hx := hxB
    have q12 := hq1.1
    have q13 := hq1.2.1
    refine Vw.aload_n (de_aload_0 (B 146 _ rfl)) 0 rfl (n := 147) rfl ?_
    refine Vw.getI (de_getfield (B 147 _ rfl) (B 148 _ rfl) (B 149 _ rfl)) fl_X5_40 rfl hx.rd.k (n := 150) rfl ?_
    rw [rm_6, hxB.ord]
    refine Vw.if_eq (tgt := 172) (n := 153) (de_if_eq (B 150 _ rfl) (B 151 _ rfl) (B 152 _ rfl)) rfl rfl (fun c_150 => ?_) (fun c_150 => ?_)
    · exact absurd c_150 (by decide)
    refine Vw.aload_n (de_aload_0 (B 153 _ rfl)) 0 rfl (n := 154) rfl ?_
    obtain ⟨z154, hz154⟩ := hx.str 6 (by decide)
    refine Vw.ldcS (i := 6) (de_ldc (B 154 _ rfl) (B 155 _ rfl)) rfl (by decide) hz154.2.1 (n := 156) rfl ?_
    refine Vw.ivi1 (mi' := mX5_isWord) (de_invokevirtual (B 156 _ rfl) (B 157 _ rfl) (B 158 _ rfl)) ml_X5_119 mv_X5_isWord hx.rd.k (Nat.le_of_ble_eq_true rfl) (n := 159) rfl (k_isWord (i := j) hxB hz154 (by decide) hjn (fun c156 => ?_) (fun c156 => ?_))
    · have c27 : cd j = 27 := c156
      have j1 : j < nt := by
        rcases Nat.lt_or_ge j nt with z | z
        · exact z
        · rw [show j = nt by omega, hx.c0] at c27; exact absurd c27 (by decide)
      refine Vw.if_eq (tgt := 172) (n := 162) (de_if_eq (B 159 _ rfl) (B 160 _ rfl) (B 161 _ rfl)) rfl rfl (fun c_159 => ?_) (fun c_159 => ?_)
      · exact absurd c_159 (by decide)
      refine Vw.aload_n (de_aload_0 (B 162 _ rfl)) 0 rfl (n := 163) rfl ?_
      refine Vw.iload_n (de_iload_1 (B 163 _ rfl)) 1 rfl (n := 164) rfl ?_
      refine Vw.ivi1 (mi' := mX5_readTimes) (de_invokevirtual (B 164 _ rfl) (B 165 _ rfl) (B 166 _ rfl)) ml_X5_123 mv_X5_readTimes hx.rd.k (Nat.le_of_ble_eq_true rfl) (n := 167) rfl (k_readTimes (i := j) (n := n) hxB j1 hn (fun p1 p2 p3 => ?_) (fun p0 => ?_))
      · refine Vw.if_ne (tgt := 172) (n := 170) (de_if_ne (B 167 _ rfl) (B 168 _ rfl) (B 169 _ rfl)) rfl rfl (fun c_167 => ?_) (fun c_167 => ?_)
        · have eP : pOne cd vl true i l = pTail cd vl true (cd i) a b (vl (j + 1)) (j + 2) l2 := by rw [eP0]; unfold pTimes; rw [if_pos c27, if_pos ⟨p1, p2⟩]
          obtain ⟨IC, eIC⟩ : ∃ x : vI, x = up2 IB (s + 77) n (vl (j + 1)) := ⟨_, rfl⟩
          rw [← eIC]
          have frC : FrC I IC s n := by rw [eIC]; exact frB.up (by omega) (by omega)
          have C76 : IC (s + 76) n = vbX true (cd i) := by rw [eIC, up2_ne (by omega)]; exact B76
          have C77 : IC (s + 77) n = vl (j + 1) := by rw [eIC, up2_s]
          have C78 : IC (s + 78) n = nI c := by rw [eIC, up2_ne (by omega)]; exact B78
          have C79 : IC (s + 79) n = nI fe := by rw [eIC, up2_ne (by omega)]; exact B79
          have C80 : IC (s + 80) n = nI c2 := by rw [eIC, up2_ne (by omega)]; exact B80
          have hxC : RX S IC s tp u cd vl nt true := hxB.fr (n := n) (by rw [eIC]; exact FrC.rfl.up (by omega) (by omega))
          exact f172 vb IC hxC frC fe c2 a b (j + 2) l2 w2 _ C76 C77 C78 C79 C80 hq1 eP (by omega) (by omega) hl2 (by omega) hw hok
        exact absurd c_167 (by decide)
      · refine Vw.if_ne (tgt := 172) (n := 170) (de_if_ne (B 167 _ rfl) (B 168 _ rfl) (B 169 _ rfl)) rfl rfl (fun c_167 => ?_) (fun c_167 => ?_)
        · exact absurd c_167 (by decide)
        refine Vw.iconst (v := 0) (de_iconst_0 (B 170 _ rfl)) rfl (n := 171) rfl ?_
        exact Vw.zret (de_ireturn (B 171 _ rfl)) rfl rfl ⟨_, rfl, (by have g := h0 (j + 1) (nI (j + 1)) (nI l2) (nI c2) w2 IB (by rw [eP0]; unfold pTimes; rw [if_pos c27, if_neg p0]) (by omega) frB; rw [frB.row (by omega)]; exact g)⟩
    · refine Vw.if_eq (tgt := 172) (n := 162) (de_if_eq (B 159 _ rfl) (B 160 _ rfl) (B 161 _ rfl)) rfl rfl (fun c_159 => ?_) (fun c_159 => ?_)
      · have n27 : ¬ cd j = 27 := c156
        have eP : pOne cd vl true i l = pTail cd vl true (cd i) a b 1 j l2 := by rw [eP0]; unfold pTimes; rw [if_neg n27]
        exact f172 vb IB hxB frB fe c2 a b j l2 w2 _ B76 B77 B78 B79 B80 hq1 eP hij hjn hl2 hcc hw hok
      exact absurd c_159 (by decide)
  have f133 : ∀ (vb : Int32) (IB : vI), RX S IB s tp u cd vl nt true → FrC I IB s n → ∀ fe se a b j l2 w2, IB (s + 76) n = vbX true (cd i) → IB (s + 77) n = 1 → IB (s + 78) n = nI c → IB (s + 79) n = nI fe → CQ1 true w2 (cd i) a b c fe se → pOne cd vl true i l = pTimes cd vl true (cd i) a b j l2 → i < j → j ≤ nt → l2 ≤ 50 → se + i ≤ c + j → (∀ x, x < c → w2 x = w x) → OKw w2 c se → Vw mX5_readClause (d + 45) 0 0 0 0 (ViQ Q) 133 [(0, .ref (s + 74)), (1, .int (nI n)), (2, .int vb)] [] S (rm IB s (nI j) (nI l2) (nI se) f w2) L := by
    intro vb IB hxB frB fe se a b j l2 w2 B76 B77 B78 B79 hq1 eP hij hjn hl2 hcc hw hok
    have hx := hxB
    refine Vw.aload_n (de_aload_0 (B 133 _ rfl)) 0 rfl (n := 134) rfl ?_
    refine Vw.getR (de_getfield (B 134 _ rfl) (B 135 _ rfl) (B 136 _ rfl)) fl_X5_14 rfl hx.rd.k hx.rd.f0 (n := 137) rfl ?_
    refine Vw.getR (de_getfield (B 137 _ rfl) (B 138 _ rfl) (B 139 _ rfl)) fl_X5_115 rfl hx.rd.p0.k hx.rd.p0.f5 (n := 140) rfl ?_
    refine Vw.iload_n (de_iload_1 (B 140 _ rfl)) 1 rfl (n := 141) rfl ?_
    refine Vw.aload_n (de_aload_0 (B 141 _ rfl)) 0 rfl (n := 142) rfl ?_
    refine Vw.getI (de_getfield (B 142 _ rfl) (B 143 _ rfl) (B 144 _ rfl)) fl_X5_54 rfl hx.rd.k (n := 145) rfl ?_
    rw [rm_10]
    refine Vw.iast (de_iastore (B 145 _ rfl)) hx.rd.p0.r5 (vIx_n (k := n) rfl (by omega)) (n := 146) rfl ?_
    rw [show s + 74 + 1 + 5 = s + 80 from rfl, up_I (by omega) (by omega)]
    refine f146 vb _ (hxB.fr (n := n) (FrC.rfl.up (by omega) (by omega))) (frB.up (by omega) (by omega)) fe se a b j l2 w2 ?_ ?_ ?_ ?_ (up2_s _ _ _ _) hq1 eP hij hjn hl2 hcc hw hok
    · rw [up2_ne (by omega)]; exact B76
    · rw [up2_ne (by omega)]; exact B77
    · rw [up2_ne (by omega)]; exact B78
    · rw [up2_ne (by omega)]; exact B79
  rcases ls0 (cd i) with ⟨e_c, w2⟩ | ⟨e_c, w2⟩ | ⟨e_c, w2⟩ | ⟨e_c, w2⟩ | ⟨e_c, w2⟩ | ⟨w2, v1, v2, v3, v4, v5⟩
  · have i1 : i < nt := by
      rcases Nat.lt_or_ge i nt with z | z
      · exact z
      · rw [show i = nt by omega, hx.c0] at e_c; exact absurd e_c (by decide)
    refine Vw.aload_n (de_aload_0 (B 0 _ rfl)) 0 rfl (n := 1) rfl ?_
    refine Vw.aload_n (de_aload_0 (B 1 _ rfl)) 0 rfl (n := 2) rfl ?_
    refine Vw.getI (de_getfield (B 2 _ rfl) (B 3 _ rfl) (B 4 _ rfl)) fl_X5_40 rfl hx.rd.k (n := 5) rfl ?_
    rw [rm_6, hx.ord]
    refine Vw.if_eq (tgt := 13) (n := 8) (de_if_eq (B 5 _ rfl) (B 6 _ rfl) (B 7 _ rfl)) rfl rfl (fun c_5 => ?_) (fun c_5 => ?_)
    · exact absurd c_5 (by decide)
    obtain ⟨z8, hz8⟩ := hx.str 0 (by decide)
    refine Vw.ldcS (i := 0) (de_ldc (B 8 _ rfl) (B 9 _ rfl)) rfl (by decide) hz8.2.1 (n := 10) rfl ?_
    refine Vw.goto_ (n := 15) (de_goto_ (B 10 _ rfl) (B 11 _ rfl) (B 12 _ rfl)) rfl ?_
    refine Vw.ivi1 (mi' := mX5_listed) (de_invokevirtual (B 15 _ rfl) (B 16 _ rfl) (B 17 _ rfl)) ml_X5_95 mv_X5_listed hx.rd.k (Nat.le_of_ble_eq_true rfl) (n := 18) rfl (k_listed hx hz8 hi ?_)
    rw [w2]
    refine Vw.istore_n (lv2 := [(0, _), (1, _), (2, _)]) (de_istore_2 (B 18 _ rfl)) rfl (by decide) [1, 2, 0] rfl (n := 19) rfl ?_
    refine Vw.iload_n (de_iload_2 (B 19 _ rfl)) 2 rfl (n := 20) rfl ?_
    refine Vw.iconst (v := -1) (de_iconst_m1 (B 20 _ rfl)) rfl (n := 21) rfl ?_
    refine Vw.icmp_ne (tgt := 29) (n := 24) (de_icmp_ne (B 21 _ rfl) (B 22 _ rfl) (B 23 _ rfl)) rfl rfl (fun c_21 => ?_) (fun c_21 => ?_)
    · refine Vw.aload_n (de_aload_0 (B 29 _ rfl)) 0 rfl (n := 30) rfl ?_
      refine Vw.dup (de_dup (B 30 _ rfl)) rfl (n := 31) rfl ?_
      refine Vw.getI (de_getfield (B 31 _ rfl) (B 32 _ rfl) (B 33 _ rfl)) fl_X5_48 rfl hx.rd.k (n := 34) rfl ?_
      rw [rm_8]
      refine Vw.iconst (v := 1) (de_iconst_1 (B 34 _ rfl)) rfl (n := 35) rfl ?_
      refine Vw.iadd (de_iadd (B 35 _ rfl)) (n := 36) rfl ?_
      rw [nI_1]
      refine Vw.putI (de_putfield (B 36 _ rfl) (B 37 _ rfl) (B 38 _ rfl)) fl_X5_48 hx.rd.k rfl rfl (n := 39) rfl ?_
      rw [up_8]
      refine Vw.aload_n (de_aload_0 (B 39 _ rfl)) 0 rfl (n := 40) rfl ?_
      refine Vw.getR (de_getfield (B 40 _ rfl) (B 41 _ rfl) (B 42 _ rfl)) fl_X5_14 rfl hx.rd.k hx.rd.f0 (n := 43) rfl ?_
      refine Vw.getR (de_getfield (B 43 _ rfl) (B 44 _ rfl) (B 45 _ rfl)) fl_X5_99 rfl hx.rd.p0.k hx.rd.p0.f1 (n := 46) rfl ?_
      refine Vw.iload_n (de_iload_1 (B 46 _ rfl)) 1 rfl (n := 47) rfl ?_
      refine Vw.iload_n (de_iload_2 (B 47 _ rfl)) 2 rfl (n := 48) rfl ?_
      refine Vw.iast (de_iastore (B 48 _ rfl)) hx.rd.p0.r1 (vIx_n (k := n) rfl (by omega)) (n := 49) rfl ?_
      rw [show s + 74 + 1 + 1 = s + 76 from rfl, up_I (by omega) (by omega)]
      refine Vw.aload_n (de_aload_0 (B 49 _ rfl)) 0 rfl (n := 50) rfl ?_
      refine Vw.getR (de_getfield (B 50 _ rfl) (B 51 _ rfl) (B 52 _ rfl)) fl_X5_14 rfl hx.rd.k hx.rd.f0 (n := 53) rfl ?_
      refine Vw.getR (de_getfield (B 53 _ rfl) (B 54 _ rfl) (B 55 _ rfl)) fl_X5_102 rfl hx.rd.p0.k hx.rd.p0.f2 (n := 56) rfl ?_
      refine Vw.iload_n (de_iload_1 (B 56 _ rfl)) 1 rfl (n := 57) rfl ?_
      refine Vw.iconst (v := 1) (de_iconst_1 (B 57 _ rfl)) rfl (n := 58) rfl ?_
      refine Vw.iast (de_iastore (B 58 _ rfl)) hx.rd.p0.r2 (vIx_n (k := n) rfl (by omega)) (n := 59) rfl ?_
      rw [show s + 74 + 1 + 2 = s + 77 from rfl, up_I (by omega) (by omega)]
      refine Vw.aload_n (de_aload_0 (B 59 _ rfl)) 0 rfl (n := 60) rfl ?_
      refine Vw.getR (de_getfield (B 60 _ rfl) (B 61 _ rfl) (B 62 _ rfl)) fl_X5_14 rfl hx.rd.k hx.rd.f0 (n := 63) rfl ?_
      refine Vw.getR (de_getfield (B 63 _ rfl) (B 64 _ rfl) (B 65 _ rfl)) fl_X5_105 rfl hx.rd.p0.k hx.rd.p0.f3 (n := 66) rfl ?_
      refine Vw.iload_n (de_iload_1 (B 66 _ rfl)) 1 rfl (n := 67) rfl ?_
      refine Vw.aload_n (de_aload_0 (B 67 _ rfl)) 0 rfl (n := 68) rfl ?_
      refine Vw.getI (de_getfield (B 68 _ rfl) (B 69 _ rfl) (B 70 _ rfl)) fl_X5_54 rfl hx.rd.k (n := 71) rfl ?_
      rw [rm_10]
      refine Vw.iast (de_iastore (B 71 _ rfl)) hx.rd.p0.r3 (vIx_n (k := n) rfl (by omega)) (n := 72) rfl ?_
      rw [show s + 74 + 1 + 3 = s + 78 from rfl, up_I (by omega) (by omega)]
      obtain ⟨IA, eA⟩ : ∃ x : vI, x = up2 (up2 (up2 I (s + 76) n 0) (s + 77) n 1) (s + 78) n (nI c) := ⟨_, rfl⟩
      rw [← eA]
      have frA : FrC I IA s n := by rw [eA]; exact ((FrC.rfl.up (by omega) (by omega)).up (by omega) (by omega)).up (by omega) (by omega)
      have A76 : IA (s + 76) n = 0 := by rw [eA]; rw [up2_ne (by omega), up2_ne (by omega), up2_s]
      have A77 : IA (s + 77) n = 1 := by rw [eA]; rw [up2_ne (by omega), up2_s]
      have A78 : IA (s + 78) n = nI c := by rw [eA, up2_s]
      have hxA := hx.fr frA
      have A76b : IA (s + 76) n = vbX true (cd i) := by rw [A76, e_c]; decide
      refine Vw.iload_n (de_iload_2 (B 72 _ rfl)) 2 rfl (n := 73) rfl ?_
      refine Vw.aload_n (de_aload_0 (B 73 _ rfl)) 0 rfl (n := 74) rfl ?_
      refine Vw.getI (de_getfield (B 74 _ rfl) (B 75 _ rfl) (B 76 _ rfl)) fl_X5_40 rfl hx.rd.k (n := 77) rfl ?_
      rw [rm_6, hxA.ord]
      refine Vw.if_eq (tgt := 84) (n := 80) (de_if_eq (B 77 _ rfl) (B 78 _ rfl) (B 79 _ rfl)) rfl rfl (fun c_77 => ?_) (fun c_77 => ?_)
      · exact absurd c_77 (by decide)
      refine Vw.iconst (v := 4) (de_iconst_4 (B 80 _ rfl)) rfl (n := 81) rfl ?_
      refine Vw.goto_ (n := 85) (de_goto_ (B 81 _ rfl) (B 82 _ rfl) (B 83 _ rfl)) rfl ?_
      refine Vw.icmp_eq (tgt := 98) (n := 88) (de_icmp_eq (B 85 _ rfl) (B 86 _ rfl) (B 87 _ rfl)) rfl rfl (fun c_85 => ?_) (fun c_85 => ?_)
      · exact absurd c_85 (by decide)
      refine Vw.aload_n (de_aload_0 (B 88 _ rfl)) 0 rfl (n := 89) rfl ?_
      refine Vw.iconst (v := 0) (de_iconst_0 (B 89 _ rfl)) rfl (n := 90) rfl ?_
      refine Vw.ivi1 (mi' := mX5_readSum) (de_invokevirtual (B 90 _ rfl) (B 91 _ rfl) (B 92 _ rfl)) ml_X5_106 mv_X5_readSum hx.rd.k (Nat.le_of_ble_eq_true rfl) (n := 93) rfl (((kr_sumM 8 (by decide)).le (show 3 * 8 + 3 + 5 ≤ 44 by decide)) d S IA L _ s tp u cd vl nt true (i + 1) l c f w hxA (by omega) hl (by omega) (fun j l2 a c2 w2 e2 a1 a2 a3 a4 a5 a6 a7 => ?_) (fun e t2 l2 c2 w2 e2 a1 => ?_))
      · dsimp only at e2
        refine Vw.if_ne (tgt := 98) (n := 96) (de_if_ne (B 93 _ rfl) (B 94 _ rfl) (B 95 _ rfl)) rfl rfl (fun c_93 => ?_) (fun c_93 => ?_)
        · refine Vw.aload_n (de_aload_0 (B 98 _ rfl)) 0 rfl (n := 99) rfl ?_
          refine Vw.getR (de_getfield (B 99 _ rfl) (B 100 _ rfl) (B 101 _ rfl)) fl_X5_14 rfl hx.rd.k hx.rd.f0 (n := 102) rfl ?_
          refine Vw.getR (de_getfield (B 102 _ rfl) (B 103 _ rfl) (B 104 _ rfl)) fl_X5_109 rfl hx.rd.p0.k hx.rd.p0.f4 (n := 105) rfl ?_
          refine Vw.iload_n (de_iload_1 (B 105 _ rfl)) 1 rfl (n := 106) rfl ?_
          refine Vw.aload_n (de_aload_0 (B 106 _ rfl)) 0 rfl (n := 107) rfl ?_
          refine Vw.getI (de_getfield (B 107 _ rfl) (B 108 _ rfl) (B 109 _ rfl)) fl_X5_54 rfl hx.rd.k (n := 110) rfl ?_
          rw [rm_10]
          refine Vw.iast (de_iastore (B 110 _ rfl)) hx.rd.p0.r4 (vIx_n (k := n) rfl (by omega)) (n := 111) rfl ?_
          rw [show s + 74 + 1 + 4 = s + 79 from rfl, up_I (by omega) (by omega)]
          have hxF : RX S (up2 IA (s + 79) n (nI c2)) s tp u cd vl nt true := hxA.fr (n := n) (FrC.rfl.up (by omega) (by omega))
          have frF : FrC I (up2 IA (s + 79) n (nI c2)) s n := frA.up (by omega) (by omega)
          refine Vw.aload_n (de_aload_0 (B 111 _ rfl)) 0 rfl (n := 112) rfl ?_
          refine Vw.getI (de_getfield (B 112 _ rfl) (B 113 _ rfl) (B 114 _ rfl)) fl_X5_40 rfl hx.rd.k (n := 115) rfl ?_
          rw [rm_6, up2_a (show s + 74 ≠ s + 79 by omega), hxA.ord]
          refine Vw.if_eq (tgt := 133) (n := 118) (de_if_eq (B 115 _ rfl) (B 116 _ rfl) (B 117 _ rfl)) rfl rfl (fun c_115 => ?_) (fun c_115 => ?_)
          · exact absurd c_115 (by decide)
          refine Vw.iload_n (de_iload_2 (B 118 _ rfl)) 2 rfl (n := 119) rfl ?_
          refine Vw.iconst (v := 1) (de_iconst_1 (B 119 _ rfl)) rfl (n := 120) rfl ?_
          refine Vw.icmp_gt (tgt := 133) (n := 123) (de_icmp_gt (B 120 _ rfl) (B 121 _ rfl) (B 122 _ rfl)) rfl rfl (fun c_120 => ?_) (fun c_120 => ?_)
          · exact absurd c_120 (by decide)
          refine Vw.aload_n (de_aload_0 (B 123 _ rfl)) 0 rfl (n := 124) rfl ?_
          refine Vw.iload_n (de_iload_2 (B 124 _ rfl)) 2 rfl (n := 125) rfl ?_
          refine Vw.ivi1 (mi' := mX5_readSecond) (de_invokevirtual (B 125 _ rfl) (B 126 _ rfl) (B 127 _ rfl)) ml_X5_112 mv_X5_readSecond hx.rd.k (Nat.le_of_ble_eq_true rfl) (n := 128) rfl (((kr_second0).le (show 33 ≤ 44 by decide)) d S _ L _ s tp u cd vl nt true j l2 c2 f w2 hxF a2 a3 (by omega) (fun j3 l3 b c3 w3 e3 b1 b2 b3 b4 b5 b6 b7 => ?_) (fun e t3 l3 c3 w3 e3 b1 => ?_))
          · refine Vw.if_ne (tgt := 133) (n := 131) (de_if_ne (B 128 _ rfl) (B 129 _ rfl) (B 130 _ rfl)) rfl rfl (fun c_128 => ?_) (fun c_128 => ?_)
            · have g6 := a6.1
              have h6 := b6.1
              have e4 : cd j = 22 := Classical.byContradiction (fun z => by dsimp only at e3; rw [if_neg z] at e3; cases e3)
              have e5 : pSum cd vl true 8 (j + 1) l2 = .ok (j3, l3, b) := by dsimp only at e3; rw [if_pos e4] at e3; exact e3
              refine f133 _ _ hxF frF c2 c3 a b j3 l3 w3 ?_ ?_ ?_ (up2_s _ _ _ _) ⟨by omega, by omega, Or.inl ⟨g6, by rw [e_c]; decide, (a6.up (by decide)).of (fun x _ g => b5 x g)⟩, Or.inl ⟨h6, b6.up (by decide)⟩⟩ (by unfold pOne; rw [if_pos rfl]; unfold pOrder pHead; rw [if_pos e_c]; unfold pTwo; rw [e2]; dsimp only; rw [if_pos e4, e5]) (by omega) b2 b3 (by omega) (fun x hx2 => by rw [b5 x (by omega)]; exact a5 x hx2) (OKw.app (b := c2) (OKw.of (w := w2) a6.2.1 (fun x _ g => b5 x g)) b6.2.1)
              · rw [up2_ne (by omega)]; exact A76b
              · rw [up2_ne (by omega)]; exact A77
              · rw [up2_ne (by omega)]; exact A78
            exact absurd c_128 (by decide)
          · refine Vw.if_ne (tgt := 133) (n := 131) (de_if_ne (B 128 _ rfl) (B 129 _ rfl) (B 130 _ rfl)) rfl rfl (fun c_128 => ?_) (fun c_128 => ?_)
            · exact absurd c_128 (by decide)
            refine Vw.iconst (v := 0) (de_iconst_0 (B 131 _ rfl)) rfl (n := 132) rfl ?_
            exact Vw.zret (de_ireturn (B 132 _ rfl)) rfl rfl ⟨_, rfl, (by
      have e4 : pOne cd vl true i l = .error e := by
        unfold pOne; rw [if_pos rfl]; unfold pOrder pHead; rw [if_pos e_c]; unfold pTwo; rw [e2]; dsimp only at e3 ⊢
        by_cases z : cd j = 22
        · rw [if_pos z] at e3 ⊢; rw [e3]
        · rw [if_neg z] at e3 ⊢; cases e3; rfl
      have g := h0 e t3 l3 c3 w3 _ e4 b1 frF
      rw [frF.row (by omega)]; exact g)⟩
        exact absurd c_93 (by decide)
      · dsimp only at e2
        refine Vw.if_ne (tgt := 98) (n := 96) (de_if_ne (B 93 _ rfl) (B 94 _ rfl) (B 95 _ rfl)) rfl rfl (fun c_93 => ?_) (fun c_93 => ?_)
        · exact absurd c_93 (by decide)
        refine Vw.iconst (v := 0) (de_iconst_0 (B 96 _ rfl)) rfl (n := 97) rfl ?_
        exact Vw.zret (de_ireturn (B 97 _ rfl)) rfl rfl ⟨_, rfl, (by have g := h0 e t2 l2 c2 w2 IA (by unfold pOne; rw [if_pos rfl]; unfold pOrder pHead; rw [if_pos e_c]; unfold pTwo; rw [e2]) a1 frA; rw [frA.row (by omega)]; exact g)⟩
    exact absurd c_21 (by decide)
  · have i1 : i < nt := by
      rcases Nat.lt_or_ge i nt with z | z
      · exact z
      · rw [show i = nt by omega, hx.c0] at e_c; exact absurd e_c (by decide)
    refine Vw.aload_n (de_aload_0 (B 0 _ rfl)) 0 rfl (n := 1) rfl ?_
    refine Vw.aload_n (de_aload_0 (B 1 _ rfl)) 0 rfl (n := 2) rfl ?_
    refine Vw.getI (de_getfield (B 2 _ rfl) (B 3 _ rfl) (B 4 _ rfl)) fl_X5_40 rfl hx.rd.k (n := 5) rfl ?_
    rw [rm_6, hx.ord]
    refine Vw.if_eq (tgt := 13) (n := 8) (de_if_eq (B 5 _ rfl) (B 6 _ rfl) (B 7 _ rfl)) rfl rfl (fun c_5 => ?_) (fun c_5 => ?_)
    · exact absurd c_5 (by decide)
    obtain ⟨z8, hz8⟩ := hx.str 0 (by decide)
    refine Vw.ldcS (i := 0) (de_ldc (B 8 _ rfl) (B 9 _ rfl)) rfl (by decide) hz8.2.1 (n := 10) rfl ?_
    refine Vw.goto_ (n := 15) (de_goto_ (B 10 _ rfl) (B 11 _ rfl) (B 12 _ rfl)) rfl ?_
    refine Vw.ivi1 (mi' := mX5_listed) (de_invokevirtual (B 15 _ rfl) (B 16 _ rfl) (B 17 _ rfl)) ml_X5_95 mv_X5_listed hx.rd.k (Nat.le_of_ble_eq_true rfl) (n := 18) rfl (k_listed hx hz8 hi ?_)
    rw [w2]
    refine Vw.istore_n (lv2 := [(0, _), (1, _), (2, _)]) (de_istore_2 (B 18 _ rfl)) rfl (by decide) [1, 2, 0] rfl (n := 19) rfl ?_
    refine Vw.iload_n (de_iload_2 (B 19 _ rfl)) 2 rfl (n := 20) rfl ?_
    refine Vw.iconst (v := -1) (de_iconst_m1 (B 20 _ rfl)) rfl (n := 21) rfl ?_
    refine Vw.icmp_ne (tgt := 29) (n := 24) (de_icmp_ne (B 21 _ rfl) (B 22 _ rfl) (B 23 _ rfl)) rfl rfl (fun c_21 => ?_) (fun c_21 => ?_)
    · refine Vw.aload_n (de_aload_0 (B 29 _ rfl)) 0 rfl (n := 30) rfl ?_
      refine Vw.dup (de_dup (B 30 _ rfl)) rfl (n := 31) rfl ?_
      refine Vw.getI (de_getfield (B 31 _ rfl) (B 32 _ rfl) (B 33 _ rfl)) fl_X5_48 rfl hx.rd.k (n := 34) rfl ?_
      rw [rm_8]
      refine Vw.iconst (v := 1) (de_iconst_1 (B 34 _ rfl)) rfl (n := 35) rfl ?_
      refine Vw.iadd (de_iadd (B 35 _ rfl)) (n := 36) rfl ?_
      rw [nI_1]
      refine Vw.putI (de_putfield (B 36 _ rfl) (B 37 _ rfl) (B 38 _ rfl)) fl_X5_48 hx.rd.k rfl rfl (n := 39) rfl ?_
      rw [up_8]
      refine Vw.aload_n (de_aload_0 (B 39 _ rfl)) 0 rfl (n := 40) rfl ?_
      refine Vw.getR (de_getfield (B 40 _ rfl) (B 41 _ rfl) (B 42 _ rfl)) fl_X5_14 rfl hx.rd.k hx.rd.f0 (n := 43) rfl ?_
      refine Vw.getR (de_getfield (B 43 _ rfl) (B 44 _ rfl) (B 45 _ rfl)) fl_X5_99 rfl hx.rd.p0.k hx.rd.p0.f1 (n := 46) rfl ?_
      refine Vw.iload_n (de_iload_1 (B 46 _ rfl)) 1 rfl (n := 47) rfl ?_
      refine Vw.iload_n (de_iload_2 (B 47 _ rfl)) 2 rfl (n := 48) rfl ?_
      refine Vw.iast (de_iastore (B 48 _ rfl)) hx.rd.p0.r1 (vIx_n (k := n) rfl (by omega)) (n := 49) rfl ?_
      rw [show s + 74 + 1 + 1 = s + 76 from rfl, up_I (by omega) (by omega)]
      refine Vw.aload_n (de_aload_0 (B 49 _ rfl)) 0 rfl (n := 50) rfl ?_
      refine Vw.getR (de_getfield (B 50 _ rfl) (B 51 _ rfl) (B 52 _ rfl)) fl_X5_14 rfl hx.rd.k hx.rd.f0 (n := 53) rfl ?_
      refine Vw.getR (de_getfield (B 53 _ rfl) (B 54 _ rfl) (B 55 _ rfl)) fl_X5_102 rfl hx.rd.p0.k hx.rd.p0.f2 (n := 56) rfl ?_
      refine Vw.iload_n (de_iload_1 (B 56 _ rfl)) 1 rfl (n := 57) rfl ?_
      refine Vw.iconst (v := 1) (de_iconst_1 (B 57 _ rfl)) rfl (n := 58) rfl ?_
      refine Vw.iast (de_iastore (B 58 _ rfl)) hx.rd.p0.r2 (vIx_n (k := n) rfl (by omega)) (n := 59) rfl ?_
      rw [show s + 74 + 1 + 2 = s + 77 from rfl, up_I (by omega) (by omega)]
      refine Vw.aload_n (de_aload_0 (B 59 _ rfl)) 0 rfl (n := 60) rfl ?_
      refine Vw.getR (de_getfield (B 60 _ rfl) (B 61 _ rfl) (B 62 _ rfl)) fl_X5_14 rfl hx.rd.k hx.rd.f0 (n := 63) rfl ?_
      refine Vw.getR (de_getfield (B 63 _ rfl) (B 64 _ rfl) (B 65 _ rfl)) fl_X5_105 rfl hx.rd.p0.k hx.rd.p0.f3 (n := 66) rfl ?_
      refine Vw.iload_n (de_iload_1 (B 66 _ rfl)) 1 rfl (n := 67) rfl ?_
      refine Vw.aload_n (de_aload_0 (B 67 _ rfl)) 0 rfl (n := 68) rfl ?_
      refine Vw.getI (de_getfield (B 68 _ rfl) (B 69 _ rfl) (B 70 _ rfl)) fl_X5_54 rfl hx.rd.k (n := 71) rfl ?_
      rw [rm_10]
      refine Vw.iast (de_iastore (B 71 _ rfl)) hx.rd.p0.r3 (vIx_n (k := n) rfl (by omega)) (n := 72) rfl ?_
      rw [show s + 74 + 1 + 3 = s + 78 from rfl, up_I (by omega) (by omega)]
      obtain ⟨IA, eA⟩ : ∃ x : vI, x = up2 (up2 (up2 I (s + 76) n 1) (s + 77) n 1) (s + 78) n (nI c) := ⟨_, rfl⟩
      rw [← eA]
      have frA : FrC I IA s n := by rw [eA]; exact ((FrC.rfl.up (by omega) (by omega)).up (by omega) (by omega)).up (by omega) (by omega)
      have A76 : IA (s + 76) n = 1 := by rw [eA]; rw [up2_ne (by omega), up2_ne (by omega), up2_s]
      have A77 : IA (s + 77) n = 1 := by rw [eA]; rw [up2_ne (by omega), up2_s]
      have A78 : IA (s + 78) n = nI c := by rw [eA, up2_s]
      have hxA := hx.fr frA
      have A76b : IA (s + 76) n = vbX true (cd i) := by rw [A76, e_c]; decide
      refine Vw.iload_n (de_iload_2 (B 72 _ rfl)) 2 rfl (n := 73) rfl ?_
      refine Vw.aload_n (de_aload_0 (B 73 _ rfl)) 0 rfl (n := 74) rfl ?_
      refine Vw.getI (de_getfield (B 74 _ rfl) (B 75 _ rfl) (B 76 _ rfl)) fl_X5_40 rfl hx.rd.k (n := 77) rfl ?_
      rw [rm_6, hxA.ord]
      refine Vw.if_eq (tgt := 84) (n := 80) (de_if_eq (B 77 _ rfl) (B 78 _ rfl) (B 79 _ rfl)) rfl rfl (fun c_77 => ?_) (fun c_77 => ?_)
      · exact absurd c_77 (by decide)
      refine Vw.iconst (v := 4) (de_iconst_4 (B 80 _ rfl)) rfl (n := 81) rfl ?_
      refine Vw.goto_ (n := 85) (de_goto_ (B 81 _ rfl) (B 82 _ rfl) (B 83 _ rfl)) rfl ?_
      refine Vw.icmp_eq (tgt := 98) (n := 88) (de_icmp_eq (B 85 _ rfl) (B 86 _ rfl) (B 87 _ rfl)) rfl rfl (fun c_85 => ?_) (fun c_85 => ?_)
      · exact absurd c_85 (by decide)
      refine Vw.aload_n (de_aload_0 (B 88 _ rfl)) 0 rfl (n := 89) rfl ?_
      refine Vw.iconst (v := 0) (de_iconst_0 (B 89 _ rfl)) rfl (n := 90) rfl ?_
      refine Vw.ivi1 (mi' := mX5_readSum) (de_invokevirtual (B 90 _ rfl) (B 91 _ rfl) (B 92 _ rfl)) ml_X5_106 mv_X5_readSum hx.rd.k (Nat.le_of_ble_eq_true rfl) (n := 93) rfl (((kr_sumM 8 (by decide)).le (show 3 * 8 + 3 + 5 ≤ 44 by decide)) d S IA L _ s tp u cd vl nt true (i + 1) l c f w hxA (by omega) hl (by omega) (fun j l2 a c2 w2 e2 a1 a2 a3 a4 a5 a6 a7 => ?_) (fun e t2 l2 c2 w2 e2 a1 => ?_))
      · dsimp only at e2
        refine Vw.if_ne (tgt := 98) (n := 96) (de_if_ne (B 93 _ rfl) (B 94 _ rfl) (B 95 _ rfl)) rfl rfl (fun c_93 => ?_) (fun c_93 => ?_)
        · refine Vw.aload_n (de_aload_0 (B 98 _ rfl)) 0 rfl (n := 99) rfl ?_
          refine Vw.getR (de_getfield (B 99 _ rfl) (B 100 _ rfl) (B 101 _ rfl)) fl_X5_14 rfl hx.rd.k hx.rd.f0 (n := 102) rfl ?_
          refine Vw.getR (de_getfield (B 102 _ rfl) (B 103 _ rfl) (B 104 _ rfl)) fl_X5_109 rfl hx.rd.p0.k hx.rd.p0.f4 (n := 105) rfl ?_
          refine Vw.iload_n (de_iload_1 (B 105 _ rfl)) 1 rfl (n := 106) rfl ?_
          refine Vw.aload_n (de_aload_0 (B 106 _ rfl)) 0 rfl (n := 107) rfl ?_
          refine Vw.getI (de_getfield (B 107 _ rfl) (B 108 _ rfl) (B 109 _ rfl)) fl_X5_54 rfl hx.rd.k (n := 110) rfl ?_
          rw [rm_10]
          refine Vw.iast (de_iastore (B 110 _ rfl)) hx.rd.p0.r4 (vIx_n (k := n) rfl (by omega)) (n := 111) rfl ?_
          rw [show s + 74 + 1 + 4 = s + 79 from rfl, up_I (by omega) (by omega)]
          have hxF : RX S (up2 IA (s + 79) n (nI c2)) s tp u cd vl nt true := hxA.fr (n := n) (FrC.rfl.up (by omega) (by omega))
          have frF : FrC I (up2 IA (s + 79) n (nI c2)) s n := frA.up (by omega) (by omega)
          refine Vw.aload_n (de_aload_0 (B 111 _ rfl)) 0 rfl (n := 112) rfl ?_
          refine Vw.getI (de_getfield (B 112 _ rfl) (B 113 _ rfl) (B 114 _ rfl)) fl_X5_40 rfl hx.rd.k (n := 115) rfl ?_
          rw [rm_6, up2_a (show s + 74 ≠ s + 79 by omega), hxA.ord]
          refine Vw.if_eq (tgt := 133) (n := 118) (de_if_eq (B 115 _ rfl) (B 116 _ rfl) (B 117 _ rfl)) rfl rfl (fun c_115 => ?_) (fun c_115 => ?_)
          · exact absurd c_115 (by decide)
          refine Vw.iload_n (de_iload_2 (B 118 _ rfl)) 2 rfl (n := 119) rfl ?_
          refine Vw.iconst (v := 1) (de_iconst_1 (B 119 _ rfl)) rfl (n := 120) rfl ?_
          refine Vw.icmp_gt (tgt := 133) (n := 123) (de_icmp_gt (B 120 _ rfl) (B 121 _ rfl) (B 122 _ rfl)) rfl rfl (fun c_120 => ?_) (fun c_120 => ?_)
          · exact absurd c_120 (by decide)
          refine Vw.aload_n (de_aload_0 (B 123 _ rfl)) 0 rfl (n := 124) rfl ?_
          refine Vw.iload_n (de_iload_2 (B 124 _ rfl)) 2 rfl (n := 125) rfl ?_
          refine Vw.ivi1 (mi' := mX5_readSecond) (de_invokevirtual (B 125 _ rfl) (B 126 _ rfl) (B 127 _ rfl)) ml_X5_112 mv_X5_readSecond hx.rd.k (Nat.le_of_ble_eq_true rfl) (n := 128) rfl (((kr_second1).le (show 33 ≤ 44 by decide)) d S _ L _ s tp u cd vl nt true j l2 c2 f w2 hxF a2 a3 (by omega) (fun j3 l3 b c3 w3 e3 b1 b2 b3 b4 b5 b6 b7 => ?_) (fun e t3 l3 c3 w3 e3 b1 => ?_))
          · refine Vw.if_ne (tgt := 133) (n := 131) (de_if_ne (B 128 _ rfl) (B 129 _ rfl) (B 130 _ rfl)) rfl rfl (fun c_128 => ?_) (fun c_128 => ?_)
            · have g6 := a6.1
              have h6 := b6.1
              have e4 : cd j = 24 := Classical.byContradiction (fun z => by dsimp only at e3; rw [if_neg z] at e3; cases e3)
              have e5 : pSum cd vl true 8 (j + 1) l2 = .ok (j3, l3, b) := by dsimp only at e3; rw [if_pos e4] at e3; exact e3
              refine f133 _ _ hxF frF c2 c3 a b j3 l3 w3 ?_ ?_ ?_ (up2_s _ _ _ _) ⟨by omega, by omega, Or.inl ⟨g6, by rw [e_c]; decide, (a6.up (by decide)).of (fun x _ g => b5 x g)⟩, Or.inl ⟨h6, b6.up (by decide)⟩⟩ (by unfold pOne; rw [if_pos rfl]; unfold pOrder pHead; rw [if_neg (show ¬ cd i = 21 by rw [e_c]; decide), if_pos e_c]; unfold pTwo; rw [e2]; dsimp only; rw [if_pos e4, e5]) (by omega) b2 b3 (by omega) (fun x hx2 => by rw [b5 x (by omega)]; exact a5 x hx2) (OKw.app (b := c2) (OKw.of (w := w2) a6.2.1 (fun x _ g => b5 x g)) b6.2.1)
              · rw [up2_ne (by omega)]; exact A76b
              · rw [up2_ne (by omega)]; exact A77
              · rw [up2_ne (by omega)]; exact A78
            exact absurd c_128 (by decide)
          · refine Vw.if_ne (tgt := 133) (n := 131) (de_if_ne (B 128 _ rfl) (B 129 _ rfl) (B 130 _ rfl)) rfl rfl (fun c_128 => ?_) (fun c_128 => ?_)
            · exact absurd c_128 (by decide)
            refine Vw.iconst (v := 0) (de_iconst_0 (B 131 _ rfl)) rfl (n := 132) rfl ?_
            exact Vw.zret (de_ireturn (B 132 _ rfl)) rfl rfl ⟨_, rfl, (by
      have e4 : pOne cd vl true i l = .error e := by
        unfold pOne; rw [if_pos rfl]; unfold pOrder pHead; rw [if_neg (show ¬ cd i = 21 by rw [e_c]; decide), if_pos e_c]; unfold pTwo; rw [e2]; dsimp only at e3 ⊢
        by_cases z : cd j = 24
        · rw [if_pos z] at e3 ⊢; rw [e3]
        · rw [if_neg z] at e3 ⊢; cases e3; rfl
      have g := h0 e t3 l3 c3 w3 _ e4 b1 frF
      rw [frF.row (by omega)]; exact g)⟩
        exact absurd c_93 (by decide)
      · dsimp only at e2
        refine Vw.if_ne (tgt := 98) (n := 96) (de_if_ne (B 93 _ rfl) (B 94 _ rfl) (B 95 _ rfl)) rfl rfl (fun c_93 => ?_) (fun c_93 => ?_)
        · exact absurd c_93 (by decide)
        refine Vw.iconst (v := 0) (de_iconst_0 (B 96 _ rfl)) rfl (n := 97) rfl ?_
        exact Vw.zret (de_ireturn (B 97 _ rfl)) rfl rfl ⟨_, rfl, (by have g := h0 e t2 l2 c2 w2 IA (by unfold pOne; rw [if_pos rfl]; unfold pOrder pHead; rw [if_neg (show ¬ cd i = 21 by rw [e_c]; decide), if_pos e_c]; unfold pTwo; rw [e2]) a1 frA; rw [frA.row (by omega)]; exact g)⟩
    exact absurd c_21 (by decide)
  · have i1 : i < nt := by
      rcases Nat.lt_or_ge i nt with z | z
      · exact z
      · rw [show i = nt by omega, hx.c0] at e_c; exact absurd e_c (by decide)
    refine Vw.aload_n (de_aload_0 (B 0 _ rfl)) 0 rfl (n := 1) rfl ?_
    refine Vw.aload_n (de_aload_0 (B 1 _ rfl)) 0 rfl (n := 2) rfl ?_
    refine Vw.getI (de_getfield (B 2 _ rfl) (B 3 _ rfl) (B 4 _ rfl)) fl_X5_40 rfl hx.rd.k (n := 5) rfl ?_
    rw [rm_6, hx.ord]
    refine Vw.if_eq (tgt := 13) (n := 8) (de_if_eq (B 5 _ rfl) (B 6 _ rfl) (B 7 _ rfl)) rfl rfl (fun c_5 => ?_) (fun c_5 => ?_)
    · exact absurd c_5 (by decide)
    obtain ⟨z8, hz8⟩ := hx.str 0 (by decide)
    refine Vw.ldcS (i := 0) (de_ldc (B 8 _ rfl) (B 9 _ rfl)) rfl (by decide) hz8.2.1 (n := 10) rfl ?_
    refine Vw.goto_ (n := 15) (de_goto_ (B 10 _ rfl) (B 11 _ rfl) (B 12 _ rfl)) rfl ?_
    refine Vw.ivi1 (mi' := mX5_listed) (de_invokevirtual (B 15 _ rfl) (B 16 _ rfl) (B 17 _ rfl)) ml_X5_95 mv_X5_listed hx.rd.k (Nat.le_of_ble_eq_true rfl) (n := 18) rfl (k_listed hx hz8 hi ?_)
    rw [w2]
    refine Vw.istore_n (lv2 := [(0, _), (1, _), (2, _)]) (de_istore_2 (B 18 _ rfl)) rfl (by decide) [1, 2, 0] rfl (n := 19) rfl ?_
    refine Vw.iload_n (de_iload_2 (B 19 _ rfl)) 2 rfl (n := 20) rfl ?_
    refine Vw.iconst (v := -1) (de_iconst_m1 (B 20 _ rfl)) rfl (n := 21) rfl ?_
    refine Vw.icmp_ne (tgt := 29) (n := 24) (de_icmp_ne (B 21 _ rfl) (B 22 _ rfl) (B 23 _ rfl)) rfl rfl (fun c_21 => ?_) (fun c_21 => ?_)
    · refine Vw.aload_n (de_aload_0 (B 29 _ rfl)) 0 rfl (n := 30) rfl ?_
      refine Vw.dup (de_dup (B 30 _ rfl)) rfl (n := 31) rfl ?_
      refine Vw.getI (de_getfield (B 31 _ rfl) (B 32 _ rfl) (B 33 _ rfl)) fl_X5_48 rfl hx.rd.k (n := 34) rfl ?_
      rw [rm_8]
      refine Vw.iconst (v := 1) (de_iconst_1 (B 34 _ rfl)) rfl (n := 35) rfl ?_
      refine Vw.iadd (de_iadd (B 35 _ rfl)) (n := 36) rfl ?_
      rw [nI_1]
      refine Vw.putI (de_putfield (B 36 _ rfl) (B 37 _ rfl) (B 38 _ rfl)) fl_X5_48 hx.rd.k rfl rfl (n := 39) rfl ?_
      rw [up_8]
      refine Vw.aload_n (de_aload_0 (B 39 _ rfl)) 0 rfl (n := 40) rfl ?_
      refine Vw.getR (de_getfield (B 40 _ rfl) (B 41 _ rfl) (B 42 _ rfl)) fl_X5_14 rfl hx.rd.k hx.rd.f0 (n := 43) rfl ?_
      refine Vw.getR (de_getfield (B 43 _ rfl) (B 44 _ rfl) (B 45 _ rfl)) fl_X5_99 rfl hx.rd.p0.k hx.rd.p0.f1 (n := 46) rfl ?_
      refine Vw.iload_n (de_iload_1 (B 46 _ rfl)) 1 rfl (n := 47) rfl ?_
      refine Vw.iload_n (de_iload_2 (B 47 _ rfl)) 2 rfl (n := 48) rfl ?_
      refine Vw.iast (de_iastore (B 48 _ rfl)) hx.rd.p0.r1 (vIx_n (k := n) rfl (by omega)) (n := 49) rfl ?_
      rw [show s + 74 + 1 + 1 = s + 76 from rfl, up_I (by omega) (by omega)]
      refine Vw.aload_n (de_aload_0 (B 49 _ rfl)) 0 rfl (n := 50) rfl ?_
      refine Vw.getR (de_getfield (B 50 _ rfl) (B 51 _ rfl) (B 52 _ rfl)) fl_X5_14 rfl hx.rd.k hx.rd.f0 (n := 53) rfl ?_
      refine Vw.getR (de_getfield (B 53 _ rfl) (B 54 _ rfl) (B 55 _ rfl)) fl_X5_102 rfl hx.rd.p0.k hx.rd.p0.f2 (n := 56) rfl ?_
      refine Vw.iload_n (de_iload_1 (B 56 _ rfl)) 1 rfl (n := 57) rfl ?_
      refine Vw.iconst (v := 1) (de_iconst_1 (B 57 _ rfl)) rfl (n := 58) rfl ?_
      refine Vw.iast (de_iastore (B 58 _ rfl)) hx.rd.p0.r2 (vIx_n (k := n) rfl (by omega)) (n := 59) rfl ?_
      rw [show s + 74 + 1 + 2 = s + 77 from rfl, up_I (by omega) (by omega)]
      refine Vw.aload_n (de_aload_0 (B 59 _ rfl)) 0 rfl (n := 60) rfl ?_
      refine Vw.getR (de_getfield (B 60 _ rfl) (B 61 _ rfl) (B 62 _ rfl)) fl_X5_14 rfl hx.rd.k hx.rd.f0 (n := 63) rfl ?_
      refine Vw.getR (de_getfield (B 63 _ rfl) (B 64 _ rfl) (B 65 _ rfl)) fl_X5_105 rfl hx.rd.p0.k hx.rd.p0.f3 (n := 66) rfl ?_
      refine Vw.iload_n (de_iload_1 (B 66 _ rfl)) 1 rfl (n := 67) rfl ?_
      refine Vw.aload_n (de_aload_0 (B 67 _ rfl)) 0 rfl (n := 68) rfl ?_
      refine Vw.getI (de_getfield (B 68 _ rfl) (B 69 _ rfl) (B 70 _ rfl)) fl_X5_54 rfl hx.rd.k (n := 71) rfl ?_
      rw [rm_10]
      refine Vw.iast (de_iastore (B 71 _ rfl)) hx.rd.p0.r3 (vIx_n (k := n) rfl (by omega)) (n := 72) rfl ?_
      rw [show s + 74 + 1 + 3 = s + 78 from rfl, up_I (by omega) (by omega)]
      obtain ⟨IA, eA⟩ : ∃ x : vI, x = up2 (up2 (up2 I (s + 76) n 2) (s + 77) n 1) (s + 78) n (nI c) := ⟨_, rfl⟩
      rw [← eA]
      have frA : FrC I IA s n := by rw [eA]; exact ((FrC.rfl.up (by omega) (by omega)).up (by omega) (by omega)).up (by omega) (by omega)
      have A76 : IA (s + 76) n = 2 := by rw [eA]; rw [up2_ne (by omega), up2_ne (by omega), up2_s]
      have A77 : IA (s + 77) n = 1 := by rw [eA]; rw [up2_ne (by omega), up2_s]
      have A78 : IA (s + 78) n = nI c := by rw [eA, up2_s]
      have hxA := hx.fr frA
      have A76b : IA (s + 76) n = vbX true (cd i) := by rw [A76, e_c]; decide
      refine Vw.iload_n (de_iload_2 (B 72 _ rfl)) 2 rfl (n := 73) rfl ?_
      refine Vw.aload_n (de_aload_0 (B 73 _ rfl)) 0 rfl (n := 74) rfl ?_
      refine Vw.getI (de_getfield (B 74 _ rfl) (B 75 _ rfl) (B 76 _ rfl)) fl_X5_40 rfl hx.rd.k (n := 77) rfl ?_
      rw [rm_6, hxA.ord]
      refine Vw.if_eq (tgt := 84) (n := 80) (de_if_eq (B 77 _ rfl) (B 78 _ rfl) (B 79 _ rfl)) rfl rfl (fun c_77 => ?_) (fun c_77 => ?_)
      · exact absurd c_77 (by decide)
      refine Vw.iconst (v := 4) (de_iconst_4 (B 80 _ rfl)) rfl (n := 81) rfl ?_
      refine Vw.goto_ (n := 85) (de_goto_ (B 81 _ rfl) (B 82 _ rfl) (B 83 _ rfl)) rfl ?_
      refine Vw.icmp_eq (tgt := 98) (n := 88) (de_icmp_eq (B 85 _ rfl) (B 86 _ rfl) (B 87 _ rfl)) rfl rfl (fun c_85 => ?_) (fun c_85 => ?_)
      · exact absurd c_85 (by decide)
      refine Vw.aload_n (de_aload_0 (B 88 _ rfl)) 0 rfl (n := 89) rfl ?_
      refine Vw.iconst (v := 0) (de_iconst_0 (B 89 _ rfl)) rfl (n := 90) rfl ?_
      refine Vw.ivi1 (mi' := mX5_readSum) (de_invokevirtual (B 90 _ rfl) (B 91 _ rfl) (B 92 _ rfl)) ml_X5_106 mv_X5_readSum hx.rd.k (Nat.le_of_ble_eq_true rfl) (n := 93) rfl (((kr_sumM 8 (by decide)).le (show 3 * 8 + 3 + 5 ≤ 44 by decide)) d S IA L _ s tp u cd vl nt true (i + 1) l c f w hxA (by omega) hl (by omega) (fun j l2 a c2 w2 e2 a1 a2 a3 a4 a5 a6 a7 => ?_) (fun e t2 l2 c2 w2 e2 a1 => ?_))
      · dsimp only at e2
        refine Vw.if_ne (tgt := 98) (n := 96) (de_if_ne (B 93 _ rfl) (B 94 _ rfl) (B 95 _ rfl)) rfl rfl (fun c_93 => ?_) (fun c_93 => ?_)
        · refine Vw.aload_n (de_aload_0 (B 98 _ rfl)) 0 rfl (n := 99) rfl ?_
          refine Vw.getR (de_getfield (B 99 _ rfl) (B 100 _ rfl) (B 101 _ rfl)) fl_X5_14 rfl hx.rd.k hx.rd.f0 (n := 102) rfl ?_
          refine Vw.getR (de_getfield (B 102 _ rfl) (B 103 _ rfl) (B 104 _ rfl)) fl_X5_109 rfl hx.rd.p0.k hx.rd.p0.f4 (n := 105) rfl ?_
          refine Vw.iload_n (de_iload_1 (B 105 _ rfl)) 1 rfl (n := 106) rfl ?_
          refine Vw.aload_n (de_aload_0 (B 106 _ rfl)) 0 rfl (n := 107) rfl ?_
          refine Vw.getI (de_getfield (B 107 _ rfl) (B 108 _ rfl) (B 109 _ rfl)) fl_X5_54 rfl hx.rd.k (n := 110) rfl ?_
          rw [rm_10]
          refine Vw.iast (de_iastore (B 110 _ rfl)) hx.rd.p0.r4 (vIx_n (k := n) rfl (by omega)) (n := 111) rfl ?_
          rw [show s + 74 + 1 + 4 = s + 79 from rfl, up_I (by omega) (by omega)]
          refine Vw.aload_n (de_aload_0 (B 111 _ rfl)) 0 rfl (n := 112) rfl ?_
          refine Vw.getI (de_getfield (B 112 _ rfl) (B 113 _ rfl) (B 114 _ rfl)) fl_X5_40 rfl hx.rd.k (n := 115) rfl ?_
          rw [rm_6, up2_a (show s + 74 ≠ s + 79 by omega), hxA.ord]
          refine Vw.if_eq (tgt := 133) (n := 118) (de_if_eq (B 115 _ rfl) (B 116 _ rfl) (B 117 _ rfl)) rfl rfl (fun c_115 => ?_) (fun c_115 => ?_)
          · exact absurd c_115 (by decide)
          refine Vw.iload_n (de_iload_2 (B 118 _ rfl)) 2 rfl (n := 119) rfl ?_
          refine Vw.iconst (v := 1) (de_iconst_1 (B 119 _ rfl)) rfl (n := 120) rfl ?_
          refine Vw.icmp_gt (tgt := 133) (n := 123) (de_icmp_gt (B 120 _ rfl) (B 121 _ rfl) (B 122 _ rfl)) rfl rfl (fun c_120 => ?_) (fun c_120 => ?_)
          · refine f133 _ _ (hxA.fr (n := n) (FrC.rfl.up (by omega) (by omega))) (frA.up (by omega) (by omega)) c2 c2 a tD0 j l2 w2 ?_ ?_ ?_ (up2_s _ _ _ _) ⟨Nat.le_of_lt a6.1, Nat.le_refl _, Or.inl ⟨a6.1, by rw [e_c]; decide, a6.up (by decide)⟩, Or.inr ⟨rfl, rfl, by rw [e_c]; decide, by rw [e_c]; decide⟩⟩ (by unfold pOne; rw [if_pos rfl]; unfold pOrder pHead; rw [if_neg (show ¬ cd i = 21 by rw [e_c]; decide), if_neg (show ¬ cd i = 23 by rw [e_c]; decide), if_pos (Or.inl e_c)]; rw [e2]) (by omega) a2 a3 (by omega) a5 a6.2.1
            · rw [up2_ne (by omega)]; exact A76b
            · rw [up2_ne (by omega)]; exact A77
            · rw [up2_ne (by omega)]; exact A78
          exact absurd (by decide) c_120
        exact absurd c_93 (by decide)
      · dsimp only at e2
        refine Vw.if_ne (tgt := 98) (n := 96) (de_if_ne (B 93 _ rfl) (B 94 _ rfl) (B 95 _ rfl)) rfl rfl (fun c_93 => ?_) (fun c_93 => ?_)
        · exact absurd c_93 (by decide)
        refine Vw.iconst (v := 0) (de_iconst_0 (B 96 _ rfl)) rfl (n := 97) rfl ?_
        exact Vw.zret (de_ireturn (B 97 _ rfl)) rfl rfl ⟨_, rfl, (by have g := h0 e t2 l2 c2 w2 IA (by unfold pOne; rw [if_pos rfl]; unfold pOrder pHead; rw [if_neg (show ¬ cd i = 21 by rw [e_c]; decide), if_neg (show ¬ cd i = 23 by rw [e_c]; decide), if_pos (Or.inl e_c)]; rw [e2]) a1 frA; rw [frA.row (by omega)]; exact g)⟩
    exact absurd c_21 (by decide)
  · have i1 : i < nt := by
      rcases Nat.lt_or_ge i nt with z | z
      · exact z
      · rw [show i = nt by omega, hx.c0] at e_c; exact absurd e_c (by decide)
    refine Vw.aload_n (de_aload_0 (B 0 _ rfl)) 0 rfl (n := 1) rfl ?_
    refine Vw.aload_n (de_aload_0 (B 1 _ rfl)) 0 rfl (n := 2) rfl ?_
    refine Vw.getI (de_getfield (B 2 _ rfl) (B 3 _ rfl) (B 4 _ rfl)) fl_X5_40 rfl hx.rd.k (n := 5) rfl ?_
    rw [rm_6, hx.ord]
    refine Vw.if_eq (tgt := 13) (n := 8) (de_if_eq (B 5 _ rfl) (B 6 _ rfl) (B 7 _ rfl)) rfl rfl (fun c_5 => ?_) (fun c_5 => ?_)
    · exact absurd c_5 (by decide)
    obtain ⟨z8, hz8⟩ := hx.str 0 (by decide)
    refine Vw.ldcS (i := 0) (de_ldc (B 8 _ rfl) (B 9 _ rfl)) rfl (by decide) hz8.2.1 (n := 10) rfl ?_
    refine Vw.goto_ (n := 15) (de_goto_ (B 10 _ rfl) (B 11 _ rfl) (B 12 _ rfl)) rfl ?_
    refine Vw.ivi1 (mi' := mX5_listed) (de_invokevirtual (B 15 _ rfl) (B 16 _ rfl) (B 17 _ rfl)) ml_X5_95 mv_X5_listed hx.rd.k (Nat.le_of_ble_eq_true rfl) (n := 18) rfl (k_listed hx hz8 hi ?_)
    rw [w2]
    refine Vw.istore_n (lv2 := [(0, _), (1, _), (2, _)]) (de_istore_2 (B 18 _ rfl)) rfl (by decide) [1, 2, 0] rfl (n := 19) rfl ?_
    refine Vw.iload_n (de_iload_2 (B 19 _ rfl)) 2 rfl (n := 20) rfl ?_
    refine Vw.iconst (v := -1) (de_iconst_m1 (B 20 _ rfl)) rfl (n := 21) rfl ?_
    refine Vw.icmp_ne (tgt := 29) (n := 24) (de_icmp_ne (B 21 _ rfl) (B 22 _ rfl) (B 23 _ rfl)) rfl rfl (fun c_21 => ?_) (fun c_21 => ?_)
    · refine Vw.aload_n (de_aload_0 (B 29 _ rfl)) 0 rfl (n := 30) rfl ?_
      refine Vw.dup (de_dup (B 30 _ rfl)) rfl (n := 31) rfl ?_
      refine Vw.getI (de_getfield (B 31 _ rfl) (B 32 _ rfl) (B 33 _ rfl)) fl_X5_48 rfl hx.rd.k (n := 34) rfl ?_
      rw [rm_8]
      refine Vw.iconst (v := 1) (de_iconst_1 (B 34 _ rfl)) rfl (n := 35) rfl ?_
      refine Vw.iadd (de_iadd (B 35 _ rfl)) (n := 36) rfl ?_
      rw [nI_1]
      refine Vw.putI (de_putfield (B 36 _ rfl) (B 37 _ rfl) (B 38 _ rfl)) fl_X5_48 hx.rd.k rfl rfl (n := 39) rfl ?_
      rw [up_8]
      refine Vw.aload_n (de_aload_0 (B 39 _ rfl)) 0 rfl (n := 40) rfl ?_
      refine Vw.getR (de_getfield (B 40 _ rfl) (B 41 _ rfl) (B 42 _ rfl)) fl_X5_14 rfl hx.rd.k hx.rd.f0 (n := 43) rfl ?_
      refine Vw.getR (de_getfield (B 43 _ rfl) (B 44 _ rfl) (B 45 _ rfl)) fl_X5_99 rfl hx.rd.p0.k hx.rd.p0.f1 (n := 46) rfl ?_
      refine Vw.iload_n (de_iload_1 (B 46 _ rfl)) 1 rfl (n := 47) rfl ?_
      refine Vw.iload_n (de_iload_2 (B 47 _ rfl)) 2 rfl (n := 48) rfl ?_
      refine Vw.iast (de_iastore (B 48 _ rfl)) hx.rd.p0.r1 (vIx_n (k := n) rfl (by omega)) (n := 49) rfl ?_
      rw [show s + 74 + 1 + 1 = s + 76 from rfl, up_I (by omega) (by omega)]
      refine Vw.aload_n (de_aload_0 (B 49 _ rfl)) 0 rfl (n := 50) rfl ?_
      refine Vw.getR (de_getfield (B 50 _ rfl) (B 51 _ rfl) (B 52 _ rfl)) fl_X5_14 rfl hx.rd.k hx.rd.f0 (n := 53) rfl ?_
      refine Vw.getR (de_getfield (B 53 _ rfl) (B 54 _ rfl) (B 55 _ rfl)) fl_X5_102 rfl hx.rd.p0.k hx.rd.p0.f2 (n := 56) rfl ?_
      refine Vw.iload_n (de_iload_1 (B 56 _ rfl)) 1 rfl (n := 57) rfl ?_
      refine Vw.iconst (v := 1) (de_iconst_1 (B 57 _ rfl)) rfl (n := 58) rfl ?_
      refine Vw.iast (de_iastore (B 58 _ rfl)) hx.rd.p0.r2 (vIx_n (k := n) rfl (by omega)) (n := 59) rfl ?_
      rw [show s + 74 + 1 + 2 = s + 77 from rfl, up_I (by omega) (by omega)]
      refine Vw.aload_n (de_aload_0 (B 59 _ rfl)) 0 rfl (n := 60) rfl ?_
      refine Vw.getR (de_getfield (B 60 _ rfl) (B 61 _ rfl) (B 62 _ rfl)) fl_X5_14 rfl hx.rd.k hx.rd.f0 (n := 63) rfl ?_
      refine Vw.getR (de_getfield (B 63 _ rfl) (B 64 _ rfl) (B 65 _ rfl)) fl_X5_105 rfl hx.rd.p0.k hx.rd.p0.f3 (n := 66) rfl ?_
      refine Vw.iload_n (de_iload_1 (B 66 _ rfl)) 1 rfl (n := 67) rfl ?_
      refine Vw.aload_n (de_aload_0 (B 67 _ rfl)) 0 rfl (n := 68) rfl ?_
      refine Vw.getI (de_getfield (B 68 _ rfl) (B 69 _ rfl) (B 70 _ rfl)) fl_X5_54 rfl hx.rd.k (n := 71) rfl ?_
      rw [rm_10]
      refine Vw.iast (de_iastore (B 71 _ rfl)) hx.rd.p0.r3 (vIx_n (k := n) rfl (by omega)) (n := 72) rfl ?_
      rw [show s + 74 + 1 + 3 = s + 78 from rfl, up_I (by omega) (by omega)]
      obtain ⟨IA, eA⟩ : ∃ x : vI, x = up2 (up2 (up2 I (s + 76) n 3) (s + 77) n 1) (s + 78) n (nI c) := ⟨_, rfl⟩
      rw [← eA]
      have frA : FrC I IA s n := by rw [eA]; exact ((FrC.rfl.up (by omega) (by omega)).up (by omega) (by omega)).up (by omega) (by omega)
      have A76 : IA (s + 76) n = 3 := by rw [eA]; rw [up2_ne (by omega), up2_ne (by omega), up2_s]
      have A77 : IA (s + 77) n = 1 := by rw [eA]; rw [up2_ne (by omega), up2_s]
      have A78 : IA (s + 78) n = nI c := by rw [eA, up2_s]
      have hxA := hx.fr frA
      have A76b : IA (s + 76) n = vbX true (cd i) := by rw [A76, e_c]; decide
      refine Vw.iload_n (de_iload_2 (B 72 _ rfl)) 2 rfl (n := 73) rfl ?_
      refine Vw.aload_n (de_aload_0 (B 73 _ rfl)) 0 rfl (n := 74) rfl ?_
      refine Vw.getI (de_getfield (B 74 _ rfl) (B 75 _ rfl) (B 76 _ rfl)) fl_X5_40 rfl hx.rd.k (n := 77) rfl ?_
      rw [rm_6, hxA.ord]
      refine Vw.if_eq (tgt := 84) (n := 80) (de_if_eq (B 77 _ rfl) (B 78 _ rfl) (B 79 _ rfl)) rfl rfl (fun c_77 => ?_) (fun c_77 => ?_)
      · exact absurd c_77 (by decide)
      refine Vw.iconst (v := 4) (de_iconst_4 (B 80 _ rfl)) rfl (n := 81) rfl ?_
      refine Vw.goto_ (n := 85) (de_goto_ (B 81 _ rfl) (B 82 _ rfl) (B 83 _ rfl)) rfl ?_
      refine Vw.icmp_eq (tgt := 98) (n := 88) (de_icmp_eq (B 85 _ rfl) (B 86 _ rfl) (B 87 _ rfl)) rfl rfl (fun c_85 => ?_) (fun c_85 => ?_)
      · exact absurd c_85 (by decide)
      refine Vw.aload_n (de_aload_0 (B 88 _ rfl)) 0 rfl (n := 89) rfl ?_
      refine Vw.iconst (v := 0) (de_iconst_0 (B 89 _ rfl)) rfl (n := 90) rfl ?_
      refine Vw.ivi1 (mi' := mX5_readSum) (de_invokevirtual (B 90 _ rfl) (B 91 _ rfl) (B 92 _ rfl)) ml_X5_106 mv_X5_readSum hx.rd.k (Nat.le_of_ble_eq_true rfl) (n := 93) rfl (((kr_sumM 8 (by decide)).le (show 3 * 8 + 3 + 5 ≤ 44 by decide)) d S IA L _ s tp u cd vl nt true (i + 1) l c f w hxA (by omega) hl (by omega) (fun j l2 a c2 w2 e2 a1 a2 a3 a4 a5 a6 a7 => ?_) (fun e t2 l2 c2 w2 e2 a1 => ?_))
      · dsimp only at e2
        refine Vw.if_ne (tgt := 98) (n := 96) (de_if_ne (B 93 _ rfl) (B 94 _ rfl) (B 95 _ rfl)) rfl rfl (fun c_93 => ?_) (fun c_93 => ?_)
        · refine Vw.aload_n (de_aload_0 (B 98 _ rfl)) 0 rfl (n := 99) rfl ?_
          refine Vw.getR (de_getfield (B 99 _ rfl) (B 100 _ rfl) (B 101 _ rfl)) fl_X5_14 rfl hx.rd.k hx.rd.f0 (n := 102) rfl ?_
          refine Vw.getR (de_getfield (B 102 _ rfl) (B 103 _ rfl) (B 104 _ rfl)) fl_X5_109 rfl hx.rd.p0.k hx.rd.p0.f4 (n := 105) rfl ?_
          refine Vw.iload_n (de_iload_1 (B 105 _ rfl)) 1 rfl (n := 106) rfl ?_
          refine Vw.aload_n (de_aload_0 (B 106 _ rfl)) 0 rfl (n := 107) rfl ?_
          refine Vw.getI (de_getfield (B 107 _ rfl) (B 108 _ rfl) (B 109 _ rfl)) fl_X5_54 rfl hx.rd.k (n := 110) rfl ?_
          rw [rm_10]
          refine Vw.iast (de_iastore (B 110 _ rfl)) hx.rd.p0.r4 (vIx_n (k := n) rfl (by omega)) (n := 111) rfl ?_
          rw [show s + 74 + 1 + 4 = s + 79 from rfl, up_I (by omega) (by omega)]
          refine Vw.aload_n (de_aload_0 (B 111 _ rfl)) 0 rfl (n := 112) rfl ?_
          refine Vw.getI (de_getfield (B 112 _ rfl) (B 113 _ rfl) (B 114 _ rfl)) fl_X5_40 rfl hx.rd.k (n := 115) rfl ?_
          rw [rm_6, up2_a (show s + 74 ≠ s + 79 by omega), hxA.ord]
          refine Vw.if_eq (tgt := 133) (n := 118) (de_if_eq (B 115 _ rfl) (B 116 _ rfl) (B 117 _ rfl)) rfl rfl (fun c_115 => ?_) (fun c_115 => ?_)
          · exact absurd c_115 (by decide)
          refine Vw.iload_n (de_iload_2 (B 118 _ rfl)) 2 rfl (n := 119) rfl ?_
          refine Vw.iconst (v := 1) (de_iconst_1 (B 119 _ rfl)) rfl (n := 120) rfl ?_
          refine Vw.icmp_gt (tgt := 133) (n := 123) (de_icmp_gt (B 120 _ rfl) (B 121 _ rfl) (B 122 _ rfl)) rfl rfl (fun c_120 => ?_) (fun c_120 => ?_)
          · refine f133 _ _ (hxA.fr (n := n) (FrC.rfl.up (by omega) (by omega))) (frA.up (by omega) (by omega)) c2 c2 a tD0 j l2 w2 ?_ ?_ ?_ (up2_s _ _ _ _) ⟨Nat.le_of_lt a6.1, Nat.le_refl _, Or.inl ⟨a6.1, by rw [e_c]; decide, a6.up (by decide)⟩, Or.inr ⟨rfl, rfl, by rw [e_c]; decide, by rw [e_c]; decide⟩⟩ (by unfold pOne; rw [if_pos rfl]; unfold pOrder pHead; rw [if_neg (show ¬ cd i = 21 by rw [e_c]; decide), if_neg (show ¬ cd i = 23 by rw [e_c]; decide), if_pos (Or.inr e_c)]; rw [e2]) (by omega) a2 a3 (by omega) a5 a6.2.1
            · rw [up2_ne (by omega)]; exact A76b
            · rw [up2_ne (by omega)]; exact A77
            · rw [up2_ne (by omega)]; exact A78
          exact absurd (by decide) c_120
        exact absurd c_93 (by decide)
      · dsimp only at e2
        refine Vw.if_ne (tgt := 98) (n := 96) (de_if_ne (B 93 _ rfl) (B 94 _ rfl) (B 95 _ rfl)) rfl rfl (fun c_93 => ?_) (fun c_93 => ?_)
        · exact absurd c_93 (by decide)
        refine Vw.iconst (v := 0) (de_iconst_0 (B 96 _ rfl)) rfl (n := 97) rfl ?_
        exact Vw.zret (de_ireturn (B 97 _ rfl)) rfl rfl ⟨_, rfl, (by have g := h0 e t2 l2 c2 w2 IA (by unfold pOne; rw [if_pos rfl]; unfold pOrder pHead; rw [if_neg (show ¬ cd i = 21 by rw [e_c]; decide), if_neg (show ¬ cd i = 23 by rw [e_c]; decide), if_pos (Or.inr e_c)]; rw [e2]) a1 frA; rw [frA.row (by omega)]; exact g)⟩
    exact absurd c_21 (by decide)
  · have i1 : i < nt := by
      rcases Nat.lt_or_ge i nt with z | z
      · exact z
      · rw [show i = nt by omega, hx.c0] at e_c; exact absurd e_c (by decide)
    refine Vw.aload_n (de_aload_0 (B 0 _ rfl)) 0 rfl (n := 1) rfl ?_
    refine Vw.aload_n (de_aload_0 (B 1 _ rfl)) 0 rfl (n := 2) rfl ?_
    refine Vw.getI (de_getfield (B 2 _ rfl) (B 3 _ rfl) (B 4 _ rfl)) fl_X5_40 rfl hx.rd.k (n := 5) rfl ?_
    rw [rm_6, hx.ord]
    refine Vw.if_eq (tgt := 13) (n := 8) (de_if_eq (B 5 _ rfl) (B 6 _ rfl) (B 7 _ rfl)) rfl rfl (fun c_5 => ?_) (fun c_5 => ?_)
    · exact absurd c_5 (by decide)
    obtain ⟨z8, hz8⟩ := hx.str 0 (by decide)
    refine Vw.ldcS (i := 0) (de_ldc (B 8 _ rfl) (B 9 _ rfl)) rfl (by decide) hz8.2.1 (n := 10) rfl ?_
    refine Vw.goto_ (n := 15) (de_goto_ (B 10 _ rfl) (B 11 _ rfl) (B 12 _ rfl)) rfl ?_
    refine Vw.ivi1 (mi' := mX5_listed) (de_invokevirtual (B 15 _ rfl) (B 16 _ rfl) (B 17 _ rfl)) ml_X5_95 mv_X5_listed hx.rd.k (Nat.le_of_ble_eq_true rfl) (n := 18) rfl (k_listed hx hz8 hi ?_)
    rw [w2]
    refine Vw.istore_n (lv2 := [(0, _), (1, _), (2, _)]) (de_istore_2 (B 18 _ rfl)) rfl (by decide) [1, 2, 0] rfl (n := 19) rfl ?_
    refine Vw.iload_n (de_iload_2 (B 19 _ rfl)) 2 rfl (n := 20) rfl ?_
    refine Vw.iconst (v := -1) (de_iconst_m1 (B 20 _ rfl)) rfl (n := 21) rfl ?_
    refine Vw.icmp_ne (tgt := 29) (n := 24) (de_icmp_ne (B 21 _ rfl) (B 22 _ rfl) (B 23 _ rfl)) rfl rfl (fun c_21 => ?_) (fun c_21 => ?_)
    · refine Vw.aload_n (de_aload_0 (B 29 _ rfl)) 0 rfl (n := 30) rfl ?_
      refine Vw.dup (de_dup (B 30 _ rfl)) rfl (n := 31) rfl ?_
      refine Vw.getI (de_getfield (B 31 _ rfl) (B 32 _ rfl) (B 33 _ rfl)) fl_X5_48 rfl hx.rd.k (n := 34) rfl ?_
      rw [rm_8]
      refine Vw.iconst (v := 1) (de_iconst_1 (B 34 _ rfl)) rfl (n := 35) rfl ?_
      refine Vw.iadd (de_iadd (B 35 _ rfl)) (n := 36) rfl ?_
      rw [nI_1]
      refine Vw.putI (de_putfield (B 36 _ rfl) (B 37 _ rfl) (B 38 _ rfl)) fl_X5_48 hx.rd.k rfl rfl (n := 39) rfl ?_
      rw [up_8]
      refine Vw.aload_n (de_aload_0 (B 39 _ rfl)) 0 rfl (n := 40) rfl ?_
      refine Vw.getR (de_getfield (B 40 _ rfl) (B 41 _ rfl) (B 42 _ rfl)) fl_X5_14 rfl hx.rd.k hx.rd.f0 (n := 43) rfl ?_
      refine Vw.getR (de_getfield (B 43 _ rfl) (B 44 _ rfl) (B 45 _ rfl)) fl_X5_99 rfl hx.rd.p0.k hx.rd.p0.f1 (n := 46) rfl ?_
      refine Vw.iload_n (de_iload_1 (B 46 _ rfl)) 1 rfl (n := 47) rfl ?_
      refine Vw.iload_n (de_iload_2 (B 47 _ rfl)) 2 rfl (n := 48) rfl ?_
      refine Vw.iast (de_iastore (B 48 _ rfl)) hx.rd.p0.r1 (vIx_n (k := n) rfl (by omega)) (n := 49) rfl ?_
      rw [show s + 74 + 1 + 1 = s + 76 from rfl, up_I (by omega) (by omega)]
      refine Vw.aload_n (de_aload_0 (B 49 _ rfl)) 0 rfl (n := 50) rfl ?_
      refine Vw.getR (de_getfield (B 50 _ rfl) (B 51 _ rfl) (B 52 _ rfl)) fl_X5_14 rfl hx.rd.k hx.rd.f0 (n := 53) rfl ?_
      refine Vw.getR (de_getfield (B 53 _ rfl) (B 54 _ rfl) (B 55 _ rfl)) fl_X5_102 rfl hx.rd.p0.k hx.rd.p0.f2 (n := 56) rfl ?_
      refine Vw.iload_n (de_iload_1 (B 56 _ rfl)) 1 rfl (n := 57) rfl ?_
      refine Vw.iconst (v := 1) (de_iconst_1 (B 57 _ rfl)) rfl (n := 58) rfl ?_
      refine Vw.iast (de_iastore (B 58 _ rfl)) hx.rd.p0.r2 (vIx_n (k := n) rfl (by omega)) (n := 59) rfl ?_
      rw [show s + 74 + 1 + 2 = s + 77 from rfl, up_I (by omega) (by omega)]
      refine Vw.aload_n (de_aload_0 (B 59 _ rfl)) 0 rfl (n := 60) rfl ?_
      refine Vw.getR (de_getfield (B 60 _ rfl) (B 61 _ rfl) (B 62 _ rfl)) fl_X5_14 rfl hx.rd.k hx.rd.f0 (n := 63) rfl ?_
      refine Vw.getR (de_getfield (B 63 _ rfl) (B 64 _ rfl) (B 65 _ rfl)) fl_X5_105 rfl hx.rd.p0.k hx.rd.p0.f3 (n := 66) rfl ?_
      refine Vw.iload_n (de_iload_1 (B 66 _ rfl)) 1 rfl (n := 67) rfl ?_
      refine Vw.aload_n (de_aload_0 (B 67 _ rfl)) 0 rfl (n := 68) rfl ?_
      refine Vw.getI (de_getfield (B 68 _ rfl) (B 69 _ rfl) (B 70 _ rfl)) fl_X5_54 rfl hx.rd.k (n := 71) rfl ?_
      rw [rm_10]
      refine Vw.iast (de_iastore (B 71 _ rfl)) hx.rd.p0.r3 (vIx_n (k := n) rfl (by omega)) (n := 72) rfl ?_
      rw [show s + 74 + 1 + 3 = s + 78 from rfl, up_I (by omega) (by omega)]
      obtain ⟨IA, eA⟩ : ∃ x : vI, x = up2 (up2 (up2 I (s + 76) n 4) (s + 77) n 1) (s + 78) n (nI c) := ⟨_, rfl⟩
      rw [← eA]
      have frA : FrC I IA s n := by rw [eA]; exact ((FrC.rfl.up (by omega) (by omega)).up (by omega) (by omega)).up (by omega) (by omega)
      have A76 : IA (s + 76) n = 4 := by rw [eA]; rw [up2_ne (by omega), up2_ne (by omega), up2_s]
      have A77 : IA (s + 77) n = 1 := by rw [eA]; rw [up2_ne (by omega), up2_s]
      have A78 : IA (s + 78) n = nI c := by rw [eA, up2_s]
      have hxA := hx.fr frA
      have A76b : IA (s + 76) n = vbX true (cd i) := by rw [A76, e_c]; decide
      refine Vw.iload_n (de_iload_2 (B 72 _ rfl)) 2 rfl (n := 73) rfl ?_
      refine Vw.aload_n (de_aload_0 (B 73 _ rfl)) 0 rfl (n := 74) rfl ?_
      refine Vw.getI (de_getfield (B 74 _ rfl) (B 75 _ rfl) (B 76 _ rfl)) fl_X5_40 rfl hx.rd.k (n := 77) rfl ?_
      rw [rm_6, hxA.ord]
      refine Vw.if_eq (tgt := 84) (n := 80) (de_if_eq (B 77 _ rfl) (B 78 _ rfl) (B 79 _ rfl)) rfl rfl (fun c_77 => ?_) (fun c_77 => ?_)
      · exact absurd c_77 (by decide)
      refine Vw.iconst (v := 4) (de_iconst_4 (B 80 _ rfl)) rfl (n := 81) rfl ?_
      refine Vw.goto_ (n := 85) (de_goto_ (B 81 _ rfl) (B 82 _ rfl) (B 83 _ rfl)) rfl ?_
      refine Vw.icmp_eq (tgt := 98) (n := 88) (de_icmp_eq (B 85 _ rfl) (B 86 _ rfl) (B 87 _ rfl)) rfl rfl (fun c_85 => ?_) (fun c_85 => ?_)
      · refine Vw.aload_n (de_aload_0 (B 98 _ rfl)) 0 rfl (n := 99) rfl ?_
        refine Vw.getR (de_getfield (B 99 _ rfl) (B 100 _ rfl) (B 101 _ rfl)) fl_X5_14 rfl hx.rd.k hx.rd.f0 (n := 102) rfl ?_
        refine Vw.getR (de_getfield (B 102 _ rfl) (B 103 _ rfl) (B 104 _ rfl)) fl_X5_109 rfl hx.rd.p0.k hx.rd.p0.f4 (n := 105) rfl ?_
        refine Vw.iload_n (de_iload_1 (B 105 _ rfl)) 1 rfl (n := 106) rfl ?_
        refine Vw.aload_n (de_aload_0 (B 106 _ rfl)) 0 rfl (n := 107) rfl ?_
        refine Vw.getI (de_getfield (B 107 _ rfl) (B 108 _ rfl) (B 109 _ rfl)) fl_X5_54 rfl hx.rd.k (n := 110) rfl ?_
        rw [rm_10]
        refine Vw.iast (de_iastore (B 110 _ rfl)) hx.rd.p0.r4 (vIx_n (k := n) rfl (by omega)) (n := 111) rfl ?_
        rw [show s + 74 + 1 + 4 = s + 79 from rfl, up_I (by omega) (by omega)]
        refine Vw.aload_n (de_aload_0 (B 111 _ rfl)) 0 rfl (n := 112) rfl ?_
        refine Vw.getI (de_getfield (B 112 _ rfl) (B 113 _ rfl) (B 114 _ rfl)) fl_X5_40 rfl hx.rd.k (n := 115) rfl ?_
        rw [rm_6, up2_a (show s + 74 ≠ s + 79 by omega), hxA.ord]
        refine Vw.if_eq (tgt := 133) (n := 118) (de_if_eq (B 115 _ rfl) (B 116 _ rfl) (B 117 _ rfl)) rfl rfl (fun c_115 => ?_) (fun c_115 => ?_)
        · exact absurd c_115 (by decide)
        refine Vw.iload_n (de_iload_2 (B 118 _ rfl)) 2 rfl (n := 119) rfl ?_
        refine Vw.iconst (v := 1) (de_iconst_1 (B 119 _ rfl)) rfl (n := 120) rfl ?_
        refine Vw.icmp_gt (tgt := 133) (n := 123) (de_icmp_gt (B 120 _ rfl) (B 121 _ rfl) (B 122 _ rfl)) rfl rfl (fun c_120 => ?_) (fun c_120 => ?_)
        · refine f133 _ _ (hxA.fr (n := n) (FrC.rfl.up (by omega) (by omega))) (frA.up (by omega) (by omega)) c c tD0 tD0 (i + 1) l w ?_ ?_ ?_ (up2_s _ _ _ _) ⟨Nat.le_refl _, Nat.le_refl _, Or.inr ⟨rfl, e_c, rfl⟩, Or.inr ⟨rfl, rfl, by rw [e_c]; decide, by rw [e_c]; decide⟩⟩ (by unfold pOne; rw [if_pos rfl]; unfold pOrder pHead; rw [if_neg (show ¬ cd i = 21 by rw [e_c]; decide), if_neg (show ¬ cd i = 23 by rw [e_c]; decide), if_neg (show ¬ (cd i = 25 ∨ cd i = 26) by rw [e_c]; decide), if_pos e_c]) (by omega) (by omega) hl (by omega) (fun _ _ => rfl) OKw.nil
          · rw [up2_ne (by omega)]; exact A76b
          · rw [up2_ne (by omega)]; exact A77
          · rw [up2_ne (by omega)]; exact A78
        exact absurd (by decide) c_120
      exact absurd rfl c_85
    exact absurd c_21 (by decide)
  · refine Vw.aload_n (de_aload_0 (B 0 _ rfl)) 0 rfl (n := 1) rfl ?_
    refine Vw.aload_n (de_aload_0 (B 1 _ rfl)) 0 rfl (n := 2) rfl ?_
    refine Vw.getI (de_getfield (B 2 _ rfl) (B 3 _ rfl) (B 4 _ rfl)) fl_X5_40 rfl hx.rd.k (n := 5) rfl ?_
    rw [rm_6, hx.ord]
    refine Vw.if_eq (tgt := 13) (n := 8) (de_if_eq (B 5 _ rfl) (B 6 _ rfl) (B 7 _ rfl)) rfl rfl (fun c_5 => ?_) (fun c_5 => ?_)
    · exact absurd c_5 (by decide)
    obtain ⟨z8, hz8⟩ := hx.str 0 (by decide)
    refine Vw.ldcS (i := 0) (de_ldc (B 8 _ rfl) (B 9 _ rfl)) rfl (by decide) hz8.2.1 (n := 10) rfl ?_
    refine Vw.goto_ (n := 15) (de_goto_ (B 10 _ rfl) (B 11 _ rfl) (B 12 _ rfl)) rfl ?_
    refine Vw.ivi1 (mi' := mX5_listed) (de_invokevirtual (B 15 _ rfl) (B 16 _ rfl) (B 17 _ rfl)) ml_X5_95 mv_X5_listed hx.rd.k (Nat.le_of_ble_eq_true rfl) (n := 18) rfl (k_listed hx hz8 hi ?_)
    rw [w2]
    refine Vw.istore_n (lv2 := [(0, _), (1, _), (2, _)]) (de_istore_2 (B 18 _ rfl)) rfl (by decide) [1, 2, 0] rfl (n := 19) rfl ?_
    refine Vw.iload_n (de_iload_2 (B 19 _ rfl)) 2 rfl (n := 20) rfl ?_
    refine Vw.iconst (v := -1) (de_iconst_m1 (B 20 _ rfl)) rfl (n := 21) rfl ?_
    refine Vw.icmp_ne (tgt := 29) (n := 24) (de_icmp_ne (B 21 _ rfl) (B 22 _ rfl) (B 23 _ rfl)) rfl rfl (fun c_21 => ?_) (fun c_21 => ?_)
    · exact absurd rfl c_21
    refine Vw.aload_n (de_aload_0 (B 24 _ rfl)) 0 rfl (n := 25) rfl ?_
    refine Vw.ivi0 (mi' := mX5_fail) (de_invokevirtual (B 25 _ rfl) (B 26 _ rfl) (B 27 _ rfl)) ml_X5_67 mv_X5_fail hx.rd.k (Nat.le_of_ble_eq_true rfl) (n := 28) rfl (k_fail hx hi ?_)
    exact Vw.zret (de_ireturn (B 28 _ rfl)) rfl rfl ⟨_, rfl, (h0 i _ _ _ _ I (by unfold pOne; rw [if_pos rfl]; unfold pOrder pHead; rw [if_neg v1, if_neg v2, if_neg (fun z => z.elim v3 v4), if_neg v5]) hi FrC.rfl)⟩
