/-! The reader: TESTS of every depth -/
theorem kr_both {E Dm : Nat} {dp : Int32} {X : (Nat → Int32) → (Nat → Int32) → Bool → Nat → Nat → tR tD} (hP : KR mX5_readPlain (E + 6) [.int dp] X Dm true) : KR mX5_readBoth (E + 7) [.int dp] (fun cd vl o => pMany cd opA (fun _ => tAnd) (X cd vl o)) (Dm) true := by
  intro d S I L Q s tp u cd vl nt o i l c f w hx hi hl hci h1 h0
  dsimp only at h1 h0
  have h4 := hx.n4
  refine Vc.of rfl (Nat.le_of_ble_eq_true rfl) ?_
  have B := bs_X5_readBoth
  show Vw mX5_readBoth (d + (E + 7)) 0 0 0 0 (ViQ Q) 0 [(0, .ref (s + 74)), (1, .int dp)] [] S (rm I s (nI i) (nI l) (nI c) f w) L
  have loop : ∀ it, it ≤ 400 → ∀ j l2 dn c2 w2, pMany cd opA (fun _ => tAnd) (X cd vl o) i l = pChain cd opA (fun _ => tAnd) (X cd vl o) (401 - it + 1) j l2 dn → i + 1 + 2 * it ≤ j → j ≤ nt → l2 ≤ 50 → c2 + i ≤ c + j → (∀ x, x < c → w2 x = w x) → WC2 (klO o) w2 c c2 dn Dm → T01 dn → Vw mX5_readBoth (d + (E + 7)) 0 0 0 0 (ViQ Q) 12 [(0, .ref (s + 74)), (1, .int dp), (2, .int (nI it))] [] S (rm I s (nI j) (nI l2) (nI c2) f w2) L := by
    refine loop_up (fun it hit ih => ?_)
    intro j l2 dn c2 w2 eC hij hjn hl2 hcc hw hWC hT1
    have gWC := hWC.1
    have stop : ¬ opA (cd j) = true → Q 1 S (rm I s (nI j) (nI l2) (nI c2) f w2) L := fun hop => h1 j l2 dn c2 w2 (by rw [eC, pChain, if_neg hop]) (by omega) hjn hl2 hcc hw hWC (fun _ => hT1)
    refine Vw.iload_n (de_iload_2 (B 12 _ rfl)) 2 rfl (n := 13) rfl ?_
    refine Vw.sipush (v := 400) (de_sipush (B 13 _ rfl) (B 14 _ rfl) (B 15 _ rfl)) rfl (n := 16) rfl ?_
    refine Vw.icmp_ge (tgt := 67) (n := 19) (de_icmp_ge (B 16 _ rfl) (B 17 _ rfl) (B 18 _ rfl)) rfl rfl (fun c_16 => ?_) (fun c_16 => ?_)
    · exact absurd ((nI_leI (a := 400) (b := it) (by omega) (by omega)).mp c_16) (by omega)
    refine Vw.aload_n (de_aload_0 (B 19 _ rfl)) 0 rfl (n := 20) rfl ?_
    obtain ⟨z20, hz20⟩ := hx.str 9 (by decide)
    refine Vw.ldcS (i := 9) (de_ldc (B 20 _ rfl) (B 21 _ rfl)) rfl (by decide) hz20.2.1 (n := 22) rfl ?_
    refine Vw.ivi1 (mi' := mX5_isWord) (de_invokevirtual (B 22 _ rfl) (B 23 _ rfl) (B 24 _ rfl)) ml_X5_119 mv_X5_isWord hx.rd.k (Nat.le_of_ble_eq_true rfl) (n := 25) rfl (k_isWord (i := j) hx hz20 (by decide) hjn (fun c22 => ?_) (fun c22 => ?_))
    · have hop : opA (cd j) = true := by unfold opA; exact decide_eq_true c22
      have jlt : j < nt := by
        rcases Nat.lt_or_ge j nt with z | z
        · exact z
        · rw [show j = nt by omega, hx.c0] at hop; exact absurd hop (by decide)
      refine Vw.if_eq (tgt := 67) (n := 28) (de_if_eq (B 25 _ rfl) (B 26 _ rfl) (B 27 _ rfl)) rfl rfl (fun c_25 => ?_) (fun c_25 => ?_)
      · exact absurd c_25 (by decide)
      refine Vw.aload_n (de_aload_0 (B 28 _ rfl)) 0 rfl (n := 29) rfl ?_
      refine Vw.dup (de_dup (B 29 _ rfl)) rfl (n := 30) rfl ?_
      refine Vw.getI (de_getfield (B 30 _ rfl) (B 31 _ rfl) (B 32 _ rfl)) fl_X5_48 rfl hx.rd.k (n := 33) rfl ?_
      rw [rm_8]
      refine Vw.iconst (v := 1) (de_iconst_1 (B 33 _ rfl)) rfl (n := 34) rfl ?_
      refine Vw.iadd (de_iadd (B 34 _ rfl)) (n := 35) rfl ?_
      rw [nI_1]
      refine Vw.putI (de_putfield (B 35 _ rfl) (B 36 _ rfl) (B 37 _ rfl)) fl_X5_48 hx.rd.k rfl rfl (n := 38) rfl ?_
      rw [up_8]
      refine Vw.aload_n (de_aload_0 (B 38 _ rfl)) 0 rfl (n := 39) rfl ?_
      refine Vw.iconst (v := 2) (de_iconst_2 (B 39 _ rfl)) rfl (n := 40) rfl ?_
      refine Vw.iconst (v := 0) (de_iconst_0 (B 40 _ rfl)) rfl (n := 41) rfl ?_
      refine Vw.ivi2 (mi' := mX5_emit) (de_invokevirtual (B 41 _ rfl) (B 42 _ rfl) (B 43 _ rfl)) ml_X5_143 mv_X5_emit hx.rd.k (Nat.le_of_ble_eq_true rfl) (n := 44) rfl (k_emit (op := 2) (k := 0) hx (by decide) (by decide) (show c2 < 400 by omega) ?_)
      refine Vw.istore_n (lv2 := [(0, _), (1, _), (2, _), (3, _)]) (de_istore_3 (B 44 _ rfl)) rfl (by decide) [1, 2, 3, 0] rfl (n := 45) rfl ?_
      refine Vw.aload_n (de_aload_0 (B 45 _ rfl)) 0 rfl (n := 46) rfl ?_
      refine Vw.iload_n (de_iload_1 (B 46 _ rfl)) 1 rfl (n := 47) rfl ?_
      refine Vw.ivi1 (mi' := mX5_readPlain) (de_invokevirtual (B 47 _ rfl) (B 48 _ rfl) (B 49 _ rfl)) ml_X5_149 mv_X5_readPlain hx.rd.k (Nat.le_of_ble_eq_true rfl) (n := 50) rfl (hP d S I L _ s tp u cd vl nt o (j + 1) l2 (c2 + 1) f _ hx (by omega) hl2 (by omega) (fun j3 l3 d3 c3 w3 e3 a1 a2 a3 a4 a5 a6 a7 => ?_) (fun e t3 l3 c3 w3 e3 a1 => ?_))
      · refine Vw.if_ne (tgt := 55) (n := 53) (de_if_ne (B 50 _ rfl) (B 51 _ rfl) (B 52 _ rfl)) rfl rfl (fun c_50 => ?_) (fun c_50 => ?_)
        · refine Vw.aload_n (de_aload_0 (B 55 _ rfl)) 0 rfl (n := 56) rfl ?_
          refine Vw.iload_n (de_iload_3 (B 56 _ rfl)) 3 rfl (n := 57) rfl ?_
          refine Vw.iconst (v := 2) (de_iconst_2 (B 57 _ rfl)) rfl (n := 58) rfl ?_
          refine Vw.ivv2 (mi' := mX5_landHere) (de_invokevirtual (B 58 _ rfl) (B 59 _ rfl) (B 60 _ rfl)) ml_X5_146 mv_X5_landHere hx.rd.k (Nat.le_of_ble_eq_true rfl) (n := 61) rfl (k_landHere (b := c2) (op := 2) (n := c3) hx (by decide) (by omega) (by omega) ?_)
          refine Vw.iinc (v := nI (it + 1)) (lv2 := [(0, _), (1, _), (2, _), (3, _)]) (de_iinc (B 61 _ rfl) (B 62 _ rfl) (B 63 _ rfl)) 2 rfl (nI_1 it) (by decide) [1, 2, 0, 3] rfl (n := 64) rfl ?_
          refine Vw.goto_ (n := 12) (de_goto_ (B 64 _ rfl) (B 65 _ rfl) (B 66 _ rfl)) rfl ?_
          refine Vw.lvs (lv2 := [(0, _), (1, _), (2, _)]) [0, 1, 2] rfl ?_
          have gA := a6.1
          have eN : pMany cd opA (fun _ => tAnd) (X cd vl o) i l = pChain cd opA (fun _ => tAnd) (X cd vl o) (401 - (it + 1) + 1) j3 l3 (tAnd dn d3) := by
            rw [eC, pChain, if_pos hop, e3, show 401 - it = 401 - (it + 1) + 1 by omega]
          refine ih (by omega) j3 l3 _ c3 _ eN (by omega) a2 a3 (by omega) (fun x hx2 => by rw [upK_lt (by omega), a5 x (by omega), upK_lt (by omega)]; exact hw x hx2) ?_ (T01_and (a7 rfl))
          exact WC2_and (hWC.of (fun x g1 g2 => by rw [upK_lt g2, a5 x (by omega), upK_lt g2])) (upK_s _ _ _) (a6.of (fun x g1 g2 => upK_n (by omega))) (by omega) hT1
        exact absurd c_50 (by decide)
      · refine Vw.if_ne (tgt := 55) (n := 53) (de_if_ne (B 50 _ rfl) (B 51 _ rfl) (B 52 _ rfl)) rfl rfl (fun c_50 => ?_) (fun c_50 => ?_)
        · exact absurd c_50 (by decide)
        refine Vw.iconst (v := 0) (de_iconst_0 (B 53 _ rfl)) rfl (n := 54) rfl ?_
        exact Vw.zret (de_ireturn (B 54 _ rfl)) rfl rfl ⟨_, rfl, (h0 e t3 l3 c3 w3 (by rw [eC, pChain, if_pos hop, e3]) a1)⟩
    · refine Vw.if_eq (tgt := 67) (n := 28) (de_if_eq (B 25 _ rfl) (B 26 _ rfl) (B 27 _ rfl)) rfl rfl (fun c_25 => ?_) (fun c_25 => ?_)
      · refine Vw.iconst (v := 1) (de_iconst_1 (B 67 _ rfl)) rfl (n := 68) rfl ?_
        exact Vw.zret (de_ireturn (B 68 _ rfl)) rfl rfl ⟨_, rfl, (stop (fun z => c22 (by unfold opA at z; exact of_decide_eq_true z)))⟩
      exact absurd c_25 (by decide)
  refine Vw.aload_n (de_aload_0 (B 0 _ rfl)) 0 rfl (n := 1) rfl ?_
  refine Vw.iload_n (de_iload_1 (B 1 _ rfl)) 1 rfl (n := 2) rfl ?_
  refine Vw.ivi1 (mi' := mX5_readPlain) (de_invokevirtual (B 2 _ rfl) (B 3 _ rfl) (B 4 _ rfl)) ml_X5_149 mv_X5_readPlain hx.rd.k (Nat.le_of_ble_eq_true rfl) (n := 5) rfl (hP d S I L _ s tp u cd vl nt o i l c f w hx hi hl hci (fun j2 l2 d2 c2 w2 e2 a1 a2 a3 a4 a5 a6 a7 => ?_) (fun e t2 l2 c2 w2 e2 a1 => ?_))
  · refine Vw.if_ne (tgt := 10) (n := 8) (de_if_ne (B 5 _ rfl) (B 6 _ rfl) (B 7 _ rfl)) rfl rfl (fun c_5 => ?_) (fun c_5 => ?_)
    · refine Vw.iconst (v := 0) (de_iconst_0 (B 10 _ rfl)) rfl (n := 11) rfl ?_
      refine Vw.istore_n (lv2 := [(0, _), (1, _), (2, _)]) (de_istore_2 (B 11 _ rfl)) rfl (by decide) [1, 2, 0] rfl (n := 12) rfl ?_
      exact loop 0 (Nat.zero_le _) j2 l2 d2 c2 w2 (by unfold pMany; rw [e2]) (by omega) a2 a3 a4 a5 a6 (a7 rfl)
    exact absurd c_5 (by decide)
  · refine Vw.if_ne (tgt := 10) (n := 8) (de_if_ne (B 5 _ rfl) (B 6 _ rfl) (B 7 _ rfl)) rfl rfl (fun c_5 => ?_) (fun c_5 => ?_)
    · exact absurd c_5 (by decide)
    refine Vw.iconst (v := 0) (de_iconst_0 (B 8 _ rfl)) rfl (n := 9) rfl ?_
    exact Vw.zret (de_ireturn (B 9 _ rfl)) rfl rfl ⟨_, rfl, (h0 e t2 l2 c2 w2 (by unfold pMany; rw [e2]) a1)⟩
theorem kr_test {E Dm : Nat} {dp : Int32} {X : (Nat → Int32) → (Nat → Int32) → Bool → Nat → Nat → tR tD} (hP : KR mX5_readBoth (E + 6) [.int dp] X Dm true) : KR mX5_readTest (E + 7) [.int dp] (fun cd vl o => pMany cd opO (fun _ => tOr) (X cd vl o)) (Dm) true := by
  intro d S I L Q s tp u cd vl nt o i l c f w hx hi hl hci h1 h0
  dsimp only at h1 h0
  have h4 := hx.n4
  refine Vc.of rfl (Nat.le_of_ble_eq_true rfl) ?_
  have B := bs_X5_readTest
  show Vw mX5_readTest (d + (E + 7)) 0 0 0 0 (ViQ Q) 0 [(0, .ref (s + 74)), (1, .int dp)] [] S (rm I s (nI i) (nI l) (nI c) f w) L
  have loop : ∀ it, it ≤ 400 → ∀ j l2 dn c2 w2, pMany cd opO (fun _ => tOr) (X cd vl o) i l = pChain cd opO (fun _ => tOr) (X cd vl o) (401 - it + 1) j l2 dn → i + 1 + 2 * it ≤ j → j ≤ nt → l2 ≤ 50 → c2 + i ≤ c + j → (∀ x, x < c → w2 x = w x) → WC2 (klO o) w2 c c2 dn Dm → T01 dn → Vw mX5_readTest (d + (E + 7)) 0 0 0 0 (ViQ Q) 12 [(0, .ref (s + 74)), (1, .int dp), (2, .int (nI it))] [] S (rm I s (nI j) (nI l2) (nI c2) f w2) L := by
    refine loop_up (fun it hit ih => ?_)
    intro j l2 dn c2 w2 eC hij hjn hl2 hcc hw hWC hT1
    have gWC := hWC.1
    have stop : ¬ opO (cd j) = true → Q 1 S (rm I s (nI j) (nI l2) (nI c2) f w2) L := fun hop => h1 j l2 dn c2 w2 (by rw [eC, pChain, if_neg hop]) (by omega) hjn hl2 hcc hw hWC (fun _ => hT1)
    refine Vw.iload_n (de_iload_2 (B 12 _ rfl)) 2 rfl (n := 13) rfl ?_
    refine Vw.sipush (v := 400) (de_sipush (B 13 _ rfl) (B 14 _ rfl) (B 15 _ rfl)) rfl (n := 16) rfl ?_
    refine Vw.icmp_ge (tgt := 67) (n := 19) (de_icmp_ge (B 16 _ rfl) (B 17 _ rfl) (B 18 _ rfl)) rfl rfl (fun c_16 => ?_) (fun c_16 => ?_)
    · exact absurd ((nI_leI (a := 400) (b := it) (by omega) (by omega)).mp c_16) (by omega)
    refine Vw.aload_n (de_aload_0 (B 19 _ rfl)) 0 rfl (n := 20) rfl ?_
    obtain ⟨z20, hz20⟩ := hx.str 10 (by decide)
    refine Vw.ldcS (i := 10) (de_ldc (B 20 _ rfl) (B 21 _ rfl)) rfl (by decide) hz20.2.1 (n := 22) rfl ?_
    refine Vw.ivi1 (mi' := mX5_isWord) (de_invokevirtual (B 22 _ rfl) (B 23 _ rfl) (B 24 _ rfl)) ml_X5_119 mv_X5_isWord hx.rd.k (Nat.le_of_ble_eq_true rfl) (n := 25) rfl (k_isWord (i := j) hx hz20 (by decide) hjn (fun c22 => ?_) (fun c22 => ?_))
    · have hop : opO (cd j) = true := by unfold opO; exact decide_eq_true c22
      have jlt : j < nt := by
        rcases Nat.lt_or_ge j nt with z | z
        · exact z
        · rw [show j = nt by omega, hx.c0] at hop; exact absurd hop (by decide)
      refine Vw.if_eq (tgt := 67) (n := 28) (de_if_eq (B 25 _ rfl) (B 26 _ rfl) (B 27 _ rfl)) rfl rfl (fun c_25 => ?_) (fun c_25 => ?_)
      · exact absurd c_25 (by decide)
      refine Vw.aload_n (de_aload_0 (B 28 _ rfl)) 0 rfl (n := 29) rfl ?_
      refine Vw.dup (de_dup (B 29 _ rfl)) rfl (n := 30) rfl ?_
      refine Vw.getI (de_getfield (B 30 _ rfl) (B 31 _ rfl) (B 32 _ rfl)) fl_X5_48 rfl hx.rd.k (n := 33) rfl ?_
      rw [rm_8]
      refine Vw.iconst (v := 1) (de_iconst_1 (B 33 _ rfl)) rfl (n := 34) rfl ?_
      refine Vw.iadd (de_iadd (B 34 _ rfl)) (n := 35) rfl ?_
      rw [nI_1]
      refine Vw.putI (de_putfield (B 35 _ rfl) (B 36 _ rfl) (B 37 _ rfl)) fl_X5_48 hx.rd.k rfl rfl (n := 38) rfl ?_
      rw [up_8]
      refine Vw.aload_n (de_aload_0 (B 38 _ rfl)) 0 rfl (n := 39) rfl ?_
      refine Vw.iconst (v := 3) (de_iconst_3 (B 39 _ rfl)) rfl (n := 40) rfl ?_
      refine Vw.iconst (v := 0) (de_iconst_0 (B 40 _ rfl)) rfl (n := 41) rfl ?_
      refine Vw.ivi2 (mi' := mX5_emit) (de_invokevirtual (B 41 _ rfl) (B 42 _ rfl) (B 43 _ rfl)) ml_X5_143 mv_X5_emit hx.rd.k (Nat.le_of_ble_eq_true rfl) (n := 44) rfl (k_emit (op := 3) (k := 0) hx (by decide) (by decide) (show c2 < 400 by omega) ?_)
      refine Vw.istore_n (lv2 := [(0, _), (1, _), (2, _), (3, _)]) (de_istore_3 (B 44 _ rfl)) rfl (by decide) [1, 2, 3, 0] rfl (n := 45) rfl ?_
      refine Vw.aload_n (de_aload_0 (B 45 _ rfl)) 0 rfl (n := 46) rfl ?_
      refine Vw.iload_n (de_iload_1 (B 46 _ rfl)) 1 rfl (n := 47) rfl ?_
      refine Vw.ivi1 (mi' := mX5_readBoth) (de_invokevirtual (B 47 _ rfl) (B 48 _ rfl) (B 49 _ rfl)) ml_X5_138 mv_X5_readBoth hx.rd.k (Nat.le_of_ble_eq_true rfl) (n := 50) rfl (hP d S I L _ s tp u cd vl nt o (j + 1) l2 (c2 + 1) f _ hx (by omega) hl2 (by omega) (fun j3 l3 d3 c3 w3 e3 a1 a2 a3 a4 a5 a6 a7 => ?_) (fun e t3 l3 c3 w3 e3 a1 => ?_))
      · refine Vw.if_ne (tgt := 55) (n := 53) (de_if_ne (B 50 _ rfl) (B 51 _ rfl) (B 52 _ rfl)) rfl rfl (fun c_50 => ?_) (fun c_50 => ?_)
        · refine Vw.aload_n (de_aload_0 (B 55 _ rfl)) 0 rfl (n := 56) rfl ?_
          refine Vw.iload_n (de_iload_3 (B 56 _ rfl)) 3 rfl (n := 57) rfl ?_
          refine Vw.iconst (v := 3) (de_iconst_3 (B 57 _ rfl)) rfl (n := 58) rfl ?_
          refine Vw.ivv2 (mi' := mX5_landHere) (de_invokevirtual (B 58 _ rfl) (B 59 _ rfl) (B 60 _ rfl)) ml_X5_146 mv_X5_landHere hx.rd.k (Nat.le_of_ble_eq_true rfl) (n := 61) rfl (k_landHere (b := c2) (op := 3) (n := c3) hx (by decide) (by omega) (by omega) ?_)
          refine Vw.iinc (v := nI (it + 1)) (lv2 := [(0, _), (1, _), (2, _), (3, _)]) (de_iinc (B 61 _ rfl) (B 62 _ rfl) (B 63 _ rfl)) 2 rfl (nI_1 it) (by decide) [1, 2, 0, 3] rfl (n := 64) rfl ?_
          refine Vw.goto_ (n := 12) (de_goto_ (B 64 _ rfl) (B 65 _ rfl) (B 66 _ rfl)) rfl ?_
          refine Vw.lvs (lv2 := [(0, _), (1, _), (2, _)]) [0, 1, 2] rfl ?_
          have gA := a6.1
          have eN : pMany cd opO (fun _ => tOr) (X cd vl o) i l = pChain cd opO (fun _ => tOr) (X cd vl o) (401 - (it + 1) + 1) j3 l3 (tOr dn d3) := by
            rw [eC, pChain, if_pos hop, e3, show 401 - it = 401 - (it + 1) + 1 by omega]
          refine ih (by omega) j3 l3 _ c3 _ eN (by omega) a2 a3 (by omega) (fun x hx2 => by rw [upK_lt (by omega), a5 x (by omega), upK_lt (by omega)]; exact hw x hx2) ?_ (T01_or (a7 rfl))
          exact WC2_or (hWC.of (fun x g1 g2 => by rw [upK_lt g2, a5 x (by omega), upK_lt g2])) (upK_s _ _ _) (a6.of (fun x g1 g2 => upK_n (by omega))) (by omega) hT1
        exact absurd c_50 (by decide)
      · refine Vw.if_ne (tgt := 55) (n := 53) (de_if_ne (B 50 _ rfl) (B 51 _ rfl) (B 52 _ rfl)) rfl rfl (fun c_50 => ?_) (fun c_50 => ?_)
        · exact absurd c_50 (by decide)
        refine Vw.iconst (v := 0) (de_iconst_0 (B 53 _ rfl)) rfl (n := 54) rfl ?_
        exact Vw.zret (de_ireturn (B 54 _ rfl)) rfl rfl ⟨_, rfl, (h0 e t3 l3 c3 w3 (by rw [eC, pChain, if_pos hop, e3]) a1)⟩
    · refine Vw.if_eq (tgt := 67) (n := 28) (de_if_eq (B 25 _ rfl) (B 26 _ rfl) (B 27 _ rfl)) rfl rfl (fun c_25 => ?_) (fun c_25 => ?_)
      · refine Vw.iconst (v := 1) (de_iconst_1 (B 67 _ rfl)) rfl (n := 68) rfl ?_
        exact Vw.zret (de_ireturn (B 68 _ rfl)) rfl rfl ⟨_, rfl, (stop (fun z => c22 (by unfold opO at z; exact of_decide_eq_true z)))⟩
      exact absurd c_25 (by decide)
  refine Vw.aload_n (de_aload_0 (B 0 _ rfl)) 0 rfl (n := 1) rfl ?_
  refine Vw.iload_n (de_iload_1 (B 1 _ rfl)) 1 rfl (n := 2) rfl ?_
  refine Vw.ivi1 (mi' := mX5_readBoth) (de_invokevirtual (B 2 _ rfl) (B 3 _ rfl) (B 4 _ rfl)) ml_X5_138 mv_X5_readBoth hx.rd.k (Nat.le_of_ble_eq_true rfl) (n := 5) rfl (hP d S I L _ s tp u cd vl nt o i l c f w hx hi hl hci (fun j2 l2 d2 c2 w2 e2 a1 a2 a3 a4 a5 a6 a7 => ?_) (fun e t2 l2 c2 w2 e2 a1 => ?_))
  · refine Vw.if_ne (tgt := 10) (n := 8) (de_if_ne (B 5 _ rfl) (B 6 _ rfl) (B 7 _ rfl)) rfl rfl (fun c_5 => ?_) (fun c_5 => ?_)
    · refine Vw.iconst (v := 0) (de_iconst_0 (B 10 _ rfl)) rfl (n := 11) rfl ?_
      refine Vw.istore_n (lv2 := [(0, _), (1, _), (2, _)]) (de_istore_2 (B 11 _ rfl)) rfl (by decide) [1, 2, 0] rfl (n := 12) rfl ?_
      exact loop 0 (Nat.zero_le _) j2 l2 d2 c2 w2 (by unfold pMany; rw [e2]) (by omega) a2 a3 a4 a5 a6 (a7 rfl)
    exact absurd c_5 (by decide)
  · refine Vw.if_ne (tgt := 10) (n := 8) (de_if_ne (B 5 _ rfl) (B 6 _ rfl) (B 7 _ rfl)) rfl rfl (fun c_5 => ?_) (fun c_5 => ?_)
    · exact absurd c_5 (by decide)
    refine Vw.iconst (v := 0) (de_iconst_0 (B 8 _ rfl)) rfl (n := 9) rfl ?_
    exact Vw.zret (de_ireturn (B 9 _ rfl)) rfl rfl ⟨_, rfl, (h0 e t2 l2 c2 w2 (by unfold pMany; rw [e2]) a1)⟩
theorem kr_testM : ∀ m, m ≤ 8 → KR mX5_readTest (4 * m + 4 + 7) [.int (nI (8 - m))] (fun cd vl o => pTest cd vl o m) (2 * m + 4) true
  | 0, _ => kr_test (kr_both (E := 3) (kr_plain0 (E := 2) (kr_sumM 0 (by omega))))
  | m + 1, h => by
    have ih := kr_testM m (by omega)
    have hs := (kr_sumM (m + 1) h).le (show 3 * (m + 1) + 3 + 5 ≤ (4 * m + 6) + 6 by omega)
    rw [show 8 - m = 8 - (m + 1) + 1 by omega] at ih
    have ih2 : KR mX5_readTest (4 * m + 6 + 5) [.int (nI (8 - (m + 1) + 1))] (fun cd vl o => pTest cd vl o m) (2 * (m + 1) + 3 + 1) true := by
      intro d S I L Q s tp u cd vl nt o i l c f w hx hi hl hci h1 h0
      exact ih d S I L Q s tp u cd vl nt o i l c f w hx hi hl hci (fun j l2 dn c2 w2 e a1 a2 a3 a4 a5 a6 a7 => h1 j l2 dn c2 w2 e a1 a2 a3 a4 a5 (a6.up (by omega)) a7) h0
    exact kr_test (E := 4 * m + 8) (kr_both (E := 4 * m + 7) (kr_plainS (E := 4 * m + 6) hs (by omega) ih2))
