/-! The reader: TERMS and SUMS -/
theorem tOp_5 (v w : Int64) : tOp 143 v w = arOp 5 v w := by unfold tOp arOp; rw [if_pos rfl, if_pos rfl]
theorem tOp_6 (v w : Int64) : tOp 145 v w = arOp 6 v w := by unfold tOp arOp; rw [if_neg (by decide), if_pos rfl, if_neg (by decide), if_pos rfl]
theorem tOp_7 (v w : Int64) : tOp 142 v w = arOp 7 v w := by unfold tOp arOp; rw [if_neg (by decide), if_neg (by decide), if_pos rfl, if_neg (by decide), if_neg (by decide), if_pos rfl]
theorem tOp_8 (v w : Int64) : tOp 147 v w = arOp 8 v w := by
  unfold tOp arOp
  rw [if_neg (by decide), if_neg (by decide), if_neg (by decide), if_neg (show ¬ 8 = 5 by decide), if_neg (show ¬ 8 = 6 by decide), if_neg (show ¬ 8 = 7 by decide), if_neg (show ¬ 8 = 10 by decide), if_neg (show ¬ 8 = 11 by decide), if_neg (show ¬ 8 = 12 by decide)]
  by_cases h : w = 0
  · rw [if_pos h, if_pos h]
  · rw [if_neg h, if_neg h, if_pos rfl, if_pos rfl]
theorem tOp_9 (v w : Int64) : tOp 137 v w = arOp 9 v w := by
  unfold tOp arOp
  rw [if_neg (by decide), if_neg (by decide), if_neg (by decide), if_neg (show ¬ 9 = 5 by decide), if_neg (show ¬ 9 = 6 by decide), if_neg (show ¬ 9 = 7 by decide), if_neg (show ¬ 9 = 10 by decide), if_neg (show ¬ 9 = 11 by decide), if_neg (show ¬ 9 = 12 by decide)]
  by_cases h : w = 0
  · rw [if_pos h, if_pos h]
  · rw [if_neg h, if_neg h, if_neg (show ¬ (137 : Int32) = 147 by decide), if_neg (show ¬ 9 = 8 by decide)]
theorem tBin_ar {c : Int32} {o : Nat} {d e : tD} (h : ∀ v w, tOp c v w = arOp o v w) : ∀ nv, tBin c d e nv = match d nv with
    | none => none
    | some v => match e nv with
      | none => none
      | some w => arOp o v w := by
  intro nv
  unfold tBin
  cases d nv with
  | none => rfl
  | some v => cases e nv with
    | none => rfl
    | some w => exact h v w
theorem KR.up {mi : vM} {D : Nat} {av : List Value} {P : (Nat → Int32) → (Nat → Int32) → Bool → Nat → Nat → tR tD} {Dm : Nat} {tst : Bool} (h : KR mi D av P Dm tst) : KR mi (D + 1) av P Dm tst := by
  intro d S I L Q s tp u cd vl nt o i l c f w
  have g := h (d + 1) S I L Q s tp u cd vl nt o i l c f w
  rw [show d + 1 + D = d + (D + 1) by omega] at g
  exact g
theorem upK_lt {K : Nat → Int32} {j x : Nat} {v : Int32} (h : x < j) : upK K j v x = K x := upK_n (by omega)
theorem c_X5_isProductSign {d : Nat} {S : vS} {I : vI} {L : vL} {Q : Int32 → vS → vI → vL → Prop} {x : Int32} (h1 : x = 42 ∨ x = 47 ∨ x = 37 → Q 1 S I L) (h0 : ¬ (x = 42 ∨ x = 47 ∨ x = 37) → Q 0 S I L) : Vc mX5_isProductSign d 0 0 [.int x] S I L (ViQ Q) := by
  refine Vc.of rfl (Nat.le_of_ble_eq_true rfl) ?_
  have B := bs_X5_isProductSign
  show Vw mX5_isProductSign d 0 0 0 0 (ViQ Q) 0 [(0, .int x)] [] S I L
  refine Vw.iload_n (de_iload_0 (B 0 _ rfl)) 0 rfl (n := 1) rfl ?_
  refine Vw.bipush (v := 42) (de_bipush (B 1 _ rfl) (B 2 _ rfl)) rfl (n := 3) rfl ?_
  refine Vw.icmp_eq (tgt := 18) (n := 6) (de_icmp_eq (B 3 _ rfl) (B 4 _ rfl) (B 5 _ rfl)) rfl rfl (fun c_3 => ?_) (fun c_3 => ?_)
  · refine Vw.iconst (v := 1) (de_iconst_1 (B 18 _ rfl)) rfl (n := 19) rfl ?_
    refine Vw.goto_ (n := 23) (de_goto_ (B 19 _ rfl) (B 20 _ rfl) (B 21 _ rfl)) rfl ?_
    exact Vw.zret (de_ireturn (B 23 _ rfl)) rfl rfl ⟨_, rfl, (by first | exact h1 (Or.inl c_3) | exact h1 (Or.inr (Or.inl c_9)) | exact h1 (Or.inr (Or.inr c_15)) | exact h0 (fun z => z.elim c_3 (fun z => z.elim c_9 c_15)))⟩
  refine Vw.iload_n (de_iload_0 (B 6 _ rfl)) 0 rfl (n := 7) rfl ?_
  refine Vw.bipush (v := 47) (de_bipush (B 7 _ rfl) (B 8 _ rfl)) rfl (n := 9) rfl ?_
  refine Vw.icmp_eq (tgt := 18) (n := 12) (de_icmp_eq (B 9 _ rfl) (B 10 _ rfl) (B 11 _ rfl)) rfl rfl (fun c_9 => ?_) (fun c_9 => ?_)
  · refine Vw.iconst (v := 1) (de_iconst_1 (B 18 _ rfl)) rfl (n := 19) rfl ?_
    refine Vw.goto_ (n := 23) (de_goto_ (B 19 _ rfl) (B 20 _ rfl) (B 21 _ rfl)) rfl ?_
    exact Vw.zret (de_ireturn (B 23 _ rfl)) rfl rfl ⟨_, rfl, (by first | exact h1 (Or.inl c_3) | exact h1 (Or.inr (Or.inl c_9)) | exact h1 (Or.inr (Or.inr c_15)) | exact h0 (fun z => z.elim c_3 (fun z => z.elim c_9 c_15)))⟩
  refine Vw.iload_n (de_iload_0 (B 12 _ rfl)) 0 rfl (n := 13) rfl ?_
  refine Vw.bipush (v := 37) (de_bipush (B 13 _ rfl) (B 14 _ rfl)) rfl (n := 15) rfl ?_
  refine Vw.icmp_ne (tgt := 22) (n := 18) (de_icmp_ne (B 15 _ rfl) (B 16 _ rfl) (B 17 _ rfl)) rfl rfl (fun c_15 => ?_) (fun c_15 => ?_)
  · refine Vw.iconst (v := 0) (de_iconst_0 (B 22 _ rfl)) rfl (n := 23) rfl ?_
    exact Vw.zret (de_ireturn (B 23 _ rfl)) rfl rfl ⟨_, rfl, (by first | exact h1 (Or.inl c_3) | exact h1 (Or.inr (Or.inl c_9)) | exact h1 (Or.inr (Or.inr c_15)) | exact h0 (fun z => z.elim c_3 (fun z => z.elim c_9 c_15)))⟩
  refine Vw.iconst (v := 1) (de_iconst_1 (B 18 _ rfl)) rfl (n := 19) rfl ?_
  refine Vw.goto_ (n := 23) (de_goto_ (B 19 _ rfl) (B 20 _ rfl) (B 21 _ rfl)) rfl ?_
  exact Vw.zret (de_ireturn (B 23 _ rfl)) rfl rfl ⟨_, rfl, (by first | exact h1 (Or.inl c_3) | exact h1 (Or.inr (Or.inl c_9)) | exact h1 (Or.inr (Or.inr c_15)) | exact h0 (fun z => z.elim c_3 (fun z => z.elim c_9 c_15)))⟩
theorem kr_term {E Dm : Nat} {dp : Int32} {X : (Nat → Int32) → (Nat → Int32) → Bool → Nat → Nat → tR tD} (hP : KR mX5_readPart E [.int dp] X Dm false) : KR mX5_readTerm (E + 1) [.int dp] (fun cd vl o => pMany cd opT tBin (X cd vl o)) (Dm + 1) false := by
  intro d S I L Q s tp u cd vl nt o i l c f w hx hi hl hci h1 h0
  dsimp only at h1 h0
  have h4 := hx.n4
  refine Vc.of rfl (Nat.le_of_ble_eq_true rfl) ?_
  have B := bs_X5_readTerm
  show Vw mX5_readTerm (d + (E + 1)) 0 0 0 0 (ViQ Q) 0 [(0, .ref (s + 74)), (1, .int dp)] [] S (rm I s (nI i) (nI l) (nI c) f w) L
  have loop : ∀ it, it ≤ 400 → ∀ j l2 dn c2 w2, pMany cd opT tBin (X cd vl o) i l = pChain cd opT tBin (X cd vl o) (401 - it + 1) j l2 dn → i + 1 + 2 * it ≤ j → j ≤ nt → l2 ≤ 50 → c2 + i ≤ c + j → (∀ x, x < c → w2 x = w x) → WC2 (klO o) w2 c c2 dn (Dm + 1) → Vw mX5_readTerm (d + (E + 1)) 0 0 0 0 (ViQ Q) 12 [(0, .ref (s + 74)), (1, .int dp), (2, .int (nI it))] [] S (rm I s (nI j) (nI l2) (nI c2) f w2) L := by
    refine loop_up (fun it hit ih => ?_)
    intro j l2 dn c2 w2 eC hij hjn hl2 hcc hw hWC
    have hit4 : it < 400 := by omega
    have gWC := hWC.1
    have stop : ¬ opT (cd j) = true → Q 1 S (rm I s (nI j) (nI l2) (nI c2) f w2) L := fun hop => h1 j l2 dn c2 w2 (by rw [eC, pChain, if_neg hop]) (by omega) hjn hl2 hcc hw hWC (fun z => by cases z)
    have jlt : opT (cd j) = true → j < nt := fun hop => by
      rcases Nat.lt_or_ge j nt with z | z
      · exact z
      · rw [show j = nt by omega, hx.c0] at hop; exact absurd hop (by decide)
    refine Vw.iload_n (de_iload_2 (B 12 _ rfl)) 2 rfl (n := 13) rfl ?_
    refine Vw.sipush (v := 400) (de_sipush (B 13 _ rfl) (B 14 _ rfl) (B 15 _ rfl)) rfl (n := 16) rfl ?_
    refine Vw.icmp_ge (tgt := 100) (n := 19) (de_icmp_ge (B 16 _ rfl) (B 17 _ rfl) (B 18 _ rfl)) rfl rfl (fun c_16 => ?_) (fun c_16 => ?_)
    · exact absurd ((nI_leI (a := 400) (b := it) (by omega) (by omega)).mp c_16) (by omega)
    refine Vw.aload_n (de_aload_0 (B 19 _ rfl)) 0 rfl (n := 20) rfl ?_
    refine Vw.getR (de_getfield (B 20 _ rfl) (B 21 _ rfl) (B 22 _ rfl)) fl_X5_20 rfl hx.rd.k hx.rd.f1 (n := 23) rfl ?_
    refine Vw.aload_n (de_aload_0 (B 23 _ rfl)) 0 rfl (n := 24) rfl ?_
    refine Vw.getI (de_getfield (B 24 _ rfl) (B 25 _ rfl) (B 26 _ rfl)) fl_X5_48 rfl hx.rd.k (n := 27) rfl ?_
    rw [rm_8]
    refine Vw.iald (de_iaload (B 27 _ rfl)) hx.rd.r1 (vIx_n (k := j) rfl (by omega)) (n := 28) rfl ?_
    rw [rm_kd]
    refine Vw.isi1 (mi' := mX5_isProductSign) (de_invokestatic (B 28 _ rfl) (B 29 _ rfl) (B 30 _ rfl)) ml_X5_165 ms_X5_isProductSign (Nat.le_of_ble_eq_true rfl) (n := 31) rfl (c_X5_isProductSign (fun c28 => ?_) (fun c28 => ?_))
    · have hop : opT (cd j) = true := by
        unfold opT
        rcases c28 with z | z | z
        · rw [show cd j = 142 from (hx.sign (i := j) hjn (c := 42) (by decide)).mp z]; rfl
        · rw [show cd j = 147 from (hx.sign (i := j) hjn (c := 47) (by decide)).mp z]; rfl
        · rw [show cd j = 137 from (hx.sign (i := j) hjn (c := 37) (by decide)).mp z]; rfl
      refine Vw.if_eq (tgt := 100) (n := 34) (de_if_eq (B 31 _ rfl) (B 32 _ rfl) (B 33 _ rfl)) rfl rfl (fun c_31 => ?_) (fun c_31 => ?_)
      · exact absurd c_31 (by decide)
      refine Vw.aload_n (de_aload_0 (B 34 _ rfl)) 0 rfl (n := 35) rfl ?_
      refine Vw.getR (de_getfield (B 35 _ rfl) (B 36 _ rfl) (B 37 _ rfl)) fl_X5_20 rfl hx.rd.k hx.rd.f1 (n := 38) rfl ?_
      refine Vw.aload_n (de_aload_0 (B 38 _ rfl)) 0 rfl (n := 39) rfl ?_
      refine Vw.getI (de_getfield (B 39 _ rfl) (B 40 _ rfl) (B 41 _ rfl)) fl_X5_48 rfl hx.rd.k (n := 42) rfl ?_
      rw [rm_8]
      refine Vw.iald (de_iaload (B 42 _ rfl)) hx.rd.r1 (vIx_n (k := j) rfl (by omega)) (n := 43) rfl ?_
      rw [rm_kd]
      refine Vw.istore_n (lv2 := [(0, _), (1, _), (2, _), (3, _)]) (de_istore_3 (B 43 _ rfl)) rfl (by decide) [1, 2, 3, 0] rfl (n := 44) rfl ?_
      refine Vw.aload_n (de_aload_0 (B 44 _ rfl)) 0 rfl (n := 45) rfl ?_
      refine Vw.dup (de_dup (B 45 _ rfl)) rfl (n := 46) rfl ?_
      refine Vw.getI (de_getfield (B 46 _ rfl) (B 47 _ rfl) (B 48 _ rfl)) fl_X5_48 rfl hx.rd.k (n := 49) rfl ?_
      rw [rm_8]
      refine Vw.iconst (v := 1) (de_iconst_1 (B 49 _ rfl)) rfl (n := 50) rfl ?_
      refine Vw.iadd (de_iadd (B 50 _ rfl)) (n := 51) rfl ?_
      rw [nI_1]
      refine Vw.putI (de_putfield (B 51 _ rfl) (B 52 _ rfl) (B 53 _ rfl)) fl_X5_48 hx.rd.k rfl rfl (n := 54) rfl ?_
      rw [up_8]
      refine Vw.aload_n (de_aload_0 (B 54 _ rfl)) 0 rfl (n := 55) rfl ?_
      refine Vw.iload_n (de_iload_1 (B 55 _ rfl)) 1 rfl (n := 56) rfl ?_
      refine Vw.ivi1 (mi' := mX5_readPart) (de_invokevirtual (B 56 _ rfl) (B 57 _ rfl) (B 58 _ rfl)) ml_X5_162 mv_X5_readPart hx.rd.k (Nat.le_of_ble_eq_true rfl) (n := 59) rfl (hP d S I L _ s tp u cd vl nt o (j + 1) l2 c2 f w2 hx (by have := jlt hop; omega) hl2 (by omega) (fun j3 l3 d3 c3 w3 e3 a1 a2 a3 a4 a5 a6 a7 => ?_) (fun e t3 l3 c3 w3 e3 a1 => ?_))
      · refine Vw.if_ne (tgt := 64) (n := 62) (de_if_ne (B 59 _ rfl) (B 60 _ rfl) (B 61 _ rfl)) rfl rfl (fun c_59 => ?_) (fun c_59 => ?_)
        · refine Vw.aload_n (de_aload_0 (B 64 _ rfl)) 0 rfl (n := 65) rfl ?_
          refine Vw.iload_n (de_iload_3 (B 65 _ rfl)) 3 rfl (n := 66) rfl ?_
          refine Vw.bipush (v := 42) (de_bipush (B 66 _ rfl) (B 67 _ rfl)) rfl (n := 68) rfl ?_
          refine Vw.icmp_ne (tgt := 76) (n := 71) (de_icmp_ne (B 68 _ rfl) (B 69 _ rfl) (B 70 _ rfl)) rfl rfl (fun c_68 => ?_) (fun c_68 => ?_)
          · refine Vw.iload_n (de_iload_3 (B 76 _ rfl)) 3 rfl (n := 77) rfl ?_
            refine Vw.bipush (v := 47) (de_bipush (B 77 _ rfl) (B 78 _ rfl)) rfl (n := 79) rfl ?_
            refine Vw.icmp_ne (tgt := 87) (n := 82) (de_icmp_ne (B 79 _ rfl) (B 80 _ rfl) (B 81 _ rfl)) rfl rfl (fun c_79 => ?_) (fun c_79 => ?_)
            · refine Vw.bipush (v := 9) (de_bipush (B 87 _ rfl) (B 88 _ rfl)) rfl (n := 89) rfl ?_
              refine Vw.iconst (v := 0) (de_iconst_0 (B 89 _ rfl)) rfl (n := 90) rfl ?_
              refine Vw.ivi2 (mi' := mX5_emit) (de_invokevirtual (B 90 _ rfl) (B 91 _ rfl) (B 92 _ rfl)) ml_X5_143 mv_X5_emit hx.rd.k (Nat.le_of_ble_eq_true rfl) (n := 93) rfl (k_emit (op := 9) (k := 0) hx (by decide) (by decide) (show c3 < 400 by omega) ?_)
              refine Vw.pop (de_pop (B 93 _ rfl)) rfl (n := 94) rfl ?_
              refine Vw.iinc (v := nI (it + 1)) (lv2 := [(0, _), (1, _), (2, _), (3, _)]) (de_iinc (B 94 _ rfl) (B 95 _ rfl) (B 96 _ rfl)) 2 rfl (nI_1 it) (by decide) [1, 2, 0, 3] rfl (n := 97) rfl ?_
              refine Vw.goto_ (n := 12) (de_goto_ (B 97 _ rfl) (B 98 _ rfl) (B 99 _ rfl)) rfl ?_
              refine Vw.lvs (lv2 := [(0, _), (1, _), (2, _)]) [0, 1, 2] rfl ?_
              first
              | (have gA := a6.1
                 have eN : pMany cd opT tBin (X cd vl o) i l = pChain cd opT tBin (X cd vl o) (401 - (it + 1) + 1) j3 l3 (tBin (cd j) dn d3) := by
                   rw [eC, pChain, if_pos hop, e3, show 401 - it = 401 - (it + 1) + 1 by omega]
                 refine ih (by omega) j3 l3 _ (c3 + 1) _ eN (by omega) a2 a3 (by omega) (fun x hx2 => by rw [upK_lt (by omega), a5 x (by omega)]; exact hw x hx2) ?_
                 refine WC2_two (o := 7) (hWC.of (fun x g1 g2 => by rw [upK_lt (by omega), a5 x g2])) (a6.of (fun x g1 g2 => upK_lt g2)) (upK_s _ _ _) (by decide) (by decide) (tBin_ar (fun v w => ?_))
                 rw [show cd j = 142 from (hx.sign (i := j) hjn (c := 42) (by decide)).mp c_68]
                 exact tOp_7 v w)
              | (have gA := a6.1
                 have eN : pMany cd opT tBin (X cd vl o) i l = pChain cd opT tBin (X cd vl o) (401 - (it + 1) + 1) j3 l3 (tBin (cd j) dn d3) := by
                   rw [eC, pChain, if_pos hop, e3, show 401 - it = 401 - (it + 1) + 1 by omega]
                 refine ih (by omega) j3 l3 _ (c3 + 1) _ eN (by omega) a2 a3 (by omega) (fun x hx2 => by rw [upK_lt (by omega), a5 x (by omega)]; exact hw x hx2) ?_
                 refine WC2_two (o := 8) (hWC.of (fun x g1 g2 => by rw [upK_lt (by omega), a5 x g2])) (a6.of (fun x g1 g2 => upK_lt g2)) (upK_s _ _ _) (by decide) (by decide) (tBin_ar (fun v w => ?_))
                 rw [show cd j = 147 from (hx.sign (i := j) hjn (c := 47) (by decide)).mp c_79]
                 exact tOp_8 v w)
              | (have gA := a6.1
                 have eN : pMany cd opT tBin (X cd vl o) i l = pChain cd opT tBin (X cd vl o) (401 - (it + 1) + 1) j3 l3 (tBin (cd j) dn d3) := by
                   rw [eC, pChain, if_pos hop, e3, show 401 - it = 401 - (it + 1) + 1 by omega]
                 refine ih (by omega) j3 l3 _ (c3 + 1) _ eN (by omega) a2 a3 (by omega) (fun x hx2 => by rw [upK_lt (by omega), a5 x (by omega)]; exact hw x hx2) ?_
                 refine WC2_two (o := 9) (hWC.of (fun x g1 g2 => by rw [upK_lt (by omega), a5 x g2])) (a6.of (fun x g1 g2 => upK_lt g2)) (upK_s _ _ _) (by decide) (by decide) (tBin_ar (fun v w => ?_))
                 rw [show cd j = 137 from (hx.sign (i := j) hjn (c := 37) (by decide)).mp ((c28.resolve_left c_68).resolve_left c_79)]
                 exact tOp_9 v w)
            refine Vw.bipush (v := 8) (de_bipush (B 82 _ rfl) (B 83 _ rfl)) rfl (n := 84) rfl ?_
            refine Vw.goto_ (n := 89) (de_goto_ (B 84 _ rfl) (B 85 _ rfl) (B 86 _ rfl)) rfl ?_
            refine Vw.iconst (v := 0) (de_iconst_0 (B 89 _ rfl)) rfl (n := 90) rfl ?_
            refine Vw.ivi2 (mi' := mX5_emit) (de_invokevirtual (B 90 _ rfl) (B 91 _ rfl) (B 92 _ rfl)) ml_X5_143 mv_X5_emit hx.rd.k (Nat.le_of_ble_eq_true rfl) (n := 93) rfl (k_emit (op := 8) (k := 0) hx (by decide) (by decide) (show c3 < 400 by omega) ?_)
            refine Vw.pop (de_pop (B 93 _ rfl)) rfl (n := 94) rfl ?_
            refine Vw.iinc (v := nI (it + 1)) (lv2 := [(0, _), (1, _), (2, _), (3, _)]) (de_iinc (B 94 _ rfl) (B 95 _ rfl) (B 96 _ rfl)) 2 rfl (nI_1 it) (by decide) [1, 2, 0, 3] rfl (n := 97) rfl ?_
            refine Vw.goto_ (n := 12) (de_goto_ (B 97 _ rfl) (B 98 _ rfl) (B 99 _ rfl)) rfl ?_
            refine Vw.lvs (lv2 := [(0, _), (1, _), (2, _)]) [0, 1, 2] rfl ?_
            first
            | (have gA := a6.1
               have eN : pMany cd opT tBin (X cd vl o) i l = pChain cd opT tBin (X cd vl o) (401 - (it + 1) + 1) j3 l3 (tBin (cd j) dn d3) := by
                 rw [eC, pChain, if_pos hop, e3, show 401 - it = 401 - (it + 1) + 1 by omega]
               refine ih (by omega) j3 l3 _ (c3 + 1) _ eN (by omega) a2 a3 (by omega) (fun x hx2 => by rw [upK_lt (by omega), a5 x (by omega)]; exact hw x hx2) ?_
               refine WC2_two (o := 7) (hWC.of (fun x g1 g2 => by rw [upK_lt (by omega), a5 x g2])) (a6.of (fun x g1 g2 => upK_lt g2)) (upK_s _ _ _) (by decide) (by decide) (tBin_ar (fun v w => ?_))
               rw [show cd j = 142 from (hx.sign (i := j) hjn (c := 42) (by decide)).mp c_68]
               exact tOp_7 v w)
            | (have gA := a6.1
               have eN : pMany cd opT tBin (X cd vl o) i l = pChain cd opT tBin (X cd vl o) (401 - (it + 1) + 1) j3 l3 (tBin (cd j) dn d3) := by
                 rw [eC, pChain, if_pos hop, e3, show 401 - it = 401 - (it + 1) + 1 by omega]
               refine ih (by omega) j3 l3 _ (c3 + 1) _ eN (by omega) a2 a3 (by omega) (fun x hx2 => by rw [upK_lt (by omega), a5 x (by omega)]; exact hw x hx2) ?_
               refine WC2_two (o := 8) (hWC.of (fun x g1 g2 => by rw [upK_lt (by omega), a5 x g2])) (a6.of (fun x g1 g2 => upK_lt g2)) (upK_s _ _ _) (by decide) (by decide) (tBin_ar (fun v w => ?_))
               rw [show cd j = 147 from (hx.sign (i := j) hjn (c := 47) (by decide)).mp c_79]
               exact tOp_8 v w)
            | (have gA := a6.1
               have eN : pMany cd opT tBin (X cd vl o) i l = pChain cd opT tBin (X cd vl o) (401 - (it + 1) + 1) j3 l3 (tBin (cd j) dn d3) := by
                 rw [eC, pChain, if_pos hop, e3, show 401 - it = 401 - (it + 1) + 1 by omega]
               refine ih (by omega) j3 l3 _ (c3 + 1) _ eN (by omega) a2 a3 (by omega) (fun x hx2 => by rw [upK_lt (by omega), a5 x (by omega)]; exact hw x hx2) ?_
               refine WC2_two (o := 9) (hWC.of (fun x g1 g2 => by rw [upK_lt (by omega), a5 x g2])) (a6.of (fun x g1 g2 => upK_lt g2)) (upK_s _ _ _) (by decide) (by decide) (tBin_ar (fun v w => ?_))
               rw [show cd j = 137 from (hx.sign (i := j) hjn (c := 37) (by decide)).mp ((c28.resolve_left c_68).resolve_left c_79)]
               exact tOp_9 v w)
          refine Vw.bipush (v := 7) (de_bipush (B 71 _ rfl) (B 72 _ rfl)) rfl (n := 73) rfl ?_
          refine Vw.goto_ (n := 89) (de_goto_ (B 73 _ rfl) (B 74 _ rfl) (B 75 _ rfl)) rfl ?_
          refine Vw.iconst (v := 0) (de_iconst_0 (B 89 _ rfl)) rfl (n := 90) rfl ?_
          refine Vw.ivi2 (mi' := mX5_emit) (de_invokevirtual (B 90 _ rfl) (B 91 _ rfl) (B 92 _ rfl)) ml_X5_143 mv_X5_emit hx.rd.k (Nat.le_of_ble_eq_true rfl) (n := 93) rfl (k_emit (op := 7) (k := 0) hx (by decide) (by decide) (show c3 < 400 by omega) ?_)
          refine Vw.pop (de_pop (B 93 _ rfl)) rfl (n := 94) rfl ?_
          refine Vw.iinc (v := nI (it + 1)) (lv2 := [(0, _), (1, _), (2, _), (3, _)]) (de_iinc (B 94 _ rfl) (B 95 _ rfl) (B 96 _ rfl)) 2 rfl (nI_1 it) (by decide) [1, 2, 0, 3] rfl (n := 97) rfl ?_
          refine Vw.goto_ (n := 12) (de_goto_ (B 97 _ rfl) (B 98 _ rfl) (B 99 _ rfl)) rfl ?_
          refine Vw.lvs (lv2 := [(0, _), (1, _), (2, _)]) [0, 1, 2] rfl ?_
          first
          | (have gA := a6.1
             have eN : pMany cd opT tBin (X cd vl o) i l = pChain cd opT tBin (X cd vl o) (401 - (it + 1) + 1) j3 l3 (tBin (cd j) dn d3) := by
               rw [eC, pChain, if_pos hop, e3, show 401 - it = 401 - (it + 1) + 1 by omega]
             refine ih (by omega) j3 l3 _ (c3 + 1) _ eN (by omega) a2 a3 (by omega) (fun x hx2 => by rw [upK_lt (by omega), a5 x (by omega)]; exact hw x hx2) ?_
             refine WC2_two (o := 7) (hWC.of (fun x g1 g2 => by rw [upK_lt (by omega), a5 x g2])) (a6.of (fun x g1 g2 => upK_lt g2)) (upK_s _ _ _) (by decide) (by decide) (tBin_ar (fun v w => ?_))
             rw [show cd j = 142 from (hx.sign (i := j) hjn (c := 42) (by decide)).mp c_68]
             exact tOp_7 v w)
          | (have gA := a6.1
             have eN : pMany cd opT tBin (X cd vl o) i l = pChain cd opT tBin (X cd vl o) (401 - (it + 1) + 1) j3 l3 (tBin (cd j) dn d3) := by
               rw [eC, pChain, if_pos hop, e3, show 401 - it = 401 - (it + 1) + 1 by omega]
             refine ih (by omega) j3 l3 _ (c3 + 1) _ eN (by omega) a2 a3 (by omega) (fun x hx2 => by rw [upK_lt (by omega), a5 x (by omega)]; exact hw x hx2) ?_
             refine WC2_two (o := 8) (hWC.of (fun x g1 g2 => by rw [upK_lt (by omega), a5 x g2])) (a6.of (fun x g1 g2 => upK_lt g2)) (upK_s _ _ _) (by decide) (by decide) (tBin_ar (fun v w => ?_))
             rw [show cd j = 147 from (hx.sign (i := j) hjn (c := 47) (by decide)).mp c_79]
             exact tOp_8 v w)
          | (have gA := a6.1
             have eN : pMany cd opT tBin (X cd vl o) i l = pChain cd opT tBin (X cd vl o) (401 - (it + 1) + 1) j3 l3 (tBin (cd j) dn d3) := by
               rw [eC, pChain, if_pos hop, e3, show 401 - it = 401 - (it + 1) + 1 by omega]
             refine ih (by omega) j3 l3 _ (c3 + 1) _ eN (by omega) a2 a3 (by omega) (fun x hx2 => by rw [upK_lt (by omega), a5 x (by omega)]; exact hw x hx2) ?_
             refine WC2_two (o := 9) (hWC.of (fun x g1 g2 => by rw [upK_lt (by omega), a5 x g2])) (a6.of (fun x g1 g2 => upK_lt g2)) (upK_s _ _ _) (by decide) (by decide) (tBin_ar (fun v w => ?_))
             rw [show cd j = 137 from (hx.sign (i := j) hjn (c := 37) (by decide)).mp ((c28.resolve_left c_68).resolve_left c_79)]
             exact tOp_9 v w)
        exact absurd c_59 (by decide)
      · refine Vw.if_ne (tgt := 64) (n := 62) (de_if_ne (B 59 _ rfl) (B 60 _ rfl) (B 61 _ rfl)) rfl rfl (fun c_59 => ?_) (fun c_59 => ?_)
        · exact absurd c_59 (by decide)
        refine Vw.iconst (v := 0) (de_iconst_0 (B 62 _ rfl)) rfl (n := 63) rfl ?_
        exact Vw.zret (de_ireturn (B 63 _ rfl)) rfl rfl ⟨_, rfl, (h0 e t3 l3 c3 w3 (by rw [eC, pChain, if_pos hop, e3]) a1)⟩
    · refine Vw.if_eq (tgt := 100) (n := 34) (de_if_eq (B 31 _ rfl) (B 32 _ rfl) (B 33 _ rfl)) rfl rfl (fun c_31 => ?_) (fun c_31 => ?_)
      · refine Vw.iconst (v := 1) (de_iconst_1 (B 100 _ rfl)) rfl (n := 101) rfl ?_
        exact Vw.zret (de_ireturn (B 101 _ rfl)) rfl rfl ⟨_, rfl, (stop (fun hop => c28 (by
        unfold opT at hop
        simp only [Bool.or_eq_true, decide_eq_true_eq] at hop
        rcases hop with (z | z) | z
        · exact Or.inl ((hx.sign (i := j) hjn (c := 42) (by decide)).mpr z)
        · exact Or.inr (Or.inl ((hx.sign (i := j) hjn (c := 47) (by decide)).mpr z))
        · exact Or.inr (Or.inr ((hx.sign (i := j) hjn (c := 37) (by decide)).mpr z)))))⟩
      exact absurd c_31 (by decide)
  refine Vw.aload_n (de_aload_0 (B 0 _ rfl)) 0 rfl (n := 1) rfl ?_
  refine Vw.iload_n (de_iload_1 (B 1 _ rfl)) 1 rfl (n := 2) rfl ?_
  refine Vw.ivi1 (mi' := mX5_readPart) (de_invokevirtual (B 2 _ rfl) (B 3 _ rfl) (B 4 _ rfl)) ml_X5_162 mv_X5_readPart hx.rd.k (Nat.le_of_ble_eq_true rfl) (n := 5) rfl (hP d S I L _ s tp u cd vl nt o i l c f w hx hi hl hci (fun j2 l2 d2 c2 w2 e2 a1 a2 a3 a4 a5 a6 a7 => ?_) (fun e t2 l2 c2 w2 e2 a1 => ?_))
  · refine Vw.if_ne (tgt := 10) (n := 8) (de_if_ne (B 5 _ rfl) (B 6 _ rfl) (B 7 _ rfl)) rfl rfl (fun c_5 => ?_) (fun c_5 => ?_)
    · refine Vw.iconst (v := 0) (de_iconst_0 (B 10 _ rfl)) rfl (n := 11) rfl ?_
      refine Vw.istore_n (lv2 := [(0, _), (1, _), (2, _)]) (de_istore_2 (B 11 _ rfl)) rfl (by decide) [1, 2, 0] rfl (n := 12) rfl ?_
      exact loop 0 (Nat.zero_le _) j2 l2 d2 c2 w2 (by unfold pMany; rw [e2]) (by omega) a2 a3 a4 a5 (a6.up (Nat.le_succ _))
    exact absurd c_5 (by decide)
  · refine Vw.if_ne (tgt := 10) (n := 8) (de_if_ne (B 5 _ rfl) (B 6 _ rfl) (B 7 _ rfl)) rfl rfl (fun c_5 => ?_) (fun c_5 => ?_)
    · exact absurd c_5 (by decide)
    refine Vw.iconst (v := 0) (de_iconst_0 (B 8 _ rfl)) rfl (n := 9) rfl ?_
    exact Vw.zret (de_ireturn (B 9 _ rfl)) rfl rfl ⟨_, rfl, (h0 e t2 l2 c2 w2 (by unfold pMany; rw [e2]) a1)⟩
theorem kr_sum {E Dm : Nat} {dp : Int32} {X : (Nat → Int32) → (Nat → Int32) → Bool → Nat → Nat → tR tD} (hP : KR mX5_readTerm E [.int dp] X Dm false) : KR mX5_readSum (E + 1) [.int dp] (fun cd vl o => pMany cd opS tBin (X cd vl o)) (Dm + 1) false := by
  intro d S I L Q s tp u cd vl nt o i l c f w hx hi hl hci h1 h0
  dsimp only at h1 h0
  have h4 := hx.n4
  refine Vc.of rfl (Nat.le_of_ble_eq_true rfl) ?_
  have B := bs_X5_readSum
  show Vw mX5_readSum (d + (E + 1)) 0 0 0 0 (ViQ Q) 0 [(0, .ref (s + 74)), (1, .int dp)] [] S (rm I s (nI i) (nI l) (nI c) f w) L
  have loop : ∀ it, it ≤ 400 → ∀ j l2 dn c2 w2, pMany cd opS tBin (X cd vl o) i l = pChain cd opS tBin (X cd vl o) (401 - it + 1) j l2 dn → i + 1 + 2 * it ≤ j → j ≤ nt → l2 ≤ 50 → c2 + i ≤ c + j → (∀ x, x < c → w2 x = w x) → WC2 (klO o) w2 c c2 dn (Dm + 1) → Vw mX5_readSum (d + (E + 1)) 0 0 0 0 (ViQ Q) 12 [(0, .ref (s + 74)), (1, .int dp), (2, .int (nI it))] [] S (rm I s (nI j) (nI l2) (nI c2) f w2) L := by
    refine loop_up (fun it hit ih => ?_)
    intro j l2 dn c2 w2 eC hij hjn hl2 hcc hw hWC
    have hit4 : it < 400 := by omega
    have gWC := hWC.1
    have stop : ¬ opS (cd j) = true → Q 1 S (rm I s (nI j) (nI l2) (nI c2) f w2) L := fun hop => h1 j l2 dn c2 w2 (by rw [eC, pChain, if_neg hop]) (by omega) hjn hl2 hcc hw hWC (fun z => by cases z)
    have jlt : opS (cd j) = true → j < nt := fun hop => by
      rcases Nat.lt_or_ge j nt with z | z
      · exact z
      · rw [show j = nt by omega, hx.c0] at hop; exact absurd hop (by decide)
    refine Vw.iload_n (de_iload_2 (B 12 _ rfl)) 2 rfl (n := 13) rfl ?_
    refine Vw.sipush (v := 400) (de_sipush (B 13 _ rfl) (B 14 _ rfl) (B 15 _ rfl)) rfl (n := 16) rfl ?_
    refine Vw.icmp_ge (tgt := 101) (n := 19) (de_icmp_ge (B 16 _ rfl) (B 17 _ rfl) (B 18 _ rfl)) rfl rfl (fun c_16 => ?_) (fun c_16 => ?_)
    · exact absurd ((nI_leI (a := 400) (b := it) (by omega) (by omega)).mp c_16) (by omega)
    refine Vw.aload_n (de_aload_0 (B 19 _ rfl)) 0 rfl (n := 20) rfl ?_
    refine Vw.getR (de_getfield (B 20 _ rfl) (B 21 _ rfl) (B 22 _ rfl)) fl_X5_20 rfl hx.rd.k hx.rd.f1 (n := 23) rfl ?_
    refine Vw.aload_n (de_aload_0 (B 23 _ rfl)) 0 rfl (n := 24) rfl ?_
    refine Vw.getI (de_getfield (B 24 _ rfl) (B 25 _ rfl) (B 26 _ rfl)) fl_X5_48 rfl hx.rd.k (n := 27) rfl ?_
    rw [rm_8]
    refine Vw.iald (de_iaload (B 27 _ rfl)) hx.rd.r1 (vIx_n (k := j) rfl (by omega)) (n := 28) rfl ?_
    rw [rm_kd]
    refine Vw.bipush (v := 43) (de_bipush (B 28 _ rfl) (B 29 _ rfl)) rfl (n := 30) rfl ?_
    refine Vw.icmp_eq (tgt := 47) (n := 33) (de_icmp_eq (B 30 _ rfl) (B 31 _ rfl) (B 32 _ rfl)) rfl rfl (fun c_30 => ?_) (fun c_30 => ?_)
    · have hop : opS (cd j) = true := by
        unfold opS
        first
        | (rw [show cd j = 143 from (hx.sign (i := j) hjn (c := 43) (by decide)).mp c_30]; rfl)
        | (rw [show cd j = 145 from (hx.sign (i := j) hjn (c := 45) (by decide)).mp c_44]; rfl)
      refine Vw.aload_n (de_aload_0 (B 47 _ rfl)) 0 rfl (n := 48) rfl ?_
      refine Vw.getR (de_getfield (B 48 _ rfl) (B 49 _ rfl) (B 50 _ rfl)) fl_X5_20 rfl hx.rd.k hx.rd.f1 (n := 51) rfl ?_
      refine Vw.aload_n (de_aload_0 (B 51 _ rfl)) 0 rfl (n := 52) rfl ?_
      refine Vw.getI (de_getfield (B 52 _ rfl) (B 53 _ rfl) (B 54 _ rfl)) fl_X5_48 rfl hx.rd.k (n := 55) rfl ?_
      rw [rm_8]
      refine Vw.iald (de_iaload (B 55 _ rfl)) hx.rd.r1 (vIx_n (k := j) rfl (by omega)) (n := 56) rfl ?_
      rw [rm_kd]
      refine Vw.istore_n (lv2 := [(0, _), (1, _), (2, _), (3, _)]) (de_istore_3 (B 56 _ rfl)) rfl (by decide) [1, 2, 3, 0] rfl (n := 57) rfl ?_
      refine Vw.aload_n (de_aload_0 (B 57 _ rfl)) 0 rfl (n := 58) rfl ?_
      refine Vw.dup (de_dup (B 58 _ rfl)) rfl (n := 59) rfl ?_
      skip
      refine Vw.getI (de_getfield (B 59 _ rfl) (B 60 _ rfl) (B 61 _ rfl)) fl_X5_48 rfl hx.rd.k (n := 62) rfl ?_
      skip
      refine Vw.iconst (v := 1) (de_iconst_1 (B 62 _ rfl)) rfl (n := 63) rfl ?_
      refine Vw.iadd (de_iadd (B 63 _ rfl)) (n := 64) rfl ?_
      rw [rm_8, nI_1]
      refine Vw.putI (de_putfield (B 64 _ rfl) (B 65 _ rfl) (B 66 _ rfl)) fl_X5_48 hx.rd.k rfl rfl (n := 67) rfl ?_
      rw [up_8]
      refine Vw.aload_n (de_aload_0 (B 67 _ rfl)) 0 rfl (n := 68) rfl ?_
      refine Vw.iload_n (de_iload_1 (B 68 _ rfl)) 1 rfl (n := 69) rfl ?_
      refine Vw.ivi1 (mi' := mX5_readTerm) (de_invokevirtual (B 69 _ rfl) (B 70 _ rfl) (B 71 _ rfl)) ml_X5_159 mv_X5_readTerm hx.rd.k (Nat.le_of_ble_eq_true rfl) (n := 72) rfl (hP d S I L _ s tp u cd vl nt o (j + 1) l2 c2 f w2 hx (by have := jlt hop; omega) hl2 (by omega) (fun j3 l3 d3 c3 w3 e3 a1 a2 a3 a4 a5 a6 a7 => ?_) (fun e t3 l3 c3 w3 e3 a1 => ?_))
      · refine Vw.if_ne (tgt := 77) (n := 75) (de_if_ne (B 72 _ rfl) (B 73 _ rfl) (B 74 _ rfl)) rfl rfl (fun c_72 => ?_) (fun c_72 => ?_)
        · refine Vw.aload_n (de_aload_0 (B 77 _ rfl)) 0 rfl (n := 78) rfl ?_
          refine Vw.iload_n (de_iload_3 (B 78 _ rfl)) 3 rfl (n := 79) rfl ?_
          refine Vw.bipush (v := 43) (de_bipush (B 79 _ rfl) (B 80 _ rfl)) rfl (n := 81) rfl ?_
          refine Vw.icmp_ne (tgt := 88) (n := 84) (de_icmp_ne (B 81 _ rfl) (B 82 _ rfl) (B 83 _ rfl)) rfl rfl (fun c_81 => ?_) (fun c_81 => ?_)
          · refine Vw.bipush (v := 6) (de_bipush (B 88 _ rfl) (B 89 _ rfl)) rfl (n := 90) rfl ?_
            refine Vw.iconst (v := 0) (de_iconst_0 (B 90 _ rfl)) rfl (n := 91) rfl ?_
            refine Vw.ivi2 (mi' := mX5_emit) (de_invokevirtual (B 91 _ rfl) (B 92 _ rfl) (B 93 _ rfl)) ml_X5_143 mv_X5_emit hx.rd.k (Nat.le_of_ble_eq_true rfl) (n := 94) rfl (k_emit (op := 6) (k := 0) hx (by decide) (by decide) (show c3 < 400 by omega) ?_)
            refine Vw.pop (de_pop (B 94 _ rfl)) rfl (n := 95) rfl ?_
            refine Vw.iinc (v := nI (it + 1)) (lv2 := [(0, _), (1, _), (2, _), (3, _)]) (de_iinc (B 95 _ rfl) (B 96 _ rfl) (B 97 _ rfl)) 2 rfl (nI_1 it) (by decide) [1, 2, 0, 3] rfl (n := 98) rfl ?_
            refine Vw.goto_ (n := 12) (de_goto_ (B 98 _ rfl) (B 99 _ rfl) (B 100 _ rfl)) rfl ?_
            refine Vw.lvs (lv2 := [(0, _), (1, _), (2, _)]) [0, 1, 2] rfl ?_
            first
            | exact absurd c_30 c_81
            | (have gA := a6.1
               have eN : pMany cd opS tBin (X cd vl o) i l = pChain cd opS tBin (X cd vl o) (401 - (it + 1) + 1) j3 l3 (tBin (cd j) dn d3) := by
                 rw [eC, pChain, if_pos hop, e3, show 401 - it = 401 - (it + 1) + 1 by omega]
               refine ih (by omega) j3 l3 _ (c3 + 1) _ eN (by omega) a2 a3 (by omega) (fun x hx2 => by rw [upK_lt (by omega), a5 x (by omega)]; exact hw x hx2) ?_
               refine WC2_two (o := 5) (hWC.of (fun x g1 g2 => by rw [upK_lt (by omega), a5 x g2])) (a6.of (fun x g1 g2 => upK_lt g2)) (upK_s _ _ _) (by decide) (by decide) (tBin_ar (fun v w => ?_))
               rw [show cd j = 143 from (hx.sign (i := j) hjn (c := 43) (by decide)).mp c_81]
               exact tOp_5 v w)
            | (have gA := a6.1
               have eN : pMany cd opS tBin (X cd vl o) i l = pChain cd opS tBin (X cd vl o) (401 - (it + 1) + 1) j3 l3 (tBin (cd j) dn d3) := by
                 rw [eC, pChain, if_pos hop, e3, show 401 - it = 401 - (it + 1) + 1 by omega]
               refine ih (by omega) j3 l3 _ (c3 + 1) _ eN (by omega) a2 a3 (by omega) (fun x hx2 => by rw [upK_lt (by omega), a5 x (by omega)]; exact hw x hx2) ?_
               refine WC2_two (o := 6) (hWC.of (fun x g1 g2 => by rw [upK_lt (by omega), a5 x g2])) (a6.of (fun x g1 g2 => upK_lt g2)) (upK_s _ _ _) (by decide) (by decide) (tBin_ar (fun v w => ?_))
               rw [show cd j = 145 from (hx.sign (i := j) hjn (c := 45) (by decide)).mp c_44]
               exact tOp_6 v w)
          refine Vw.iconst (v := 5) (de_iconst_5 (B 84 _ rfl)) rfl (n := 85) rfl ?_
          refine Vw.goto_ (n := 90) (de_goto_ (B 85 _ rfl) (B 86 _ rfl) (B 87 _ rfl)) rfl ?_
          refine Vw.iconst (v := 0) (de_iconst_0 (B 90 _ rfl)) rfl (n := 91) rfl ?_
          refine Vw.ivi2 (mi' := mX5_emit) (de_invokevirtual (B 91 _ rfl) (B 92 _ rfl) (B 93 _ rfl)) ml_X5_143 mv_X5_emit hx.rd.k (Nat.le_of_ble_eq_true rfl) (n := 94) rfl (k_emit (op := 5) (k := 0) hx (by decide) (by decide) (show c3 < 400 by omega) ?_)
          refine Vw.pop (de_pop (B 94 _ rfl)) rfl (n := 95) rfl ?_
          refine Vw.iinc (v := nI (it + 1)) (lv2 := [(0, _), (1, _), (2, _), (3, _)]) (de_iinc (B 95 _ rfl) (B 96 _ rfl) (B 97 _ rfl)) 2 rfl (nI_1 it) (by decide) [1, 2, 0, 3] rfl (n := 98) rfl ?_
          refine Vw.goto_ (n := 12) (de_goto_ (B 98 _ rfl) (B 99 _ rfl) (B 100 _ rfl)) rfl ?_
          refine Vw.lvs (lv2 := [(0, _), (1, _), (2, _)]) [0, 1, 2] rfl ?_
          first
          | exact absurd c_30 c_81
          | (have gA := a6.1
             have eN : pMany cd opS tBin (X cd vl o) i l = pChain cd opS tBin (X cd vl o) (401 - (it + 1) + 1) j3 l3 (tBin (cd j) dn d3) := by
               rw [eC, pChain, if_pos hop, e3, show 401 - it = 401 - (it + 1) + 1 by omega]
             refine ih (by omega) j3 l3 _ (c3 + 1) _ eN (by omega) a2 a3 (by omega) (fun x hx2 => by rw [upK_lt (by omega), a5 x (by omega)]; exact hw x hx2) ?_
             refine WC2_two (o := 5) (hWC.of (fun x g1 g2 => by rw [upK_lt (by omega), a5 x g2])) (a6.of (fun x g1 g2 => upK_lt g2)) (upK_s _ _ _) (by decide) (by decide) (tBin_ar (fun v w => ?_))
             rw [show cd j = 143 from (hx.sign (i := j) hjn (c := 43) (by decide)).mp c_81]
             exact tOp_5 v w)
          | (have gA := a6.1
             have eN : pMany cd opS tBin (X cd vl o) i l = pChain cd opS tBin (X cd vl o) (401 - (it + 1) + 1) j3 l3 (tBin (cd j) dn d3) := by
               rw [eC, pChain, if_pos hop, e3, show 401 - it = 401 - (it + 1) + 1 by omega]
             refine ih (by omega) j3 l3 _ (c3 + 1) _ eN (by omega) a2 a3 (by omega) (fun x hx2 => by rw [upK_lt (by omega), a5 x (by omega)]; exact hw x hx2) ?_
             refine WC2_two (o := 6) (hWC.of (fun x g1 g2 => by rw [upK_lt (by omega), a5 x g2])) (a6.of (fun x g1 g2 => upK_lt g2)) (upK_s _ _ _) (by decide) (by decide) (tBin_ar (fun v w => ?_))
             rw [show cd j = 145 from (hx.sign (i := j) hjn (c := 45) (by decide)).mp c_44]
             exact tOp_6 v w)
        exact absurd c_72 (by decide)
      · refine Vw.if_ne (tgt := 77) (n := 75) (de_if_ne (B 72 _ rfl) (B 73 _ rfl) (B 74 _ rfl)) rfl rfl (fun c_72 => ?_) (fun c_72 => ?_)
        · exact absurd c_72 (by decide)
        refine Vw.iconst (v := 0) (de_iconst_0 (B 75 _ rfl)) rfl (n := 76) rfl ?_
        exact Vw.zret (de_ireturn (B 76 _ rfl)) rfl rfl ⟨_, rfl, (h0 e t3 l3 c3 w3 (by rw [eC, pChain, if_pos hop, e3]) a1)⟩
    refine Vw.aload_n (de_aload_0 (B 33 _ rfl)) 0 rfl (n := 34) rfl ?_
    refine Vw.getR (de_getfield (B 34 _ rfl) (B 35 _ rfl) (B 36 _ rfl)) fl_X5_20 rfl hx.rd.k hx.rd.f1 (n := 37) rfl ?_
    refine Vw.aload_n (de_aload_0 (B 37 _ rfl)) 0 rfl (n := 38) rfl ?_
    refine Vw.getI (de_getfield (B 38 _ rfl) (B 39 _ rfl) (B 40 _ rfl)) fl_X5_48 rfl hx.rd.k (n := 41) rfl ?_
    rw [rm_8]
    refine Vw.iald (de_iaload (B 41 _ rfl)) hx.rd.r1 (vIx_n (k := j) rfl (by omega)) (n := 42) rfl ?_
    rw [rm_kd]
    refine Vw.bipush (v := 45) (de_bipush (B 42 _ rfl) (B 43 _ rfl)) rfl (n := 44) rfl ?_
    refine Vw.icmp_ne (tgt := 101) (n := 47) (de_icmp_ne (B 44 _ rfl) (B 45 _ rfl) (B 46 _ rfl)) rfl rfl (fun c_44 => ?_) (fun c_44 => ?_)
    · refine Vw.iconst (v := 1) (de_iconst_1 (B 101 _ rfl)) rfl (n := 102) rfl ?_
      exact Vw.zret (de_ireturn (B 102 _ rfl)) rfl rfl ⟨_, rfl, (stop (fun hop => by
        unfold opS at hop
        simp only [Bool.or_eq_true, decide_eq_true_eq] at hop
        rcases hop with z | z
        · exact c_30 ((hx.sign (i := j) hjn (c := 43) (by decide)).mpr z)
        · exact c_44 ((hx.sign (i := j) hjn (c := 45) (by decide)).mpr z)))⟩
    have hop : opS (cd j) = true := by
      unfold opS
      first
      | (rw [show cd j = 143 from (hx.sign (i := j) hjn (c := 43) (by decide)).mp c_30]; rfl)
      | (rw [show cd j = 145 from (hx.sign (i := j) hjn (c := 45) (by decide)).mp c_44]; rfl)
    refine Vw.aload_n (de_aload_0 (B 47 _ rfl)) 0 rfl (n := 48) rfl ?_
    refine Vw.getR (de_getfield (B 48 _ rfl) (B 49 _ rfl) (B 50 _ rfl)) fl_X5_20 rfl hx.rd.k hx.rd.f1 (n := 51) rfl ?_
    refine Vw.aload_n (de_aload_0 (B 51 _ rfl)) 0 rfl (n := 52) rfl ?_
    refine Vw.getI (de_getfield (B 52 _ rfl) (B 53 _ rfl) (B 54 _ rfl)) fl_X5_48 rfl hx.rd.k (n := 55) rfl ?_
    rw [rm_8]
    refine Vw.iald (de_iaload (B 55 _ rfl)) hx.rd.r1 (vIx_n (k := j) rfl (by omega)) (n := 56) rfl ?_
    rw [rm_kd]
    refine Vw.istore_n (lv2 := [(0, _), (1, _), (2, _), (3, _)]) (de_istore_3 (B 56 _ rfl)) rfl (by decide) [1, 2, 3, 0] rfl (n := 57) rfl ?_
    refine Vw.aload_n (de_aload_0 (B 57 _ rfl)) 0 rfl (n := 58) rfl ?_
    refine Vw.dup (de_dup (B 58 _ rfl)) rfl (n := 59) rfl ?_
    skip
    refine Vw.getI (de_getfield (B 59 _ rfl) (B 60 _ rfl) (B 61 _ rfl)) fl_X5_48 rfl hx.rd.k (n := 62) rfl ?_
    skip
    refine Vw.iconst (v := 1) (de_iconst_1 (B 62 _ rfl)) rfl (n := 63) rfl ?_
    refine Vw.iadd (de_iadd (B 63 _ rfl)) (n := 64) rfl ?_
    rw [rm_8, nI_1]
    refine Vw.putI (de_putfield (B 64 _ rfl) (B 65 _ rfl) (B 66 _ rfl)) fl_X5_48 hx.rd.k rfl rfl (n := 67) rfl ?_
    rw [up_8]
    refine Vw.aload_n (de_aload_0 (B 67 _ rfl)) 0 rfl (n := 68) rfl ?_
    refine Vw.iload_n (de_iload_1 (B 68 _ rfl)) 1 rfl (n := 69) rfl ?_
    refine Vw.ivi1 (mi' := mX5_readTerm) (de_invokevirtual (B 69 _ rfl) (B 70 _ rfl) (B 71 _ rfl)) ml_X5_159 mv_X5_readTerm hx.rd.k (Nat.le_of_ble_eq_true rfl) (n := 72) rfl (hP d S I L _ s tp u cd vl nt o (j + 1) l2 c2 f w2 hx (by have := jlt hop; omega) hl2 (by omega) (fun j3 l3 d3 c3 w3 e3 a1 a2 a3 a4 a5 a6 a7 => ?_) (fun e t3 l3 c3 w3 e3 a1 => ?_))
    · refine Vw.if_ne (tgt := 77) (n := 75) (de_if_ne (B 72 _ rfl) (B 73 _ rfl) (B 74 _ rfl)) rfl rfl (fun c_72 => ?_) (fun c_72 => ?_)
      · refine Vw.aload_n (de_aload_0 (B 77 _ rfl)) 0 rfl (n := 78) rfl ?_
        refine Vw.iload_n (de_iload_3 (B 78 _ rfl)) 3 rfl (n := 79) rfl ?_
        refine Vw.bipush (v := 43) (de_bipush (B 79 _ rfl) (B 80 _ rfl)) rfl (n := 81) rfl ?_
        refine Vw.icmp_ne (tgt := 88) (n := 84) (de_icmp_ne (B 81 _ rfl) (B 82 _ rfl) (B 83 _ rfl)) rfl rfl (fun c_81 => ?_) (fun c_81 => ?_)
        · refine Vw.bipush (v := 6) (de_bipush (B 88 _ rfl) (B 89 _ rfl)) rfl (n := 90) rfl ?_
          refine Vw.iconst (v := 0) (de_iconst_0 (B 90 _ rfl)) rfl (n := 91) rfl ?_
          refine Vw.ivi2 (mi' := mX5_emit) (de_invokevirtual (B 91 _ rfl) (B 92 _ rfl) (B 93 _ rfl)) ml_X5_143 mv_X5_emit hx.rd.k (Nat.le_of_ble_eq_true rfl) (n := 94) rfl (k_emit (op := 6) (k := 0) hx (by decide) (by decide) (show c3 < 400 by omega) ?_)
          refine Vw.pop (de_pop (B 94 _ rfl)) rfl (n := 95) rfl ?_
          refine Vw.iinc (v := nI (it + 1)) (lv2 := [(0, _), (1, _), (2, _), (3, _)]) (de_iinc (B 95 _ rfl) (B 96 _ rfl) (B 97 _ rfl)) 2 rfl (nI_1 it) (by decide) [1, 2, 0, 3] rfl (n := 98) rfl ?_
          refine Vw.goto_ (n := 12) (de_goto_ (B 98 _ rfl) (B 99 _ rfl) (B 100 _ rfl)) rfl ?_
          refine Vw.lvs (lv2 := [(0, _), (1, _), (2, _)]) [0, 1, 2] rfl ?_
          first
          | exact absurd c_30 c_81
          | (have gA := a6.1
             have eN : pMany cd opS tBin (X cd vl o) i l = pChain cd opS tBin (X cd vl o) (401 - (it + 1) + 1) j3 l3 (tBin (cd j) dn d3) := by
               rw [eC, pChain, if_pos hop, e3, show 401 - it = 401 - (it + 1) + 1 by omega]
             refine ih (by omega) j3 l3 _ (c3 + 1) _ eN (by omega) a2 a3 (by omega) (fun x hx2 => by rw [upK_lt (by omega), a5 x (by omega)]; exact hw x hx2) ?_
             refine WC2_two (o := 5) (hWC.of (fun x g1 g2 => by rw [upK_lt (by omega), a5 x g2])) (a6.of (fun x g1 g2 => upK_lt g2)) (upK_s _ _ _) (by decide) (by decide) (tBin_ar (fun v w => ?_))
             rw [show cd j = 143 from (hx.sign (i := j) hjn (c := 43) (by decide)).mp c_81]
             exact tOp_5 v w)
          | (have gA := a6.1
             have eN : pMany cd opS tBin (X cd vl o) i l = pChain cd opS tBin (X cd vl o) (401 - (it + 1) + 1) j3 l3 (tBin (cd j) dn d3) := by
               rw [eC, pChain, if_pos hop, e3, show 401 - it = 401 - (it + 1) + 1 by omega]
             refine ih (by omega) j3 l3 _ (c3 + 1) _ eN (by omega) a2 a3 (by omega) (fun x hx2 => by rw [upK_lt (by omega), a5 x (by omega)]; exact hw x hx2) ?_
             refine WC2_two (o := 6) (hWC.of (fun x g1 g2 => by rw [upK_lt (by omega), a5 x g2])) (a6.of (fun x g1 g2 => upK_lt g2)) (upK_s _ _ _) (by decide) (by decide) (tBin_ar (fun v w => ?_))
             rw [show cd j = 145 from (hx.sign (i := j) hjn (c := 45) (by decide)).mp c_44]
             exact tOp_6 v w)
        refine Vw.iconst (v := 5) (de_iconst_5 (B 84 _ rfl)) rfl (n := 85) rfl ?_
        refine Vw.goto_ (n := 90) (de_goto_ (B 85 _ rfl) (B 86 _ rfl) (B 87 _ rfl)) rfl ?_
        refine Vw.iconst (v := 0) (de_iconst_0 (B 90 _ rfl)) rfl (n := 91) rfl ?_
        refine Vw.ivi2 (mi' := mX5_emit) (de_invokevirtual (B 91 _ rfl) (B 92 _ rfl) (B 93 _ rfl)) ml_X5_143 mv_X5_emit hx.rd.k (Nat.le_of_ble_eq_true rfl) (n := 94) rfl (k_emit (op := 5) (k := 0) hx (by decide) (by decide) (show c3 < 400 by omega) ?_)
        refine Vw.pop (de_pop (B 94 _ rfl)) rfl (n := 95) rfl ?_
        refine Vw.iinc (v := nI (it + 1)) (lv2 := [(0, _), (1, _), (2, _), (3, _)]) (de_iinc (B 95 _ rfl) (B 96 _ rfl) (B 97 _ rfl)) 2 rfl (nI_1 it) (by decide) [1, 2, 0, 3] rfl (n := 98) rfl ?_
        refine Vw.goto_ (n := 12) (de_goto_ (B 98 _ rfl) (B 99 _ rfl) (B 100 _ rfl)) rfl ?_
        refine Vw.lvs (lv2 := [(0, _), (1, _), (2, _)]) [0, 1, 2] rfl ?_
        first
        | exact absurd c_30 c_81
        | (have gA := a6.1
           have eN : pMany cd opS tBin (X cd vl o) i l = pChain cd opS tBin (X cd vl o) (401 - (it + 1) + 1) j3 l3 (tBin (cd j) dn d3) := by
             rw [eC, pChain, if_pos hop, e3, show 401 - it = 401 - (it + 1) + 1 by omega]
           refine ih (by omega) j3 l3 _ (c3 + 1) _ eN (by omega) a2 a3 (by omega) (fun x hx2 => by rw [upK_lt (by omega), a5 x (by omega)]; exact hw x hx2) ?_
           refine WC2_two (o := 5) (hWC.of (fun x g1 g2 => by rw [upK_lt (by omega), a5 x g2])) (a6.of (fun x g1 g2 => upK_lt g2)) (upK_s _ _ _) (by decide) (by decide) (tBin_ar (fun v w => ?_))
           rw [show cd j = 143 from (hx.sign (i := j) hjn (c := 43) (by decide)).mp c_81]
           exact tOp_5 v w)
        | (have gA := a6.1
           have eN : pMany cd opS tBin (X cd vl o) i l = pChain cd opS tBin (X cd vl o) (401 - (it + 1) + 1) j3 l3 (tBin (cd j) dn d3) := by
             rw [eC, pChain, if_pos hop, e3, show 401 - it = 401 - (it + 1) + 1 by omega]
           refine ih (by omega) j3 l3 _ (c3 + 1) _ eN (by omega) a2 a3 (by omega) (fun x hx2 => by rw [upK_lt (by omega), a5 x (by omega)]; exact hw x hx2) ?_
           refine WC2_two (o := 6) (hWC.of (fun x g1 g2 => by rw [upK_lt (by omega), a5 x g2])) (a6.of (fun x g1 g2 => upK_lt g2)) (upK_s _ _ _) (by decide) (by decide) (tBin_ar (fun v w => ?_))
           rw [show cd j = 145 from (hx.sign (i := j) hjn (c := 45) (by decide)).mp c_44]
           exact tOp_6 v w)
      exact absurd c_72 (by decide)
    · refine Vw.if_ne (tgt := 77) (n := 75) (de_if_ne (B 72 _ rfl) (B 73 _ rfl) (B 74 _ rfl)) rfl rfl (fun c_72 => ?_) (fun c_72 => ?_)
      · exact absurd c_72 (by decide)
      refine Vw.iconst (v := 0) (de_iconst_0 (B 75 _ rfl)) rfl (n := 76) rfl ?_
      exact Vw.zret (de_ireturn (B 76 _ rfl)) rfl rfl ⟨_, rfl, (h0 e t3 l3 c3 w3 (by rw [eC, pChain, if_pos hop, e3]) a1)⟩
  refine Vw.aload_n (de_aload_0 (B 0 _ rfl)) 0 rfl (n := 1) rfl ?_
  refine Vw.iload_n (de_iload_1 (B 1 _ rfl)) 1 rfl (n := 2) rfl ?_
  refine Vw.ivi1 (mi' := mX5_readTerm) (de_invokevirtual (B 2 _ rfl) (B 3 _ rfl) (B 4 _ rfl)) ml_X5_159 mv_X5_readTerm hx.rd.k (Nat.le_of_ble_eq_true rfl) (n := 5) rfl (hP d S I L _ s tp u cd vl nt o i l c f w hx hi hl hci (fun j2 l2 d2 c2 w2 e2 a1 a2 a3 a4 a5 a6 a7 => ?_) (fun e t2 l2 c2 w2 e2 a1 => ?_))
  · refine Vw.if_ne (tgt := 10) (n := 8) (de_if_ne (B 5 _ rfl) (B 6 _ rfl) (B 7 _ rfl)) rfl rfl (fun c_5 => ?_) (fun c_5 => ?_)
    · refine Vw.iconst (v := 0) (de_iconst_0 (B 10 _ rfl)) rfl (n := 11) rfl ?_
      refine Vw.istore_n (lv2 := [(0, _), (1, _), (2, _)]) (de_istore_2 (B 11 _ rfl)) rfl (by decide) [1, 2, 0] rfl (n := 12) rfl ?_
      exact loop 0 (Nat.zero_le _) j2 l2 d2 c2 w2 (by unfold pMany; rw [e2]) (by omega) a2 a3 a4 a5 (a6.up (Nat.le_succ _))
    exact absurd c_5 (by decide)
  · refine Vw.if_ne (tgt := 10) (n := 8) (de_if_ne (B 5 _ rfl) (B 6 _ rfl) (B 7 _ rfl)) rfl rfl (fun c_5 => ?_) (fun c_5 => ?_)
    · exact absurd c_5 (by decide)
    refine Vw.iconst (v := 0) (de_iconst_0 (B 8 _ rfl)) rfl (n := 9) rfl ?_
    exact Vw.zret (de_ireturn (B 9 _ rfl)) rfl rfl ⟨_, rfl, (h0 e t2 l2 c2 w2 (by unfold pMany; rw [e2]) a1)⟩
