/-! The reader: TESTS -/
theorem KR.le {mi : vM} {av : List Value} {P : (Nat → Int32) → (Nat → Int32) → Bool → Nat → Nat → tR tD} {Dm : Nat} {tst : Bool} {D D2 : Nat} (h : KR mi D av P Dm tst) (hD : D ≤ D2) : KR mi D2 av P Dm tst := by
  obtain ⟨k, rfl⟩ : ∃ k, D2 = D + k := ⟨D2 - D, by omega⟩
  clear hD
  induction k with
  | zero => exact h
  | succ k ih => exact ih.up
def pInn (cd : Nat → Int32) (f : Nat → Nat → tR tD) (i l : Nat) : tR tD := match f (i + 1) l with
  | .error e => .error e
  | .ok (j, l2, d) => if cd j = 141 then .ok (j + 1, l2, d) else .error j
theorem k_inner0 {d : Nat} {S : vS} {I : vI} {L : vL} {Q : Int32 → vS → vI → vL → Prop} {s tp nt i : Nat} {u cd vl : Nat → Int32} {o : Bool} {l c f : Int32} {w : Nat → Int32}  (hx : RX S I s tp u cd vl nt o) (hi : i ≤ nt) (h : Q 0 S (rm I s (nI i) l c (I (s + 84) i) w) L) : Vc mX5_readInner (d + 1) 0 0 [.ref (s + 74), .int 8] S (rm I s (nI i) l c f w) L (ViQ Q) := by
  refine Vc.of rfl (Nat.le_of_ble_eq_true rfl) ?_
  have B := bs_X5_readInner
  show Vw mX5_readInner (d + 1) 0 0 0 0 (ViQ Q) 0 [(0, .ref (s + 74)), (1, .int 8)] [] S (rm I s (nI i) l c f w) L
  have h4 := hx.n4
  refine Vw.iload_n (de_iload_1 (B 0 _ rfl)) 1 rfl (n := 1) rfl ?_
  refine Vw.bipush (v := 8) (de_bipush (B 1 _ rfl) (B 2 _ rfl)) rfl (n := 3) rfl ?_
  refine Vw.icmp_lt (tgt := 11) (n := 6) (de_icmp_lt (B 3 _ rfl) (B 4 _ rfl) (B 5 _ rfl)) rfl rfl (fun c_3 => ?_) (fun c_3 => ?_)
  · exact absurd c_3 (by decide)
  refine Vw.aload_n (de_aload_0 (B 6 _ rfl)) 0 rfl (n := 7) rfl ?_
  refine Vw.ivi0 (mi' := mX5_fail) (de_invokevirtual (B 7 _ rfl) (B 8 _ rfl) (B 9 _ rfl)) ml_X5_67 mv_X5_fail hx.rd.k (Nat.le_of_ble_eq_true rfl) (n := 10) rfl (k_fail hx hi ?_)
  exact Vw.zret (de_ireturn (B 10 _ rfl)) rfl rfl ⟨_, rfl, h⟩
theorem k_innerS {E Dm dn0 : Nat} {X : (Nat → Int32) → (Nat → Int32) → Bool → Nat → Nat → tR tD} (hd8 : dn0 < 8) (hT : KR mX5_readTest (E + 5) [.int (nI (dn0 + 1))] X Dm true) (d : Nat) (S : vS) (I : vI) (L : vL) (Q : Int32 → vS → vI → vL → Prop) (s tp : Nat) (u cd vl : Nat → Int32) (nt : Nat) (o : Bool) (i l c : Nat) (f : Int32) (w : Nat → Int32) (hx : RX S I s tp u cd vl nt o) (hi : i < nt) (hl : l ≤ 50) (hci : c ≤ i)
    (h1 : ∀ j l2 dn c2 w2, pInn cd (X cd vl o) i l = .ok (j, l2, dn) → i < j → j ≤ nt → l2 ≤ 50 → c2 + i ≤ c + j → (∀ x, x < c → w2 x = w x) → WC2 (klO o) w2 c c2 dn Dm → T01 dn → Q 1 S (rm I s (nI j) (nI l2) (nI c2) f w2) L)
    (h0 : ∀ e t l2 c2 w2, pInn cd (X cd vl o) i l = .error e → e ≤ nt → Q 0 S (rm I s t l2 c2 (I (s + 84) e) w2) L) : Vc mX5_readInner (d + (E + 6)) 0 0 [.ref (s + 74), .int (nI dn0)] S (rm I s (nI i) (nI l) (nI c) f w) L (ViQ Q) := by
  refine Vc.of rfl (Nat.le_of_ble_eq_true rfl) ?_
  have B := bs_X5_readInner
  show Vw mX5_readInner (d + (E + 6)) 0 0 0 0 (ViQ Q) 0 [(0, .ref (s + 74)), (1, .int (nI dn0))] [] S (rm I s (nI i) (nI l) (nI c) f w) L
  have h4 := hx.n4
  refine Vw.iload_n (de_iload_1 (B 0 _ rfl)) 1 rfl (n := 1) rfl ?_
  refine Vw.bipush (v := 8) (de_bipush (B 1 _ rfl) (B 2 _ rfl)) rfl (n := 3) rfl ?_
  refine Vw.icmp_lt (tgt := 11) (n := 6) (de_icmp_lt (B 3 _ rfl) (B 4 _ rfl) (B 5 _ rfl)) rfl rfl (fun c_3 => ?_) (fun c_3 => ?_)
  · refine Vw.aload_n (de_aload_0 (B 11 _ rfl)) 0 rfl (n := 12) rfl ?_
    refine Vw.dup (de_dup (B 12 _ rfl)) rfl (n := 13) rfl ?_
    refine Vw.getI (de_getfield (B 13 _ rfl) (B 14 _ rfl) (B 15 _ rfl)) fl_X5_48 rfl hx.rd.k (n := 16) rfl ?_
    rw [rm_8]
    refine Vw.iconst (v := 1) (de_iconst_1 (B 16 _ rfl)) rfl (n := 17) rfl ?_
    refine Vw.iadd (de_iadd (B 17 _ rfl)) (n := 18) rfl ?_
    rw [nI_1]
    refine Vw.putI (de_putfield (B 18 _ rfl) (B 19 _ rfl) (B 20 _ rfl)) fl_X5_48 hx.rd.k rfl rfl (n := 21) rfl ?_
    rw [up_8]
    refine Vw.aload_n (de_aload_0 (B 21 _ rfl)) 0 rfl (n := 22) rfl ?_
    refine Vw.iload_n (de_iload_1 (B 22 _ rfl)) 1 rfl (n := 23) rfl ?_
    refine Vw.iconst (v := 1) (de_iconst_1 (B 23 _ rfl)) rfl (n := 24) rfl ?_
    refine Vw.iadd (de_iadd (B 24 _ rfl)) (n := 25) rfl ?_
    rw [nI_1]
    refine Vw.ivi1 (mi' := mX5_readTest) (de_invokevirtual (B 25 _ rfl) (B 26 _ rfl) (B 27 _ rfl)) ml_X5_128 mv_X5_readTest hx.rd.k (Nat.le_of_ble_eq_true rfl) (n := 28) rfl (hT d S I L _ s tp u cd vl nt o (i + 1) l c f w hx (by omega) hl (by omega) (fun j l2 d2 c2 w2 e2 a1 a2 a3 a4 a5 a6 a7 => ?_) (fun e t2 l2 c2 w2 e2 a1 => ?_))
    · refine Vw.if_eq (tgt := 44) (n := 31) (de_if_eq (B 28 _ rfl) (B 29 _ rfl) (B 30 _ rfl)) rfl rfl (fun c_28 => ?_) (fun c_28 => ?_)
      · exact absurd c_28 (by decide)
      refine Vw.aload_n (de_aload_0 (B 31 _ rfl)) 0 rfl (n := 32) rfl ?_
      refine Vw.bipush (v := 41) (de_bipush (B 32 _ rfl) (B 33 _ rfl)) rfl (n := 34) rfl ?_
      refine Vw.ivi1 (mi' := mX5_goOnBehind) (de_invokevirtual (B 34 _ rfl) (B 35 _ rfl) (B 36 _ rfl)) ml_X5_64 mv_X5_goOnBehind hx.rd.k (Nat.le_of_ble_eq_true rfl) (n := 37) rfl (k_goOnBehind (sg := 41) (i := j) hx a2 (by decide) (fun g1 => ?_) (fun g0 => ?_))
      · refine Vw.if_eq (tgt := 44) (n := 40) (de_if_eq (B 37 _ rfl) (B 38 _ rfl) (B 39 _ rfl)) rfl rfl (fun c_37 => ?_) (fun c_37 => ?_)
        · exact absurd c_37 (by decide)
        refine Vw.iconst (v := 1) (de_iconst_1 (B 40 _ rfl)) rfl (n := 41) rfl ?_
        refine Vw.goto_ (n := 45) (de_goto_ (B 41 _ rfl) (B 42 _ rfl) (B 43 _ rfl)) rfl ?_
        exact Vw.zret (de_ireturn (B 45 _ rfl)) rfl rfl ⟨_, rfl, (h1 (j + 1) l2 d2 c2 w2 (by unfold pInn; rw [e2]; dsimp only; rw [if_pos (show cd j = 141 from g1)]) (by omega) (by rcases Nat.lt_or_ge j nt with z | z; omega; rw [show j = nt by omega, hx.c0] at g1; exact absurd g1 (by decide)) a3 (by omega) a5 a6 (a7 rfl))⟩
      · refine Vw.if_eq (tgt := 44) (n := 40) (de_if_eq (B 37 _ rfl) (B 38 _ rfl) (B 39 _ rfl)) rfl rfl (fun c_37 => ?_) (fun c_37 => ?_)
        · refine Vw.iconst (v := 0) (de_iconst_0 (B 44 _ rfl)) rfl (n := 45) rfl ?_
          exact Vw.zret (de_ireturn (B 45 _ rfl)) rfl rfl ⟨_, rfl, (h0 j _ _ _ _ (by unfold pInn; rw [e2]; dsimp only; rw [if_neg (show ¬ cd j = 141 from g0)]) a2)⟩
        exact absurd c_37 (by decide)
    · refine Vw.if_eq (tgt := 44) (n := 31) (de_if_eq (B 28 _ rfl) (B 29 _ rfl) (B 30 _ rfl)) rfl rfl (fun c_28 => ?_) (fun c_28 => ?_)
      · refine Vw.iconst (v := 0) (de_iconst_0 (B 44 _ rfl)) rfl (n := 45) rfl ?_
        exact Vw.zret (de_ireturn (B 45 _ rfl)) rfl rfl ⟨_, rfl, (h0 e t2 l2 c2 w2 (by unfold pInn; rw [e2]) a1)⟩
      exact absurd c_28 (by decide)
  exact absurd (i32_lt.mpr (by rw [nI_ti (by omega)]; show (dn0 : Int) < 8; omega)) c_3
theorem tCmp_ar {c : Int32} {o : Nat} {d e : tD} (h : ∀ v w, some (tCmpV c v w) = arOp o v w) : ∀ nv, tCmp c d e nv = match d nv with
    | none => none
    | some v => match e nv with
      | none => none
      | some w => arOp o v w := by
  intro nv
  unfold tCmp
  cases d nv with
  | none => rfl
  | some v => cases e nv with
    | none => rfl
    | some w => exact h v w
theorem tCmp_10 (v w : Int64) : some (tCmpV 160 v w) = arOp 10 v w := by
  unfold tCmpV arOp
  rw [if_pos rfl, if_neg (show ¬ 10 = 5 by decide), if_neg (show ¬ 10 = 6 by decide), if_neg (show ¬ 10 = 7 by decide), if_pos rfl]
theorem tCmp_11 (v w : Int64) : some (tCmpV 162 v w) = arOp 11 v w := by
  unfold tCmpV arOp
  rw [if_neg (show ¬ (162 : Int32) = 160 by decide), if_pos rfl, if_neg (show ¬ 11 = 5 by decide), if_neg (show ¬ 11 = 6 by decide), if_neg (show ¬ 11 = 7 by decide), if_neg (show ¬ 11 = 10 by decide), if_pos rfl]
theorem tCmp_12 (v w : Int64) : some (tCmpV 161 v w) = arOp 12 v w := by
  unfold tCmpV arOp
  rw [if_neg (show ¬ (161 : Int32) = 160 by decide), if_neg (show ¬ (161 : Int32) = 162 by decide), if_neg (show ¬ 12 = 5 by decide), if_neg (show ¬ 12 = 6 by decide), if_neg (show ¬ 12 = 7 by decide), if_neg (show ¬ 12 = 10 by decide), if_neg (show ¬ 12 = 11 by decide), if_pos rfl]
theorem kr_plain0 {E Ds : Nat} {X : (Nat → Int32) → (Nat → Int32) → Bool → Nat → Nat → tR tD} (hS : KR mX5_readSum (E + 6) [.int 8] X Ds false) : KR mX5_readPlain (E + 7) [.int 8] (fun cd vl o => pPlain cd none (X cd vl o)) (Ds + 1) true := by
  intro d S I L Q s tp u cd vl nt o i l c f w hx hi hl hci h1 h0
  dsimp only at h1 h0
  have h4 := hx.n4
  refine Vc.of rfl (Nat.le_of_ble_eq_true rfl) ?_
  have B := bs_X5_readPlain
  show Vw mX5_readPlain (d + (E + 7)) 0 0 0 0 (ViQ Q) 0 [(0, .ref (s + 74)), (1, .int 8)] [] S (rm I s (nI i) (nI l) (nI c) f w) L
  have fin : ∀ b j l2 dn c2 w2 x3, pPos cd none (X cd vl o) (pNots cd 402 i false).1 l = .ok (j, l2, dn) → (pNots cd 402 i false).2 = b → i < j → i + (if b = true then 1 else 0) + c2 ≤ c + j → j ≤ nt → l2 ≤ 50 → (∀ x, x < c → w2 x = w x) → WC2 (klO o) w2 c c2 dn (Ds + 1) → T01 dn → Vw mX5_readPlain (d + (E + 7)) 0 0 0 0 (ViQ Q) 163 [(0, .ref (s + 74)), (1, .int 8), (2, .int (bI b)), (3, .int x3)] [] S (rm I s (nI j) (nI l2) (nI c2) f w2) L := by
    intro b j l2 dn c2 w2 x3 eP eb hij hcj hjn hl2 hw hWC hT1
    have gW := hWC.1
    cases b with
    | true =>
      rw [if_pos rfl] at hcj
      refine Vw.iload_n (de_iload_2 (B 163 _ rfl)) 2 rfl (n := 164) rfl ?_
      refine Vw.if_eq (tgt := 174) (n := 167) (de_if_eq (B 164 _ rfl) (B 165 _ rfl) (B 166 _ rfl)) rfl rfl (fun c_164 => ?_) (fun c_164 => ?_)
      · exact absurd c_164 (by decide)
      refine Vw.aload_n (de_aload_0 (B 167 _ rfl)) 0 rfl (n := 168) rfl ?_
      refine Vw.iconst (v := 4) (de_iconst_4 (B 168 _ rfl)) rfl (n := 169) rfl ?_
      refine Vw.iconst (v := 0) (de_iconst_0 (B 169 _ rfl)) rfl (n := 170) rfl ?_
      refine Vw.ivi2 (mi' := mX5_emit) (de_invokevirtual (B 170 _ rfl) (B 171 _ rfl) (B 172 _ rfl)) ml_X5_143 mv_X5_emit hx.rd.k (Nat.le_of_ble_eq_true rfl) (n := 173) rfl (k_emit (op := 4) (k := 0) hx (by decide) (by decide) (show c2 < 400 by omega) ?_)
      refine Vw.pop (de_pop (B 173 _ rfl)) rfl (n := 174) rfl ?_
      refine Vw.iconst (v := 1) (de_iconst_1 (B 174 _ rfl)) rfl (n := 175) rfl ?_
      exact Vw.zret (de_ireturn (B 175 _ rfl)) rfl rfl ⟨_, rfl, (h1 j l2 (tNot dn) (c2 + 1) _ (by unfold pPlain; rw [eP]; dsimp only; rw [eb, if_pos rfl]) hij hjn hl2 (by omega) (fun x hx2 => by rw [upK_lt (by omega)]; exact hw x hx2) (WC2_not (hWC.of (fun x g1 g2 => upK_lt g2)) (upK_s _ _ _) hT1) (fun _ => T01_not))⟩
    | false =>
      rw [if_neg (by decide)] at hcj
      refine Vw.iload_n (de_iload_2 (B 163 _ rfl)) 2 rfl (n := 164) rfl ?_
      refine Vw.if_eq (tgt := 174) (n := 167) (de_if_eq (B 164 _ rfl) (B 165 _ rfl) (B 166 _ rfl)) rfl rfl (fun c_164 => ?_) (fun c_164 => ?_)
      · refine Vw.iconst (v := 1) (de_iconst_1 (B 174 _ rfl)) rfl (n := 175) rfl ?_
        exact Vw.zret (de_ireturn (B 175 _ rfl)) rfl rfl ⟨_, rfl, (h1 j l2 dn c2 w2 (by unfold pPlain; rw [eP]; dsimp only; rw [eb, if_neg (by decide)]) hij hjn hl2 (by omega) hw hWC (fun _ => hT1))⟩
      exact absurd (by decide) c_164
  have pos : ∀ b q x3, (pNots cd 402 i false) = (q, b) → i + (if b = true then 1 else 0) ≤ q → q ≤ nt → Vw mX5_readPlain (d + (E + 7)) 0 0 0 0 (ViQ Q) 46 [(0, .ref (s + 74)), (1, .int 8), (2, .int (bI b)), (3, .int x3)] [] S (rm I s (nI q) (nI l) (nI c) f w) L := by
    intro b q x3 eN hiq hqn
    have eN1 : (pNots cd 402 i false).1 = q := by rw [eN]
    have eN2 : (pNots cd 402 i false).2 = b := by rw [eN]
    have bad : ∀ e t l2 c2 w2, pPos cd none (X cd vl o) q l = .error e → e ≤ nt → Q 0 S (rm I s t l2 c2 (I (s + 84) e) w2) L := fun e t l2 c2 w2 he hn => h0 e t l2 c2 w2 (by unfold pPlain; rw [eN1, he]) hn
    have iq : i ≤ q := by omega
    refine Vw.aload_n (de_aload_0 (B 46 _ rfl)) 0 rfl (n := 47) rfl ?_
    refine Vw.getR (de_getfield (B 47 _ rfl) (B 48 _ rfl) (B 49 _ rfl)) fl_X5_20 rfl hx.rd.k hx.rd.f1 (n := 50) rfl ?_
    refine Vw.aload_n (de_aload_0 (B 50 _ rfl)) 0 rfl (n := 51) rfl ?_
    refine Vw.getI (de_getfield (B 51 _ rfl) (B 52 _ rfl) (B 53 _ rfl)) fl_X5_48 rfl hx.rd.k (n := 54) rfl ?_
    rw [rm_8]
    refine Vw.iald (de_iaload (B 54 _ rfl)) hx.rd.r1 (vIx_n (k := q) rfl (by omega)) (n := 55) rfl ?_
    rw [rm_kd]
    refine Vw.bipush (v := 40) (de_bipush (B 55 _ rfl) (B 56 _ rfl)) rfl (n := 57) rfl ?_
    refine Vw.icmp_ne (tgt := 70) (n := 60) (de_icmp_ne (B 57 _ rfl) (B 58 _ rfl) (B 59 _ rfl)) rfl rfl (fun c_57 => ?_) (fun c_57 => ?_)
    · have c140 : ¬ cd q = 140 := fun z => c_57 ((hx.sign hqn (c := 40) (by decide)).mpr z)
      refine Vw.aload_n (de_aload_0 (B 70 _ rfl)) 0 rfl (n := 71) rfl ?_
      refine Vw.iload_n (de_iload_1 (B 71 _ rfl)) 1 rfl (n := 72) rfl ?_
      refine Vw.ivi1 (mi' := mX5_readSum) (de_invokevirtual (B 72 _ rfl) (B 73 _ rfl) (B 74 _ rfl)) ml_X5_106 mv_X5_readSum hx.rd.k (Nat.le_of_ble_eq_true rfl) (n := 75) rfl (hS d S I L _ s tp u cd vl nt o q l c f w hx hqn hl (by omega) (fun j l2 d2 c2 w2 e2 a1 a2 a3 a4 a5 a6 a7 => ?_) (fun e t2 l2 c2 w2 e2 a1 => ?_))
      · refine Vw.if_ne (tgt := 80) (n := 78) (de_if_ne (B 75 _ rfl) (B 76 _ rfl) (B 77 _ rfl)) rfl rfl (fun c_75 => ?_) (fun c_75 => ?_)
        · refine Vw.aload_n (de_aload_0 (B 80 _ rfl)) 0 rfl (n := 81) rfl ?_
          refine Vw.getR (de_getfield (B 81 _ rfl) (B 82 _ rfl) (B 83 _ rfl)) fl_X5_20 rfl hx.rd.k hx.rd.f1 (n := 84) rfl ?_
          refine Vw.aload_n (de_aload_0 (B 84 _ rfl)) 0 rfl (n := 85) rfl ?_
          refine Vw.getI (de_getfield (B 85 _ rfl) (B 86 _ rfl) (B 87 _ rfl)) fl_X5_48 rfl hx.rd.k (n := 88) rfl ?_
          rw [rm_8]
          refine Vw.iald (de_iaload (B 88 _ rfl)) hx.rd.r1 (vIx_n (k := j) rfl (by omega)) (n := 89) rfl ?_
          rw [rm_kd]
          refine Vw.istore_n (lv2 := [(0, _), (1, _), (2, _), (3, _)]) (de_istore_3 (B 89 _ rfl)) rfl (by decide) [1, 2, 3, 0] rfl (n := 90) rfl ?_
          refine Vw.iload_n (de_iload_3 (B 90 _ rfl)) 3 rfl (n := 91) rfl ?_
          refine Vw.bipush (v := 60) (de_bipush (B 91 _ rfl) (B 92 _ rfl)) rfl (n := 93) rfl ?_
          refine Vw.icmp_eq (tgt := 113) (n := 96) (de_icmp_eq (B 93 _ rfl) (B 94 _ rfl) (B 95 _ rfl)) rfl rfl (fun c_93 => ?_) (fun c_93 => ?_)
          · have jc : isCmp (cd j) = true ∧ j < nt := by
              have hc : isCmp (cd j) = true := by
                unfold isCmp
                first
                | (rw [show cd j = 160 from (hx.sign a2 (c := 60) (by decide)).mp c_93]; rfl)
                | (rw [show cd j = 162 from (hx.sign a2 (c := 62) (by decide)).mp c_99]; rfl)
                | (rw [show cd j = 161 from (hx.sign a2 (c := 61) (by decide)).mp c_105]; rfl)
              refine ⟨hc, ?_⟩
              rcases Nat.lt_or_ge j nt with z | z
              · exact z
              · rw [show j = nt by omega, hx.c0] at hc; exact absurd hc (by decide)
            refine Vw.aload_n (de_aload_0 (B 113 _ rfl)) 0 rfl (n := 114) rfl ?_
            refine Vw.dup (de_dup (B 114 _ rfl)) rfl (n := 115) rfl ?_
            refine Vw.getI (de_getfield (B 115 _ rfl) (B 116 _ rfl) (B 117 _ rfl)) fl_X5_48 rfl hx.rd.k (n := 118) rfl ?_
            rw [rm_8]
            refine Vw.iconst (v := 1) (de_iconst_1 (B 118 _ rfl)) rfl (n := 119) rfl ?_
            refine Vw.iadd (de_iadd (B 119 _ rfl)) (n := 120) rfl ?_
            rw [nI_1]
            refine Vw.putI (de_putfield (B 120 _ rfl) (B 121 _ rfl) (B 122 _ rfl)) fl_X5_48 hx.rd.k rfl rfl (n := 123) rfl ?_
            rw [up_8]
            refine Vw.aload_n (de_aload_0 (B 123 _ rfl)) 0 rfl (n := 124) rfl ?_
            refine Vw.iload_n (de_iload_1 (B 124 _ rfl)) 1 rfl (n := 125) rfl ?_
            refine Vw.ivi1 (mi' := mX5_readSum) (de_invokevirtual (B 125 _ rfl) (B 126 _ rfl) (B 127 _ rfl)) ml_X5_106 mv_X5_readSum hx.rd.k (Nat.le_of_ble_eq_true rfl) (n := 128) rfl (hS d S I L _ s tp u cd vl nt o (j + 1) l2 c2 f w2 hx (by have := jc.2; omega) a3 (by omega) (fun j3 l3 d3 c3 w3 e3 b1 b2 b3 b4 b5 b6 b7 => ?_) (fun e t3 l3 c3 w3 e3 b1 => ?_))
            · refine Vw.if_ne (tgt := 133) (n := 131) (de_if_ne (B 128 _ rfl) (B 129 _ rfl) (B 130 _ rfl)) rfl rfl (fun c_128 => ?_) (fun c_128 => ?_)
              · refine Vw.aload_n (de_aload_0 (B 133 _ rfl)) 0 rfl (n := 134) rfl ?_
                refine Vw.iload_n (de_iload_3 (B 134 _ rfl)) 3 rfl (n := 135) rfl ?_
                refine Vw.bipush (v := 60) (de_bipush (B 135 _ rfl) (B 136 _ rfl)) rfl (n := 137) rfl ?_
                refine Vw.icmp_ne (tgt := 145) (n := 140) (de_icmp_ne (B 137 _ rfl) (B 138 _ rfl) (B 139 _ rfl)) rfl rfl (fun c_137 => ?_) (fun c_137 => ?_)
                · refine Vw.iload_n (de_iload_3 (B 145 _ rfl)) 3 rfl (n := 146) rfl ?_
                  refine Vw.bipush (v := 62) (de_bipush (B 146 _ rfl) (B 147 _ rfl)) rfl (n := 148) rfl ?_
                  refine Vw.icmp_ne (tgt := 156) (n := 151) (de_icmp_ne (B 148 _ rfl) (B 149 _ rfl) (B 150 _ rfl)) rfl rfl (fun c_148 => ?_) (fun c_148 => ?_)
                  · refine Vw.bipush (v := 12) (de_bipush (B 156 _ rfl) (B 157 _ rfl)) rfl (n := 158) rfl ?_
                    refine Vw.iconst (v := 0) (de_iconst_0 (B 158 _ rfl)) rfl (n := 159) rfl ?_
                    refine Vw.ivi2 (mi' := mX5_emit) (de_invokevirtual (B 159 _ rfl) (B 160 _ rfl) (B 161 _ rfl)) ml_X5_143 mv_X5_emit hx.rd.k (Nat.le_of_ble_eq_true rfl) (n := 162) rfl (k_emit (op := 12) (k := 0) hx (by decide) (by decide) (show c3 < 400 by omega) ?_)
                    refine Vw.pop (de_pop (B 162 _ rfl)) rfl (n := 163) rfl ?_
                    have gA := a6.1
                    have gB := b6.1
                    have eP : pPos cd none (X cd vl o) (pNots cd 402 i false).1 l = .ok (j3, l3, tCmp (cd j) d2 d3) := by
                      rw [eN1]; unfold pPos; rw [if_neg c140, e2]; dsimp only; rw [if_pos jc.1, e3]
                    refine fin b j3 l3 _ (c3 + 1) _ _ eP eN2 (by omega) (by omega) b2 b3 (fun x hx2 => by rw [upK_lt (by omega), b5 x (by omega)]; exact a5 x hx2) ?_ T01_cmp
                    first
                    | (refine WC2_two (o := 10) ((a6.up (Nat.le_succ _)).of (fun x g1 g2 => by rw [upK_lt (by omega), b5 x g2])) (b6.of (fun x g1 g2 => upK_lt g2)) (upK_s _ _ _) (by decide) (by decide) (tCmp_ar (fun v w => ?_))
                       rw [show cd j = 160 from (hx.sign a2 (c := 60) (by decide)).mp c_137]; exact tCmp_10 v w)
                    | (refine WC2_two (o := 11) ((a6.up (Nat.le_succ _)).of (fun x g1 g2 => by rw [upK_lt (by omega), b5 x g2])) (b6.of (fun x g1 g2 => upK_lt g2)) (upK_s _ _ _) (by decide) (by decide) (tCmp_ar (fun v w => ?_))
                       rw [show cd j = 162 from (hx.sign a2 (c := 62) (by decide)).mp c_148]; exact tCmp_11 v w)
                    | (refine WC2_two (o := 12) ((a6.up (Nat.le_succ _)).of (fun x g1 g2 => by rw [upK_lt (by omega), b5 x g2])) (b6.of (fun x g1 g2 => upK_lt g2)) (upK_s _ _ _) (by decide) (by decide) (tCmp_ar (fun v w => ?_))
                       have c161 : cd j = 161 := (hx.sign a2 (c := 61) (by decide)).mp (by first | exact c_105 | exact absurd c_93 c_137 | exact absurd c_99 c_148)
                       rw [c161]; exact tCmp_12 v w)
                  refine Vw.bipush (v := 11) (de_bipush (B 151 _ rfl) (B 152 _ rfl)) rfl (n := 153) rfl ?_
                  refine Vw.goto_ (n := 158) (de_goto_ (B 153 _ rfl) (B 154 _ rfl) (B 155 _ rfl)) rfl ?_
                  refine Vw.iconst (v := 0) (de_iconst_0 (B 158 _ rfl)) rfl (n := 159) rfl ?_
                  refine Vw.ivi2 (mi' := mX5_emit) (de_invokevirtual (B 159 _ rfl) (B 160 _ rfl) (B 161 _ rfl)) ml_X5_143 mv_X5_emit hx.rd.k (Nat.le_of_ble_eq_true rfl) (n := 162) rfl (k_emit (op := 11) (k := 0) hx (by decide) (by decide) (show c3 < 400 by omega) ?_)
                  refine Vw.pop (de_pop (B 162 _ rfl)) rfl (n := 163) rfl ?_
                  have gA := a6.1
                  have gB := b6.1
                  have eP : pPos cd none (X cd vl o) (pNots cd 402 i false).1 l = .ok (j3, l3, tCmp (cd j) d2 d3) := by
                    rw [eN1]; unfold pPos; rw [if_neg c140, e2]; dsimp only; rw [if_pos jc.1, e3]
                  refine fin b j3 l3 _ (c3 + 1) _ _ eP eN2 (by omega) (by omega) b2 b3 (fun x hx2 => by rw [upK_lt (by omega), b5 x (by omega)]; exact a5 x hx2) ?_ T01_cmp
                  first
                  | (refine WC2_two (o := 10) ((a6.up (Nat.le_succ _)).of (fun x g1 g2 => by rw [upK_lt (by omega), b5 x g2])) (b6.of (fun x g1 g2 => upK_lt g2)) (upK_s _ _ _) (by decide) (by decide) (tCmp_ar (fun v w => ?_))
                     rw [show cd j = 160 from (hx.sign a2 (c := 60) (by decide)).mp c_137]; exact tCmp_10 v w)
                  | (refine WC2_two (o := 11) ((a6.up (Nat.le_succ _)).of (fun x g1 g2 => by rw [upK_lt (by omega), b5 x g2])) (b6.of (fun x g1 g2 => upK_lt g2)) (upK_s _ _ _) (by decide) (by decide) (tCmp_ar (fun v w => ?_))
                     rw [show cd j = 162 from (hx.sign a2 (c := 62) (by decide)).mp c_148]; exact tCmp_11 v w)
                  | (refine WC2_two (o := 12) ((a6.up (Nat.le_succ _)).of (fun x g1 g2 => by rw [upK_lt (by omega), b5 x g2])) (b6.of (fun x g1 g2 => upK_lt g2)) (upK_s _ _ _) (by decide) (by decide) (tCmp_ar (fun v w => ?_))
                     have c161 : cd j = 161 := (hx.sign a2 (c := 61) (by decide)).mp (by first | exact c_105 | exact absurd c_93 c_137 | exact absurd c_99 c_148)
                     rw [c161]; exact tCmp_12 v w)
                refine Vw.bipush (v := 10) (de_bipush (B 140 _ rfl) (B 141 _ rfl)) rfl (n := 142) rfl ?_
                refine Vw.goto_ (n := 158) (de_goto_ (B 142 _ rfl) (B 143 _ rfl) (B 144 _ rfl)) rfl ?_
                refine Vw.iconst (v := 0) (de_iconst_0 (B 158 _ rfl)) rfl (n := 159) rfl ?_
                refine Vw.ivi2 (mi' := mX5_emit) (de_invokevirtual (B 159 _ rfl) (B 160 _ rfl) (B 161 _ rfl)) ml_X5_143 mv_X5_emit hx.rd.k (Nat.le_of_ble_eq_true rfl) (n := 162) rfl (k_emit (op := 10) (k := 0) hx (by decide) (by decide) (show c3 < 400 by omega) ?_)
                refine Vw.pop (de_pop (B 162 _ rfl)) rfl (n := 163) rfl ?_
                have gA := a6.1
                have gB := b6.1
                have eP : pPos cd none (X cd vl o) (pNots cd 402 i false).1 l = .ok (j3, l3, tCmp (cd j) d2 d3) := by
                  rw [eN1]; unfold pPos; rw [if_neg c140, e2]; dsimp only; rw [if_pos jc.1, e3]
                refine fin b j3 l3 _ (c3 + 1) _ _ eP eN2 (by omega) (by omega) b2 b3 (fun x hx2 => by rw [upK_lt (by omega), b5 x (by omega)]; exact a5 x hx2) ?_ T01_cmp
                first
                | (refine WC2_two (o := 10) ((a6.up (Nat.le_succ _)).of (fun x g1 g2 => by rw [upK_lt (by omega), b5 x g2])) (b6.of (fun x g1 g2 => upK_lt g2)) (upK_s _ _ _) (by decide) (by decide) (tCmp_ar (fun v w => ?_))
                   rw [show cd j = 160 from (hx.sign a2 (c := 60) (by decide)).mp c_137]; exact tCmp_10 v w)
                | (refine WC2_two (o := 11) ((a6.up (Nat.le_succ _)).of (fun x g1 g2 => by rw [upK_lt (by omega), b5 x g2])) (b6.of (fun x g1 g2 => upK_lt g2)) (upK_s _ _ _) (by decide) (by decide) (tCmp_ar (fun v w => ?_))
                   rw [show cd j = 162 from (hx.sign a2 (c := 62) (by decide)).mp c_148]; exact tCmp_11 v w)
                | (refine WC2_two (o := 12) ((a6.up (Nat.le_succ _)).of (fun x g1 g2 => by rw [upK_lt (by omega), b5 x g2])) (b6.of (fun x g1 g2 => upK_lt g2)) (upK_s _ _ _) (by decide) (by decide) (tCmp_ar (fun v w => ?_))
                   have c161 : cd j = 161 := (hx.sign a2 (c := 61) (by decide)).mp (by first | exact c_105 | exact absurd c_93 c_137 | exact absurd c_99 c_148)
                   rw [c161]; exact tCmp_12 v w)
              exact absurd c_128 (by decide)
            · refine Vw.if_ne (tgt := 133) (n := 131) (de_if_ne (B 128 _ rfl) (B 129 _ rfl) (B 130 _ rfl)) rfl rfl (fun c_128 => ?_) (fun c_128 => ?_)
              · exact absurd c_128 (by decide)
              refine Vw.iconst (v := 0) (de_iconst_0 (B 131 _ rfl)) rfl (n := 132) rfl ?_
              exact Vw.zret (de_ireturn (B 132 _ rfl)) rfl rfl ⟨_, rfl, (bad e t3 l3 c3 w3 (by unfold pPos; rw [if_neg c140, e2]; dsimp only; rw [if_pos jc.1, e3]) b1)⟩
          refine Vw.iload_n (de_iload_3 (B 96 _ rfl)) 3 rfl (n := 97) rfl ?_
          refine Vw.bipush (v := 62) (de_bipush (B 97 _ rfl) (B 98 _ rfl)) rfl (n := 99) rfl ?_
          refine Vw.icmp_eq (tgt := 113) (n := 102) (de_icmp_eq (B 99 _ rfl) (B 100 _ rfl) (B 101 _ rfl)) rfl rfl (fun c_99 => ?_) (fun c_99 => ?_)
          · have jc : isCmp (cd j) = true ∧ j < nt := by
              have hc : isCmp (cd j) = true := by
                unfold isCmp
                first
                | (rw [show cd j = 160 from (hx.sign a2 (c := 60) (by decide)).mp c_93]; rfl)
                | (rw [show cd j = 162 from (hx.sign a2 (c := 62) (by decide)).mp c_99]; rfl)
                | (rw [show cd j = 161 from (hx.sign a2 (c := 61) (by decide)).mp c_105]; rfl)
              refine ⟨hc, ?_⟩
              rcases Nat.lt_or_ge j nt with z | z
              · exact z
              · rw [show j = nt by omega, hx.c0] at hc; exact absurd hc (by decide)
            refine Vw.aload_n (de_aload_0 (B 113 _ rfl)) 0 rfl (n := 114) rfl ?_
            refine Vw.dup (de_dup (B 114 _ rfl)) rfl (n := 115) rfl ?_
            refine Vw.getI (de_getfield (B 115 _ rfl) (B 116 _ rfl) (B 117 _ rfl)) fl_X5_48 rfl hx.rd.k (n := 118) rfl ?_
            rw [rm_8]
            refine Vw.iconst (v := 1) (de_iconst_1 (B 118 _ rfl)) rfl (n := 119) rfl ?_
            refine Vw.iadd (de_iadd (B 119 _ rfl)) (n := 120) rfl ?_
            rw [nI_1]
            refine Vw.putI (de_putfield (B 120 _ rfl) (B 121 _ rfl) (B 122 _ rfl)) fl_X5_48 hx.rd.k rfl rfl (n := 123) rfl ?_
            rw [up_8]
            refine Vw.aload_n (de_aload_0 (B 123 _ rfl)) 0 rfl (n := 124) rfl ?_
            refine Vw.iload_n (de_iload_1 (B 124 _ rfl)) 1 rfl (n := 125) rfl ?_
            refine Vw.ivi1 (mi' := mX5_readSum) (de_invokevirtual (B 125 _ rfl) (B 126 _ rfl) (B 127 _ rfl)) ml_X5_106 mv_X5_readSum hx.rd.k (Nat.le_of_ble_eq_true rfl) (n := 128) rfl (hS d S I L _ s tp u cd vl nt o (j + 1) l2 c2 f w2 hx (by have := jc.2; omega) a3 (by omega) (fun j3 l3 d3 c3 w3 e3 b1 b2 b3 b4 b5 b6 b7 => ?_) (fun e t3 l3 c3 w3 e3 b1 => ?_))
            · refine Vw.if_ne (tgt := 133) (n := 131) (de_if_ne (B 128 _ rfl) (B 129 _ rfl) (B 130 _ rfl)) rfl rfl (fun c_128 => ?_) (fun c_128 => ?_)
              · refine Vw.aload_n (de_aload_0 (B 133 _ rfl)) 0 rfl (n := 134) rfl ?_
                refine Vw.iload_n (de_iload_3 (B 134 _ rfl)) 3 rfl (n := 135) rfl ?_
                refine Vw.bipush (v := 60) (de_bipush (B 135 _ rfl) (B 136 _ rfl)) rfl (n := 137) rfl ?_
                refine Vw.icmp_ne (tgt := 145) (n := 140) (de_icmp_ne (B 137 _ rfl) (B 138 _ rfl) (B 139 _ rfl)) rfl rfl (fun c_137 => ?_) (fun c_137 => ?_)
                · refine Vw.iload_n (de_iload_3 (B 145 _ rfl)) 3 rfl (n := 146) rfl ?_
                  refine Vw.bipush (v := 62) (de_bipush (B 146 _ rfl) (B 147 _ rfl)) rfl (n := 148) rfl ?_
                  refine Vw.icmp_ne (tgt := 156) (n := 151) (de_icmp_ne (B 148 _ rfl) (B 149 _ rfl) (B 150 _ rfl)) rfl rfl (fun c_148 => ?_) (fun c_148 => ?_)
                  · refine Vw.bipush (v := 12) (de_bipush (B 156 _ rfl) (B 157 _ rfl)) rfl (n := 158) rfl ?_
                    refine Vw.iconst (v := 0) (de_iconst_0 (B 158 _ rfl)) rfl (n := 159) rfl ?_
                    refine Vw.ivi2 (mi' := mX5_emit) (de_invokevirtual (B 159 _ rfl) (B 160 _ rfl) (B 161 _ rfl)) ml_X5_143 mv_X5_emit hx.rd.k (Nat.le_of_ble_eq_true rfl) (n := 162) rfl (k_emit (op := 12) (k := 0) hx (by decide) (by decide) (show c3 < 400 by omega) ?_)
                    refine Vw.pop (de_pop (B 162 _ rfl)) rfl (n := 163) rfl ?_
                    have gA := a6.1
                    have gB := b6.1
                    have eP : pPos cd none (X cd vl o) (pNots cd 402 i false).1 l = .ok (j3, l3, tCmp (cd j) d2 d3) := by
                      rw [eN1]; unfold pPos; rw [if_neg c140, e2]; dsimp only; rw [if_pos jc.1, e3]
                    refine fin b j3 l3 _ (c3 + 1) _ _ eP eN2 (by omega) (by omega) b2 b3 (fun x hx2 => by rw [upK_lt (by omega), b5 x (by omega)]; exact a5 x hx2) ?_ T01_cmp
                    first
                    | (refine WC2_two (o := 10) ((a6.up (Nat.le_succ _)).of (fun x g1 g2 => by rw [upK_lt (by omega), b5 x g2])) (b6.of (fun x g1 g2 => upK_lt g2)) (upK_s _ _ _) (by decide) (by decide) (tCmp_ar (fun v w => ?_))
                       rw [show cd j = 160 from (hx.sign a2 (c := 60) (by decide)).mp c_137]; exact tCmp_10 v w)
                    | (refine WC2_two (o := 11) ((a6.up (Nat.le_succ _)).of (fun x g1 g2 => by rw [upK_lt (by omega), b5 x g2])) (b6.of (fun x g1 g2 => upK_lt g2)) (upK_s _ _ _) (by decide) (by decide) (tCmp_ar (fun v w => ?_))
                       rw [show cd j = 162 from (hx.sign a2 (c := 62) (by decide)).mp c_148]; exact tCmp_11 v w)
                    | (refine WC2_two (o := 12) ((a6.up (Nat.le_succ _)).of (fun x g1 g2 => by rw [upK_lt (by omega), b5 x g2])) (b6.of (fun x g1 g2 => upK_lt g2)) (upK_s _ _ _) (by decide) (by decide) (tCmp_ar (fun v w => ?_))
                       have c161 : cd j = 161 := (hx.sign a2 (c := 61) (by decide)).mp (by first | exact c_105 | exact absurd c_93 c_137 | exact absurd c_99 c_148)
                       rw [c161]; exact tCmp_12 v w)
                  refine Vw.bipush (v := 11) (de_bipush (B 151 _ rfl) (B 152 _ rfl)) rfl (n := 153) rfl ?_
                  refine Vw.goto_ (n := 158) (de_goto_ (B 153 _ rfl) (B 154 _ rfl) (B 155 _ rfl)) rfl ?_
                  refine Vw.iconst (v := 0) (de_iconst_0 (B 158 _ rfl)) rfl (n := 159) rfl ?_
                  refine Vw.ivi2 (mi' := mX5_emit) (de_invokevirtual (B 159 _ rfl) (B 160 _ rfl) (B 161 _ rfl)) ml_X5_143 mv_X5_emit hx.rd.k (Nat.le_of_ble_eq_true rfl) (n := 162) rfl (k_emit (op := 11) (k := 0) hx (by decide) (by decide) (show c3 < 400 by omega) ?_)
                  refine Vw.pop (de_pop (B 162 _ rfl)) rfl (n := 163) rfl ?_
                  have gA := a6.1
                  have gB := b6.1
                  have eP : pPos cd none (X cd vl o) (pNots cd 402 i false).1 l = .ok (j3, l3, tCmp (cd j) d2 d3) := by
                    rw [eN1]; unfold pPos; rw [if_neg c140, e2]; dsimp only; rw [if_pos jc.1, e3]
                  refine fin b j3 l3 _ (c3 + 1) _ _ eP eN2 (by omega) (by omega) b2 b3 (fun x hx2 => by rw [upK_lt (by omega), b5 x (by omega)]; exact a5 x hx2) ?_ T01_cmp
                  first
                  | (refine WC2_two (o := 10) ((a6.up (Nat.le_succ _)).of (fun x g1 g2 => by rw [upK_lt (by omega), b5 x g2])) (b6.of (fun x g1 g2 => upK_lt g2)) (upK_s _ _ _) (by decide) (by decide) (tCmp_ar (fun v w => ?_))
                     rw [show cd j = 160 from (hx.sign a2 (c := 60) (by decide)).mp c_137]; exact tCmp_10 v w)
                  | (refine WC2_two (o := 11) ((a6.up (Nat.le_succ _)).of (fun x g1 g2 => by rw [upK_lt (by omega), b5 x g2])) (b6.of (fun x g1 g2 => upK_lt g2)) (upK_s _ _ _) (by decide) (by decide) (tCmp_ar (fun v w => ?_))
                     rw [show cd j = 162 from (hx.sign a2 (c := 62) (by decide)).mp c_148]; exact tCmp_11 v w)
                  | (refine WC2_two (o := 12) ((a6.up (Nat.le_succ _)).of (fun x g1 g2 => by rw [upK_lt (by omega), b5 x g2])) (b6.of (fun x g1 g2 => upK_lt g2)) (upK_s _ _ _) (by decide) (by decide) (tCmp_ar (fun v w => ?_))
                     have c161 : cd j = 161 := (hx.sign a2 (c := 61) (by decide)).mp (by first | exact c_105 | exact absurd c_93 c_137 | exact absurd c_99 c_148)
                     rw [c161]; exact tCmp_12 v w)
                refine Vw.bipush (v := 10) (de_bipush (B 140 _ rfl) (B 141 _ rfl)) rfl (n := 142) rfl ?_
                refine Vw.goto_ (n := 158) (de_goto_ (B 142 _ rfl) (B 143 _ rfl) (B 144 _ rfl)) rfl ?_
                refine Vw.iconst (v := 0) (de_iconst_0 (B 158 _ rfl)) rfl (n := 159) rfl ?_
                refine Vw.ivi2 (mi' := mX5_emit) (de_invokevirtual (B 159 _ rfl) (B 160 _ rfl) (B 161 _ rfl)) ml_X5_143 mv_X5_emit hx.rd.k (Nat.le_of_ble_eq_true rfl) (n := 162) rfl (k_emit (op := 10) (k := 0) hx (by decide) (by decide) (show c3 < 400 by omega) ?_)
                refine Vw.pop (de_pop (B 162 _ rfl)) rfl (n := 163) rfl ?_
                have gA := a6.1
                have gB := b6.1
                have eP : pPos cd none (X cd vl o) (pNots cd 402 i false).1 l = .ok (j3, l3, tCmp (cd j) d2 d3) := by
                  rw [eN1]; unfold pPos; rw [if_neg c140, e2]; dsimp only; rw [if_pos jc.1, e3]
                refine fin b j3 l3 _ (c3 + 1) _ _ eP eN2 (by omega) (by omega) b2 b3 (fun x hx2 => by rw [upK_lt (by omega), b5 x (by omega)]; exact a5 x hx2) ?_ T01_cmp
                first
                | (refine WC2_two (o := 10) ((a6.up (Nat.le_succ _)).of (fun x g1 g2 => by rw [upK_lt (by omega), b5 x g2])) (b6.of (fun x g1 g2 => upK_lt g2)) (upK_s _ _ _) (by decide) (by decide) (tCmp_ar (fun v w => ?_))
                   rw [show cd j = 160 from (hx.sign a2 (c := 60) (by decide)).mp c_137]; exact tCmp_10 v w)
                | (refine WC2_two (o := 11) ((a6.up (Nat.le_succ _)).of (fun x g1 g2 => by rw [upK_lt (by omega), b5 x g2])) (b6.of (fun x g1 g2 => upK_lt g2)) (upK_s _ _ _) (by decide) (by decide) (tCmp_ar (fun v w => ?_))
                   rw [show cd j = 162 from (hx.sign a2 (c := 62) (by decide)).mp c_148]; exact tCmp_11 v w)
                | (refine WC2_two (o := 12) ((a6.up (Nat.le_succ _)).of (fun x g1 g2 => by rw [upK_lt (by omega), b5 x g2])) (b6.of (fun x g1 g2 => upK_lt g2)) (upK_s _ _ _) (by decide) (by decide) (tCmp_ar (fun v w => ?_))
                   have c161 : cd j = 161 := (hx.sign a2 (c := 61) (by decide)).mp (by first | exact c_105 | exact absurd c_93 c_137 | exact absurd c_99 c_148)
                   rw [c161]; exact tCmp_12 v w)
              exact absurd c_128 (by decide)
            · refine Vw.if_ne (tgt := 133) (n := 131) (de_if_ne (B 128 _ rfl) (B 129 _ rfl) (B 130 _ rfl)) rfl rfl (fun c_128 => ?_) (fun c_128 => ?_)
              · exact absurd c_128 (by decide)
              refine Vw.iconst (v := 0) (de_iconst_0 (B 131 _ rfl)) rfl (n := 132) rfl ?_
              exact Vw.zret (de_ireturn (B 132 _ rfl)) rfl rfl ⟨_, rfl, (bad e t3 l3 c3 w3 (by unfold pPos; rw [if_neg c140, e2]; dsimp only; rw [if_pos jc.1, e3]) b1)⟩
          refine Vw.iload_n (de_iload_3 (B 102 _ rfl)) 3 rfl (n := 103) rfl ?_
          refine Vw.bipush (v := 61) (de_bipush (B 103 _ rfl) (B 104 _ rfl)) rfl (n := 105) rfl ?_
          refine Vw.icmp_eq (tgt := 113) (n := 108) (de_icmp_eq (B 105 _ rfl) (B 106 _ rfl) (B 107 _ rfl)) rfl rfl (fun c_105 => ?_) (fun c_105 => ?_)
          · have jc : isCmp (cd j) = true ∧ j < nt := by
              have hc : isCmp (cd j) = true := by
                unfold isCmp
                first
                | (rw [show cd j = 160 from (hx.sign a2 (c := 60) (by decide)).mp c_93]; rfl)
                | (rw [show cd j = 162 from (hx.sign a2 (c := 62) (by decide)).mp c_99]; rfl)
                | (rw [show cd j = 161 from (hx.sign a2 (c := 61) (by decide)).mp c_105]; rfl)
              refine ⟨hc, ?_⟩
              rcases Nat.lt_or_ge j nt with z | z
              · exact z
              · rw [show j = nt by omega, hx.c0] at hc; exact absurd hc (by decide)
            refine Vw.aload_n (de_aload_0 (B 113 _ rfl)) 0 rfl (n := 114) rfl ?_
            refine Vw.dup (de_dup (B 114 _ rfl)) rfl (n := 115) rfl ?_
            refine Vw.getI (de_getfield (B 115 _ rfl) (B 116 _ rfl) (B 117 _ rfl)) fl_X5_48 rfl hx.rd.k (n := 118) rfl ?_
            rw [rm_8]
            refine Vw.iconst (v := 1) (de_iconst_1 (B 118 _ rfl)) rfl (n := 119) rfl ?_
            refine Vw.iadd (de_iadd (B 119 _ rfl)) (n := 120) rfl ?_
            rw [nI_1]
            refine Vw.putI (de_putfield (B 120 _ rfl) (B 121 _ rfl) (B 122 _ rfl)) fl_X5_48 hx.rd.k rfl rfl (n := 123) rfl ?_
            rw [up_8]
            refine Vw.aload_n (de_aload_0 (B 123 _ rfl)) 0 rfl (n := 124) rfl ?_
            refine Vw.iload_n (de_iload_1 (B 124 _ rfl)) 1 rfl (n := 125) rfl ?_
            refine Vw.ivi1 (mi' := mX5_readSum) (de_invokevirtual (B 125 _ rfl) (B 126 _ rfl) (B 127 _ rfl)) ml_X5_106 mv_X5_readSum hx.rd.k (Nat.le_of_ble_eq_true rfl) (n := 128) rfl (hS d S I L _ s tp u cd vl nt o (j + 1) l2 c2 f w2 hx (by have := jc.2; omega) a3 (by omega) (fun j3 l3 d3 c3 w3 e3 b1 b2 b3 b4 b5 b6 b7 => ?_) (fun e t3 l3 c3 w3 e3 b1 => ?_))
            · refine Vw.if_ne (tgt := 133) (n := 131) (de_if_ne (B 128 _ rfl) (B 129 _ rfl) (B 130 _ rfl)) rfl rfl (fun c_128 => ?_) (fun c_128 => ?_)
              · refine Vw.aload_n (de_aload_0 (B 133 _ rfl)) 0 rfl (n := 134) rfl ?_
                refine Vw.iload_n (de_iload_3 (B 134 _ rfl)) 3 rfl (n := 135) rfl ?_
                refine Vw.bipush (v := 60) (de_bipush (B 135 _ rfl) (B 136 _ rfl)) rfl (n := 137) rfl ?_
                refine Vw.icmp_ne (tgt := 145) (n := 140) (de_icmp_ne (B 137 _ rfl) (B 138 _ rfl) (B 139 _ rfl)) rfl rfl (fun c_137 => ?_) (fun c_137 => ?_)
                · refine Vw.iload_n (de_iload_3 (B 145 _ rfl)) 3 rfl (n := 146) rfl ?_
                  refine Vw.bipush (v := 62) (de_bipush (B 146 _ rfl) (B 147 _ rfl)) rfl (n := 148) rfl ?_
                  refine Vw.icmp_ne (tgt := 156) (n := 151) (de_icmp_ne (B 148 _ rfl) (B 149 _ rfl) (B 150 _ rfl)) rfl rfl (fun c_148 => ?_) (fun c_148 => ?_)
                  · refine Vw.bipush (v := 12) (de_bipush (B 156 _ rfl) (B 157 _ rfl)) rfl (n := 158) rfl ?_
                    refine Vw.iconst (v := 0) (de_iconst_0 (B 158 _ rfl)) rfl (n := 159) rfl ?_
                    refine Vw.ivi2 (mi' := mX5_emit) (de_invokevirtual (B 159 _ rfl) (B 160 _ rfl) (B 161 _ rfl)) ml_X5_143 mv_X5_emit hx.rd.k (Nat.le_of_ble_eq_true rfl) (n := 162) rfl (k_emit (op := 12) (k := 0) hx (by decide) (by decide) (show c3 < 400 by omega) ?_)
                    refine Vw.pop (de_pop (B 162 _ rfl)) rfl (n := 163) rfl ?_
                    have gA := a6.1
                    have gB := b6.1
                    have eP : pPos cd none (X cd vl o) (pNots cd 402 i false).1 l = .ok (j3, l3, tCmp (cd j) d2 d3) := by
                      rw [eN1]; unfold pPos; rw [if_neg c140, e2]; dsimp only; rw [if_pos jc.1, e3]
                    refine fin b j3 l3 _ (c3 + 1) _ _ eP eN2 (by omega) (by omega) b2 b3 (fun x hx2 => by rw [upK_lt (by omega), b5 x (by omega)]; exact a5 x hx2) ?_ T01_cmp
                    first
                    | (refine WC2_two (o := 10) ((a6.up (Nat.le_succ _)).of (fun x g1 g2 => by rw [upK_lt (by omega), b5 x g2])) (b6.of (fun x g1 g2 => upK_lt g2)) (upK_s _ _ _) (by decide) (by decide) (tCmp_ar (fun v w => ?_))
                       rw [show cd j = 160 from (hx.sign a2 (c := 60) (by decide)).mp c_137]; exact tCmp_10 v w)
                    | (refine WC2_two (o := 11) ((a6.up (Nat.le_succ _)).of (fun x g1 g2 => by rw [upK_lt (by omega), b5 x g2])) (b6.of (fun x g1 g2 => upK_lt g2)) (upK_s _ _ _) (by decide) (by decide) (tCmp_ar (fun v w => ?_))
                       rw [show cd j = 162 from (hx.sign a2 (c := 62) (by decide)).mp c_148]; exact tCmp_11 v w)
                    | (refine WC2_two (o := 12) ((a6.up (Nat.le_succ _)).of (fun x g1 g2 => by rw [upK_lt (by omega), b5 x g2])) (b6.of (fun x g1 g2 => upK_lt g2)) (upK_s _ _ _) (by decide) (by decide) (tCmp_ar (fun v w => ?_))
                       have c161 : cd j = 161 := (hx.sign a2 (c := 61) (by decide)).mp (by first | exact c_105 | exact absurd c_93 c_137 | exact absurd c_99 c_148)
                       rw [c161]; exact tCmp_12 v w)
                  refine Vw.bipush (v := 11) (de_bipush (B 151 _ rfl) (B 152 _ rfl)) rfl (n := 153) rfl ?_
                  refine Vw.goto_ (n := 158) (de_goto_ (B 153 _ rfl) (B 154 _ rfl) (B 155 _ rfl)) rfl ?_
                  refine Vw.iconst (v := 0) (de_iconst_0 (B 158 _ rfl)) rfl (n := 159) rfl ?_
                  refine Vw.ivi2 (mi' := mX5_emit) (de_invokevirtual (B 159 _ rfl) (B 160 _ rfl) (B 161 _ rfl)) ml_X5_143 mv_X5_emit hx.rd.k (Nat.le_of_ble_eq_true rfl) (n := 162) rfl (k_emit (op := 11) (k := 0) hx (by decide) (by decide) (show c3 < 400 by omega) ?_)
                  refine Vw.pop (de_pop (B 162 _ rfl)) rfl (n := 163) rfl ?_
                  have gA := a6.1
                  have gB := b6.1
                  have eP : pPos cd none (X cd vl o) (pNots cd 402 i false).1 l = .ok (j3, l3, tCmp (cd j) d2 d3) := by
                    rw [eN1]; unfold pPos; rw [if_neg c140, e2]; dsimp only; rw [if_pos jc.1, e3]
                  refine fin b j3 l3 _ (c3 + 1) _ _ eP eN2 (by omega) (by omega) b2 b3 (fun x hx2 => by rw [upK_lt (by omega), b5 x (by omega)]; exact a5 x hx2) ?_ T01_cmp
                  first
                  | (refine WC2_two (o := 10) ((a6.up (Nat.le_succ _)).of (fun x g1 g2 => by rw [upK_lt (by omega), b5 x g2])) (b6.of (fun x g1 g2 => upK_lt g2)) (upK_s _ _ _) (by decide) (by decide) (tCmp_ar (fun v w => ?_))
                     rw [show cd j = 160 from (hx.sign a2 (c := 60) (by decide)).mp c_137]; exact tCmp_10 v w)
                  | (refine WC2_two (o := 11) ((a6.up (Nat.le_succ _)).of (fun x g1 g2 => by rw [upK_lt (by omega), b5 x g2])) (b6.of (fun x g1 g2 => upK_lt g2)) (upK_s _ _ _) (by decide) (by decide) (tCmp_ar (fun v w => ?_))
                     rw [show cd j = 162 from (hx.sign a2 (c := 62) (by decide)).mp c_148]; exact tCmp_11 v w)
                  | (refine WC2_two (o := 12) ((a6.up (Nat.le_succ _)).of (fun x g1 g2 => by rw [upK_lt (by omega), b5 x g2])) (b6.of (fun x g1 g2 => upK_lt g2)) (upK_s _ _ _) (by decide) (by decide) (tCmp_ar (fun v w => ?_))
                     have c161 : cd j = 161 := (hx.sign a2 (c := 61) (by decide)).mp (by first | exact c_105 | exact absurd c_93 c_137 | exact absurd c_99 c_148)
                     rw [c161]; exact tCmp_12 v w)
                refine Vw.bipush (v := 10) (de_bipush (B 140 _ rfl) (B 141 _ rfl)) rfl (n := 142) rfl ?_
                refine Vw.goto_ (n := 158) (de_goto_ (B 142 _ rfl) (B 143 _ rfl) (B 144 _ rfl)) rfl ?_
                refine Vw.iconst (v := 0) (de_iconst_0 (B 158 _ rfl)) rfl (n := 159) rfl ?_
                refine Vw.ivi2 (mi' := mX5_emit) (de_invokevirtual (B 159 _ rfl) (B 160 _ rfl) (B 161 _ rfl)) ml_X5_143 mv_X5_emit hx.rd.k (Nat.le_of_ble_eq_true rfl) (n := 162) rfl (k_emit (op := 10) (k := 0) hx (by decide) (by decide) (show c3 < 400 by omega) ?_)
                refine Vw.pop (de_pop (B 162 _ rfl)) rfl (n := 163) rfl ?_
                have gA := a6.1
                have gB := b6.1
                have eP : pPos cd none (X cd vl o) (pNots cd 402 i false).1 l = .ok (j3, l3, tCmp (cd j) d2 d3) := by
                  rw [eN1]; unfold pPos; rw [if_neg c140, e2]; dsimp only; rw [if_pos jc.1, e3]
                refine fin b j3 l3 _ (c3 + 1) _ _ eP eN2 (by omega) (by omega) b2 b3 (fun x hx2 => by rw [upK_lt (by omega), b5 x (by omega)]; exact a5 x hx2) ?_ T01_cmp
                first
                | (refine WC2_two (o := 10) ((a6.up (Nat.le_succ _)).of (fun x g1 g2 => by rw [upK_lt (by omega), b5 x g2])) (b6.of (fun x g1 g2 => upK_lt g2)) (upK_s _ _ _) (by decide) (by decide) (tCmp_ar (fun v w => ?_))
                   rw [show cd j = 160 from (hx.sign a2 (c := 60) (by decide)).mp c_137]; exact tCmp_10 v w)
                | (refine WC2_two (o := 11) ((a6.up (Nat.le_succ _)).of (fun x g1 g2 => by rw [upK_lt (by omega), b5 x g2])) (b6.of (fun x g1 g2 => upK_lt g2)) (upK_s _ _ _) (by decide) (by decide) (tCmp_ar (fun v w => ?_))
                   rw [show cd j = 162 from (hx.sign a2 (c := 62) (by decide)).mp c_148]; exact tCmp_11 v w)
                | (refine WC2_two (o := 12) ((a6.up (Nat.le_succ _)).of (fun x g1 g2 => by rw [upK_lt (by omega), b5 x g2])) (b6.of (fun x g1 g2 => upK_lt g2)) (upK_s _ _ _) (by decide) (by decide) (tCmp_ar (fun v w => ?_))
                   have c161 : cd j = 161 := (hx.sign a2 (c := 61) (by decide)).mp (by first | exact c_105 | exact absurd c_93 c_137 | exact absurd c_99 c_148)
                   rw [c161]; exact tCmp_12 v w)
              exact absurd c_128 (by decide)
            · refine Vw.if_ne (tgt := 133) (n := 131) (de_if_ne (B 128 _ rfl) (B 129 _ rfl) (B 130 _ rfl)) rfl rfl (fun c_128 => ?_) (fun c_128 => ?_)
              · exact absurd c_128 (by decide)
              refine Vw.iconst (v := 0) (de_iconst_0 (B 131 _ rfl)) rfl (n := 132) rfl ?_
              exact Vw.zret (de_ireturn (B 132 _ rfl)) rfl rfl ⟨_, rfl, (bad e t3 l3 c3 w3 (by unfold pPos; rw [if_neg c140, e2]; dsimp only; rw [if_pos jc.1, e3]) b1)⟩
          refine Vw.aload_n (de_aload_0 (B 108 _ rfl)) 0 rfl (n := 109) rfl ?_
          refine Vw.ivi0 (mi' := mX5_fail) (de_invokevirtual (B 109 _ rfl) (B 110 _ rfl) (B 111 _ rfl)) ml_X5_67 mv_X5_fail hx.rd.k (Nat.le_of_ble_eq_true rfl) (n := 112) rfl (k_fail hx a2 ?_)
          exact Vw.zret (de_ireturn (B 112 _ rfl)) rfl rfl ⟨_, rfl, (bad j _ _ _ _ (by
      unfold pPos
      rw [if_neg c140, e2]
      dsimp only
      rw [if_neg ?_]
      intro z
      unfold isCmp at z
      simp only [Bool.or_eq_true, decide_eq_true_eq] at z
      rcases z with (z | z) | z
      · exact c_93 ((hx.sign a2 (c := 60) (by decide)).mpr z)
      · exact c_99 ((hx.sign a2 (c := 62) (by decide)).mpr z)
      · exact c_105 ((hx.sign a2 (c := 61) (by decide)).mpr z)) a2)⟩
        exact absurd c_75 (by decide)
      · refine Vw.if_ne (tgt := 80) (n := 78) (de_if_ne (B 75 _ rfl) (B 76 _ rfl) (B 77 _ rfl)) rfl rfl (fun c_75 => ?_) (fun c_75 => ?_)
        · exact absurd c_75 (by decide)
        refine Vw.iconst (v := 0) (de_iconst_0 (B 78 _ rfl)) rfl (n := 79) rfl ?_
        exact Vw.zret (de_ireturn (B 79 _ rfl)) rfl rfl ⟨_, rfl, (bad e t2 l2 c2 w2 (by unfold pPos; rw [if_neg c140, e2]) a1)⟩
    have c140 : cd q = 140 := (hx.sign hqn (c := 40) (by decide)).mp c_57
    have q1 : q < nt := by
      rcases Nat.lt_or_ge q nt with z | z
      · exact z
      · rw [show q = nt by omega, hx.c0] at c140; exact absurd c140 (by decide)
    refine Vw.aload_n (de_aload_0 (B 60 _ rfl)) 0 rfl (n := 61) rfl ?_
    refine Vw.iload_n (de_iload_1 (B 61 _ rfl)) 1 rfl (n := 62) rfl ?_
    refine Vw.ivi1 (mi' := mX5_readInner) (de_invokevirtual (B 62 _ rfl) (B 63 _ rfl) (B 64 _ rfl)) ml_X5_156 mv_X5_readInner hx.rd.k (Nat.le_of_ble_eq_true rfl) (n := 65) rfl (k_inner0 hx hqn ?_)
    refine Vw.if_ne (tgt := 163) (n := 68) (de_if_ne (B 65 _ rfl) (B 66 _ rfl) (B 67 _ rfl)) rfl rfl (fun c_65 => ?_) (fun c_65 => ?_)
    · exact absurd rfl c_65
    refine Vw.iconst (v := 0) (de_iconst_0 (B 68 _ rfl)) rfl (n := 69) rfl ?_
    exact Vw.zret (de_ireturn (B 69 _ rfl)) rfl rfl ⟨_, rfl, (bad q _ _ _ _ (by unfold pPos; rw [if_pos c140]) hqn)⟩
  have loop : ∀ it, it ≤ 400 → ∀ b, (pNots cd 402 i false) = pNots cd (401 - it + 1) (i + it) b → i + it ≤ nt → (if b = true then 1 else 0) ≤ it → Vw mX5_readPlain (d + (E + 7)) 0 0 0 0 (ViQ Q) 4 [(0, .ref (s + 74)), (1, .int 8), (2, .int (bI b)), (3, .int (nI it))] [] S (rm I s (nI (i + it)) (nI l) (nI c) f w) L := by
    refine loop_up (fun it hit ih => ?_)
    intro b eN hn hb
    have out : ¬ cd (i + it) = 9 → (pNots cd 402 i false) = (i + it, b) := fun z => by rw [eN, pNots, if_neg z]
    cases b with
    | true =>
      have hb0 := hb
      rw [if_pos rfl] at hb
      refine Vw.iload_n (de_iload_3 (B 4 _ rfl)) 3 rfl (n := 5) rfl ?_
      refine Vw.sipush (v := 400) (de_sipush (B 5 _ rfl) (B 6 _ rfl) (B 7 _ rfl)) rfl (n := 8) rfl ?_
      refine Vw.icmp_ge (tgt := 46) (n := 11) (de_icmp_ge (B 8 _ rfl) (B 9 _ rfl) (B 10 _ rfl)) rfl rfl (fun c_8 => ?_) (fun c_8 => ?_)
      · exact pos _ (i + it) _ (out (fun z => by
          have z5 : 400 ≤ it := (nI_leI (a := 400) (b := it) (by omega) (by omega)).mp c_8
          rw [show i + it = nt by omega, hx.c0] at z
          exact absurd z (by decide))) (by omega) hn
      refine Vw.aload_n (de_aload_0 (B 11 _ rfl)) 0 rfl (n := 12) rfl ?_
      obtain ⟨z12, hz12⟩ := hx.str 8 (by decide)
      refine Vw.ldcS (i := 8) (de_ldc (B 12 _ rfl) (B 13 _ rfl)) rfl (by decide) hz12.2.1 (n := 14) rfl ?_
      refine Vw.ivi1 (mi' := mX5_isWord) (de_invokevirtual (B 14 _ rfl) (B 15 _ rfl) (B 16 _ rfl)) ml_X5_119 mv_X5_isWord hx.rd.k (Nat.le_of_ble_eq_true rfl) (n := 17) rfl (k_isWord (i := i + it) hx hz12 (by decide) hn (fun c9 => ?_) (fun c9 => ?_))
      · have c9b : cd (i + it) = 9 := c9
        have lt9 : i + it < nt := by
          rcases Nat.lt_or_ge (i + it) nt with z | z
          · exact z
          · rw [show i + it = nt by omega, hx.c0] at c9b; exact absurd c9b (by decide)
        refine Vw.if_eq (tgt := 46) (n := 20) (de_if_eq (B 17 _ rfl) (B 18 _ rfl) (B 19 _ rfl)) rfl rfl (fun c_17 => ?_) (fun c_17 => ?_)
        · exact absurd c_17 (by decide)
        refine Vw.aload_n (de_aload_0 (B 20 _ rfl)) 0 rfl (n := 21) rfl ?_
        refine Vw.dup (de_dup (B 21 _ rfl)) rfl (n := 22) rfl ?_
        skip
        refine Vw.getI (de_getfield (B 22 _ rfl) (B 23 _ rfl) (B 24 _ rfl)) fl_X5_48 rfl hx.rd.k (n := 25) rfl ?_
        rw [rm_8]
        refine Vw.iconst (v := 1) (de_iconst_1 (B 25 _ rfl)) rfl (n := 26) rfl ?_
        refine Vw.iadd (de_iadd (B 26 _ rfl)) (n := 27) rfl ?_
        rw [nI_1]
        refine Vw.putI (de_putfield (B 27 _ rfl) (B 28 _ rfl) (B 29 _ rfl)) fl_X5_48 hx.rd.k rfl rfl (n := 30) rfl ?_
        rw [up_8]
        refine Vw.iload_n (de_iload_2 (B 30 _ rfl)) 2 rfl (n := 31) rfl ?_
        refine Vw.if_ne (tgt := 38) (n := 34) (de_if_ne (B 31 _ rfl) (B 32 _ rfl) (B 33 _ rfl)) rfl rfl (fun c_31 => ?_) (fun c_31 => ?_)
        · refine Vw.iconst (v := 0) (de_iconst_0 (B 38 _ rfl)) rfl (n := 39) rfl ?_
          refine Vw.istore_n (lv2 := [(0, _), (1, _), (2, _), (3, _)]) (de_istore_2 (B 39 _ rfl)) rfl (by decide) [1, 2, 0, 3] rfl (n := 40) rfl ?_
          refine Vw.iinc (v := nI (it + 1)) (lv2 := [(0, _), (1, _), (2, _), (3, _)]) (de_iinc (B 40 _ rfl) (B 41 _ rfl) (B 42 _ rfl)) 3 rfl (nI_1 it) (by decide) [1, 2, 3, 0] rfl (n := 43) rfl ?_
          refine Vw.goto_ (n := 4) (de_goto_ (B 43 _ rfl) (B 44 _ rfl) (B 45 _ rfl)) rfl ?_
          have g := ih (by omega) false (by rw [eN, pNots, if_pos c9b, show 401 - it = 401 - (it + 1) + 1 by omega]; rfl) (by omega) (by rw [if_neg (by decide)]; omega)
          exact g
        exact absurd c_31 (by decide)
      · refine Vw.if_eq (tgt := 46) (n := 20) (de_if_eq (B 17 _ rfl) (B 18 _ rfl) (B 19 _ rfl)) rfl rfl (fun c_17 => ?_) (fun c_17 => ?_)
        · exact pos _ (i + it) _ (out c9) (by omega) hn
        exact absurd c_17 (by decide)
    | false =>
      have hb0 := hb
      rw [if_neg (by decide)] at hb
      refine Vw.iload_n (de_iload_3 (B 4 _ rfl)) 3 rfl (n := 5) rfl ?_
      refine Vw.sipush (v := 400) (de_sipush (B 5 _ rfl) (B 6 _ rfl) (B 7 _ rfl)) rfl (n := 8) rfl ?_
      refine Vw.icmp_ge (tgt := 46) (n := 11) (de_icmp_ge (B 8 _ rfl) (B 9 _ rfl) (B 10 _ rfl)) rfl rfl (fun c_8 => ?_) (fun c_8 => ?_)
      · exact pos _ (i + it) _ (out (fun z => by
          have z5 : 400 ≤ it := (nI_leI (a := 400) (b := it) (by omega) (by omega)).mp c_8
          rw [show i + it = nt by omega, hx.c0] at z
          exact absurd z (by decide))) (by omega) hn
      refine Vw.aload_n (de_aload_0 (B 11 _ rfl)) 0 rfl (n := 12) rfl ?_
      obtain ⟨z12, hz12⟩ := hx.str 8 (by decide)
      refine Vw.ldcS (i := 8) (de_ldc (B 12 _ rfl) (B 13 _ rfl)) rfl (by decide) hz12.2.1 (n := 14) rfl ?_
      refine Vw.ivi1 (mi' := mX5_isWord) (de_invokevirtual (B 14 _ rfl) (B 15 _ rfl) (B 16 _ rfl)) ml_X5_119 mv_X5_isWord hx.rd.k (Nat.le_of_ble_eq_true rfl) (n := 17) rfl (k_isWord (i := i + it) hx hz12 (by decide) hn (fun c9 => ?_) (fun c9 => ?_))
      · have c9b : cd (i + it) = 9 := c9
        have lt9 : i + it < nt := by
          rcases Nat.lt_or_ge (i + it) nt with z | z
          · exact z
          · rw [show i + it = nt by omega, hx.c0] at c9b; exact absurd c9b (by decide)
        refine Vw.if_eq (tgt := 46) (n := 20) (de_if_eq (B 17 _ rfl) (B 18 _ rfl) (B 19 _ rfl)) rfl rfl (fun c_17 => ?_) (fun c_17 => ?_)
        · exact absurd c_17 (by decide)
        refine Vw.aload_n (de_aload_0 (B 20 _ rfl)) 0 rfl (n := 21) rfl ?_
        refine Vw.dup (de_dup (B 21 _ rfl)) rfl (n := 22) rfl ?_
        skip
        refine Vw.getI (de_getfield (B 22 _ rfl) (B 23 _ rfl) (B 24 _ rfl)) fl_X5_48 rfl hx.rd.k (n := 25) rfl ?_
        rw [rm_8]
        refine Vw.iconst (v := 1) (de_iconst_1 (B 25 _ rfl)) rfl (n := 26) rfl ?_
        refine Vw.iadd (de_iadd (B 26 _ rfl)) (n := 27) rfl ?_
        rw [nI_1]
        refine Vw.putI (de_putfield (B 27 _ rfl) (B 28 _ rfl) (B 29 _ rfl)) fl_X5_48 hx.rd.k rfl rfl (n := 30) rfl ?_
        rw [up_8]
        refine Vw.iload_n (de_iload_2 (B 30 _ rfl)) 2 rfl (n := 31) rfl ?_
        refine Vw.if_ne (tgt := 38) (n := 34) (de_if_ne (B 31 _ rfl) (B 32 _ rfl) (B 33 _ rfl)) rfl rfl (fun c_31 => ?_) (fun c_31 => ?_)
        · exact absurd rfl c_31
        refine Vw.iconst (v := 1) (de_iconst_1 (B 34 _ rfl)) rfl (n := 35) rfl ?_
        refine Vw.goto_ (n := 39) (de_goto_ (B 35 _ rfl) (B 36 _ rfl) (B 37 _ rfl)) rfl ?_
        refine Vw.istore_n (lv2 := [(0, _), (1, _), (2, _), (3, _)]) (de_istore_2 (B 39 _ rfl)) rfl (by decide) [1, 2, 0, 3] rfl (n := 40) rfl ?_
        refine Vw.iinc (v := nI (it + 1)) (lv2 := [(0, _), (1, _), (2, _), (3, _)]) (de_iinc (B 40 _ rfl) (B 41 _ rfl) (B 42 _ rfl)) 3 rfl (nI_1 it) (by decide) [1, 2, 3, 0] rfl (n := 43) rfl ?_
        refine Vw.goto_ (n := 4) (de_goto_ (B 43 _ rfl) (B 44 _ rfl) (B 45 _ rfl)) rfl ?_
        have g := ih (by omega) true (by rw [eN, pNots, if_pos c9b, show 401 - it = 401 - (it + 1) + 1 by omega]; rfl) (by omega) (by rw [if_pos rfl]; omega)
        exact g
      · refine Vw.if_eq (tgt := 46) (n := 20) (de_if_eq (B 17 _ rfl) (B 18 _ rfl) (B 19 _ rfl)) rfl rfl (fun c_17 => ?_) (fun c_17 => ?_)
        · exact pos _ (i + it) _ (out c9) (by omega) hn
        exact absurd c_17 (by decide)
  refine Vw.iconst (v := 0) (de_iconst_0 (B 0 _ rfl)) rfl (n := 1) rfl ?_
  refine Vw.istore_n (lv2 := [(0, _), (1, _), (2, _)]) (de_istore_2 (B 1 _ rfl)) rfl (by decide) [1, 2, 0] rfl (n := 2) rfl ?_
  refine Vw.iconst (v := 0) (de_iconst_0 (B 2 _ rfl)) rfl (n := 3) rfl ?_
  refine Vw.istore_n (lv2 := [(0, _), (1, _), (2, _), (3, _)]) (de_istore_3 (B 3 _ rfl)) rfl (by decide) [1, 2, 3, 0] rfl (n := 4) rfl ?_
  exact loop 0 (Nat.zero_le _) false rfl hi (by decide)
theorem kr_plainS {E Ds dn0 : Nat} {X Y : (Nat → Int32) → (Nat → Int32) → Bool → Nat → Nat → tR tD} (hS : KR mX5_readSum (E + 6) [.int (nI dn0)] X Ds false) (hd8 : dn0 < 8) (hT : KR mX5_readTest (E + 5) [.int (nI (dn0 + 1))] Y (Ds + 1) true) : KR mX5_readPlain (E + 7) [.int (nI dn0)] (fun cd vl o => pPlain cd (some (Y cd vl o)) (X cd vl o)) (Ds + 1) true := by
  intro d S I L Q s tp u cd vl nt o i l c f w hx hi hl hci h1 h0
  dsimp only at h1 h0
  have h4 := hx.n4
  refine Vc.of rfl (Nat.le_of_ble_eq_true rfl) ?_
  have B := bs_X5_readPlain
  show Vw mX5_readPlain (d + (E + 7)) 0 0 0 0 (ViQ Q) 0 [(0, .ref (s + 74)), (1, .int (nI dn0))] [] S (rm I s (nI i) (nI l) (nI c) f w) L
  have fin : ∀ b j l2 dn c2 w2 x3, pPos cd (some (Y cd vl o)) (X cd vl o) (pNots cd 402 i false).1 l = .ok (j, l2, dn) → (pNots cd 402 i false).2 = b → i < j → i + (if b = true then 1 else 0) + c2 ≤ c + j → j ≤ nt → l2 ≤ 50 → (∀ x, x < c → w2 x = w x) → WC2 (klO o) w2 c c2 dn (Ds + 1) → T01 dn → Vw mX5_readPlain (d + (E + 7)) 0 0 0 0 (ViQ Q) 163 [(0, .ref (s + 74)), (1, .int (nI dn0)), (2, .int (bI b)), (3, .int x3)] [] S (rm I s (nI j) (nI l2) (nI c2) f w2) L := by
    intro b j l2 dn c2 w2 x3 eP eb hij hcj hjn hl2 hw hWC hT1
    have gW := hWC.1
    cases b with
    | true =>
      rw [if_pos rfl] at hcj
      refine Vw.iload_n (de_iload_2 (B 163 _ rfl)) 2 rfl (n := 164) rfl ?_
      refine Vw.if_eq (tgt := 174) (n := 167) (de_if_eq (B 164 _ rfl) (B 165 _ rfl) (B 166 _ rfl)) rfl rfl (fun c_164 => ?_) (fun c_164 => ?_)
      · exact absurd c_164 (by decide)
      refine Vw.aload_n (de_aload_0 (B 167 _ rfl)) 0 rfl (n := 168) rfl ?_
      refine Vw.iconst (v := 4) (de_iconst_4 (B 168 _ rfl)) rfl (n := 169) rfl ?_
      refine Vw.iconst (v := 0) (de_iconst_0 (B 169 _ rfl)) rfl (n := 170) rfl ?_
      refine Vw.ivi2 (mi' := mX5_emit) (de_invokevirtual (B 170 _ rfl) (B 171 _ rfl) (B 172 _ rfl)) ml_X5_143 mv_X5_emit hx.rd.k (Nat.le_of_ble_eq_true rfl) (n := 173) rfl (k_emit (op := 4) (k := 0) hx (by decide) (by decide) (show c2 < 400 by omega) ?_)
      refine Vw.pop (de_pop (B 173 _ rfl)) rfl (n := 174) rfl ?_
      refine Vw.iconst (v := 1) (de_iconst_1 (B 174 _ rfl)) rfl (n := 175) rfl ?_
      exact Vw.zret (de_ireturn (B 175 _ rfl)) rfl rfl ⟨_, rfl, (h1 j l2 (tNot dn) (c2 + 1) _ (by unfold pPlain; rw [eP]; dsimp only; rw [eb, if_pos rfl]) hij hjn hl2 (by omega) (fun x hx2 => by rw [upK_lt (by omega)]; exact hw x hx2) (WC2_not (hWC.of (fun x g1 g2 => upK_lt g2)) (upK_s _ _ _) hT1) (fun _ => T01_not))⟩
    | false =>
      rw [if_neg (by decide)] at hcj
      refine Vw.iload_n (de_iload_2 (B 163 _ rfl)) 2 rfl (n := 164) rfl ?_
      refine Vw.if_eq (tgt := 174) (n := 167) (de_if_eq (B 164 _ rfl) (B 165 _ rfl) (B 166 _ rfl)) rfl rfl (fun c_164 => ?_) (fun c_164 => ?_)
      · refine Vw.iconst (v := 1) (de_iconst_1 (B 174 _ rfl)) rfl (n := 175) rfl ?_
        exact Vw.zret (de_ireturn (B 175 _ rfl)) rfl rfl ⟨_, rfl, (h1 j l2 dn c2 w2 (by unfold pPlain; rw [eP]; dsimp only; rw [eb, if_neg (by decide)]) hij hjn hl2 (by omega) hw hWC (fun _ => hT1))⟩
      exact absurd (by decide) c_164
  have pos : ∀ b q x3, (pNots cd 402 i false) = (q, b) → i + (if b = true then 1 else 0) ≤ q → q ≤ nt → Vw mX5_readPlain (d + (E + 7)) 0 0 0 0 (ViQ Q) 46 [(0, .ref (s + 74)), (1, .int (nI dn0)), (2, .int (bI b)), (3, .int x3)] [] S (rm I s (nI q) (nI l) (nI c) f w) L := by
    intro b q x3 eN hiq hqn
    have eN1 : (pNots cd 402 i false).1 = q := by rw [eN]
    have eN2 : (pNots cd 402 i false).2 = b := by rw [eN]
    have bad : ∀ e t l2 c2 w2, pPos cd (some (Y cd vl o)) (X cd vl o) q l = .error e → e ≤ nt → Q 0 S (rm I s t l2 c2 (I (s + 84) e) w2) L := fun e t l2 c2 w2 he hn => h0 e t l2 c2 w2 (by unfold pPlain; rw [eN1, he]) hn
    have iq : i ≤ q := by omega
    refine Vw.aload_n (de_aload_0 (B 46 _ rfl)) 0 rfl (n := 47) rfl ?_
    refine Vw.getR (de_getfield (B 47 _ rfl) (B 48 _ rfl) (B 49 _ rfl)) fl_X5_20 rfl hx.rd.k hx.rd.f1 (n := 50) rfl ?_
    refine Vw.aload_n (de_aload_0 (B 50 _ rfl)) 0 rfl (n := 51) rfl ?_
    refine Vw.getI (de_getfield (B 51 _ rfl) (B 52 _ rfl) (B 53 _ rfl)) fl_X5_48 rfl hx.rd.k (n := 54) rfl ?_
    rw [rm_8]
    refine Vw.iald (de_iaload (B 54 _ rfl)) hx.rd.r1 (vIx_n (k := q) rfl (by omega)) (n := 55) rfl ?_
    rw [rm_kd]
    refine Vw.bipush (v := 40) (de_bipush (B 55 _ rfl) (B 56 _ rfl)) rfl (n := 57) rfl ?_
    refine Vw.icmp_ne (tgt := 70) (n := 60) (de_icmp_ne (B 57 _ rfl) (B 58 _ rfl) (B 59 _ rfl)) rfl rfl (fun c_57 => ?_) (fun c_57 => ?_)
    · have c140 : ¬ cd q = 140 := fun z => c_57 ((hx.sign hqn (c := 40) (by decide)).mpr z)
      refine Vw.aload_n (de_aload_0 (B 70 _ rfl)) 0 rfl (n := 71) rfl ?_
      refine Vw.iload_n (de_iload_1 (B 71 _ rfl)) 1 rfl (n := 72) rfl ?_
      refine Vw.ivi1 (mi' := mX5_readSum) (de_invokevirtual (B 72 _ rfl) (B 73 _ rfl) (B 74 _ rfl)) ml_X5_106 mv_X5_readSum hx.rd.k (Nat.le_of_ble_eq_true rfl) (n := 75) rfl (hS d S I L _ s tp u cd vl nt o q l c f w hx hqn hl (by omega) (fun j l2 d2 c2 w2 e2 a1 a2 a3 a4 a5 a6 a7 => ?_) (fun e t2 l2 c2 w2 e2 a1 => ?_))
      · refine Vw.if_ne (tgt := 80) (n := 78) (de_if_ne (B 75 _ rfl) (B 76 _ rfl) (B 77 _ rfl)) rfl rfl (fun c_75 => ?_) (fun c_75 => ?_)
        · refine Vw.aload_n (de_aload_0 (B 80 _ rfl)) 0 rfl (n := 81) rfl ?_
          refine Vw.getR (de_getfield (B 81 _ rfl) (B 82 _ rfl) (B 83 _ rfl)) fl_X5_20 rfl hx.rd.k hx.rd.f1 (n := 84) rfl ?_
          refine Vw.aload_n (de_aload_0 (B 84 _ rfl)) 0 rfl (n := 85) rfl ?_
          refine Vw.getI (de_getfield (B 85 _ rfl) (B 86 _ rfl) (B 87 _ rfl)) fl_X5_48 rfl hx.rd.k (n := 88) rfl ?_
          rw [rm_8]
          refine Vw.iald (de_iaload (B 88 _ rfl)) hx.rd.r1 (vIx_n (k := j) rfl (by omega)) (n := 89) rfl ?_
          rw [rm_kd]
          refine Vw.istore_n (lv2 := [(0, _), (1, _), (2, _), (3, _)]) (de_istore_3 (B 89 _ rfl)) rfl (by decide) [1, 2, 3, 0] rfl (n := 90) rfl ?_
          refine Vw.iload_n (de_iload_3 (B 90 _ rfl)) 3 rfl (n := 91) rfl ?_
          refine Vw.bipush (v := 60) (de_bipush (B 91 _ rfl) (B 92 _ rfl)) rfl (n := 93) rfl ?_
          refine Vw.icmp_eq (tgt := 113) (n := 96) (de_icmp_eq (B 93 _ rfl) (B 94 _ rfl) (B 95 _ rfl)) rfl rfl (fun c_93 => ?_) (fun c_93 => ?_)
          · have jc : isCmp (cd j) = true ∧ j < nt := by
              have hc : isCmp (cd j) = true := by
                unfold isCmp
                first
                | (rw [show cd j = 160 from (hx.sign a2 (c := 60) (by decide)).mp c_93]; rfl)
                | (rw [show cd j = 162 from (hx.sign a2 (c := 62) (by decide)).mp c_99]; rfl)
                | (rw [show cd j = 161 from (hx.sign a2 (c := 61) (by decide)).mp c_105]; rfl)
              refine ⟨hc, ?_⟩
              rcases Nat.lt_or_ge j nt with z | z
              · exact z
              · rw [show j = nt by omega, hx.c0] at hc; exact absurd hc (by decide)
            refine Vw.aload_n (de_aload_0 (B 113 _ rfl)) 0 rfl (n := 114) rfl ?_
            refine Vw.dup (de_dup (B 114 _ rfl)) rfl (n := 115) rfl ?_
            refine Vw.getI (de_getfield (B 115 _ rfl) (B 116 _ rfl) (B 117 _ rfl)) fl_X5_48 rfl hx.rd.k (n := 118) rfl ?_
            rw [rm_8]
            refine Vw.iconst (v := 1) (de_iconst_1 (B 118 _ rfl)) rfl (n := 119) rfl ?_
            refine Vw.iadd (de_iadd (B 119 _ rfl)) (n := 120) rfl ?_
            rw [nI_1]
            refine Vw.putI (de_putfield (B 120 _ rfl) (B 121 _ rfl) (B 122 _ rfl)) fl_X5_48 hx.rd.k rfl rfl (n := 123) rfl ?_
            rw [up_8]
            refine Vw.aload_n (de_aload_0 (B 123 _ rfl)) 0 rfl (n := 124) rfl ?_
            refine Vw.iload_n (de_iload_1 (B 124 _ rfl)) 1 rfl (n := 125) rfl ?_
            refine Vw.ivi1 (mi' := mX5_readSum) (de_invokevirtual (B 125 _ rfl) (B 126 _ rfl) (B 127 _ rfl)) ml_X5_106 mv_X5_readSum hx.rd.k (Nat.le_of_ble_eq_true rfl) (n := 128) rfl (hS d S I L _ s tp u cd vl nt o (j + 1) l2 c2 f w2 hx (by have := jc.2; omega) a3 (by omega) (fun j3 l3 d3 c3 w3 e3 b1 b2 b3 b4 b5 b6 b7 => ?_) (fun e t3 l3 c3 w3 e3 b1 => ?_))
            · refine Vw.if_ne (tgt := 133) (n := 131) (de_if_ne (B 128 _ rfl) (B 129 _ rfl) (B 130 _ rfl)) rfl rfl (fun c_128 => ?_) (fun c_128 => ?_)
              · refine Vw.aload_n (de_aload_0 (B 133 _ rfl)) 0 rfl (n := 134) rfl ?_
                refine Vw.iload_n (de_iload_3 (B 134 _ rfl)) 3 rfl (n := 135) rfl ?_
                refine Vw.bipush (v := 60) (de_bipush (B 135 _ rfl) (B 136 _ rfl)) rfl (n := 137) rfl ?_
                refine Vw.icmp_ne (tgt := 145) (n := 140) (de_icmp_ne (B 137 _ rfl) (B 138 _ rfl) (B 139 _ rfl)) rfl rfl (fun c_137 => ?_) (fun c_137 => ?_)
                · refine Vw.iload_n (de_iload_3 (B 145 _ rfl)) 3 rfl (n := 146) rfl ?_
                  refine Vw.bipush (v := 62) (de_bipush (B 146 _ rfl) (B 147 _ rfl)) rfl (n := 148) rfl ?_
                  refine Vw.icmp_ne (tgt := 156) (n := 151) (de_icmp_ne (B 148 _ rfl) (B 149 _ rfl) (B 150 _ rfl)) rfl rfl (fun c_148 => ?_) (fun c_148 => ?_)
                  · refine Vw.bipush (v := 12) (de_bipush (B 156 _ rfl) (B 157 _ rfl)) rfl (n := 158) rfl ?_
                    refine Vw.iconst (v := 0) (de_iconst_0 (B 158 _ rfl)) rfl (n := 159) rfl ?_
                    refine Vw.ivi2 (mi' := mX5_emit) (de_invokevirtual (B 159 _ rfl) (B 160 _ rfl) (B 161 _ rfl)) ml_X5_143 mv_X5_emit hx.rd.k (Nat.le_of_ble_eq_true rfl) (n := 162) rfl (k_emit (op := 12) (k := 0) hx (by decide) (by decide) (show c3 < 400 by omega) ?_)
                    refine Vw.pop (de_pop (B 162 _ rfl)) rfl (n := 163) rfl ?_
                    have gA := a6.1
                    have gB := b6.1
                    have eP : pPos cd (some (Y cd vl o)) (X cd vl o) (pNots cd 402 i false).1 l = .ok (j3, l3, tCmp (cd j) d2 d3) := by
                      rw [eN1]; unfold pPos; rw [if_neg c140, e2]; dsimp only; rw [if_pos jc.1, e3]
                    refine fin b j3 l3 _ (c3 + 1) _ _ eP eN2 (by omega) (by omega) b2 b3 (fun x hx2 => by rw [upK_lt (by omega), b5 x (by omega)]; exact a5 x hx2) ?_ T01_cmp
                    first
                    | (refine WC2_two (o := 10) ((a6.up (Nat.le_succ _)).of (fun x g1 g2 => by rw [upK_lt (by omega), b5 x g2])) (b6.of (fun x g1 g2 => upK_lt g2)) (upK_s _ _ _) (by decide) (by decide) (tCmp_ar (fun v w => ?_))
                       rw [show cd j = 160 from (hx.sign a2 (c := 60) (by decide)).mp c_137]; exact tCmp_10 v w)
                    | (refine WC2_two (o := 11) ((a6.up (Nat.le_succ _)).of (fun x g1 g2 => by rw [upK_lt (by omega), b5 x g2])) (b6.of (fun x g1 g2 => upK_lt g2)) (upK_s _ _ _) (by decide) (by decide) (tCmp_ar (fun v w => ?_))
                       rw [show cd j = 162 from (hx.sign a2 (c := 62) (by decide)).mp c_148]; exact tCmp_11 v w)
                    | (refine WC2_two (o := 12) ((a6.up (Nat.le_succ _)).of (fun x g1 g2 => by rw [upK_lt (by omega), b5 x g2])) (b6.of (fun x g1 g2 => upK_lt g2)) (upK_s _ _ _) (by decide) (by decide) (tCmp_ar (fun v w => ?_))
                       have c161 : cd j = 161 := (hx.sign a2 (c := 61) (by decide)).mp (by first | exact c_105 | exact absurd c_93 c_137 | exact absurd c_99 c_148)
                       rw [c161]; exact tCmp_12 v w)
                  refine Vw.bipush (v := 11) (de_bipush (B 151 _ rfl) (B 152 _ rfl)) rfl (n := 153) rfl ?_
                  refine Vw.goto_ (n := 158) (de_goto_ (B 153 _ rfl) (B 154 _ rfl) (B 155 _ rfl)) rfl ?_
                  refine Vw.iconst (v := 0) (de_iconst_0 (B 158 _ rfl)) rfl (n := 159) rfl ?_
                  refine Vw.ivi2 (mi' := mX5_emit) (de_invokevirtual (B 159 _ rfl) (B 160 _ rfl) (B 161 _ rfl)) ml_X5_143 mv_X5_emit hx.rd.k (Nat.le_of_ble_eq_true rfl) (n := 162) rfl (k_emit (op := 11) (k := 0) hx (by decide) (by decide) (show c3 < 400 by omega) ?_)
                  refine Vw.pop (de_pop (B 162 _ rfl)) rfl (n := 163) rfl ?_
                  have gA := a6.1
                  have gB := b6.1
                  have eP : pPos cd (some (Y cd vl o)) (X cd vl o) (pNots cd 402 i false).1 l = .ok (j3, l3, tCmp (cd j) d2 d3) := by
                    rw [eN1]; unfold pPos; rw [if_neg c140, e2]; dsimp only; rw [if_pos jc.1, e3]
                  refine fin b j3 l3 _ (c3 + 1) _ _ eP eN2 (by omega) (by omega) b2 b3 (fun x hx2 => by rw [upK_lt (by omega), b5 x (by omega)]; exact a5 x hx2) ?_ T01_cmp
                  first
                  | (refine WC2_two (o := 10) ((a6.up (Nat.le_succ _)).of (fun x g1 g2 => by rw [upK_lt (by omega), b5 x g2])) (b6.of (fun x g1 g2 => upK_lt g2)) (upK_s _ _ _) (by decide) (by decide) (tCmp_ar (fun v w => ?_))
                     rw [show cd j = 160 from (hx.sign a2 (c := 60) (by decide)).mp c_137]; exact tCmp_10 v w)
                  | (refine WC2_two (o := 11) ((a6.up (Nat.le_succ _)).of (fun x g1 g2 => by rw [upK_lt (by omega), b5 x g2])) (b6.of (fun x g1 g2 => upK_lt g2)) (upK_s _ _ _) (by decide) (by decide) (tCmp_ar (fun v w => ?_))
                     rw [show cd j = 162 from (hx.sign a2 (c := 62) (by decide)).mp c_148]; exact tCmp_11 v w)
                  | (refine WC2_two (o := 12) ((a6.up (Nat.le_succ _)).of (fun x g1 g2 => by rw [upK_lt (by omega), b5 x g2])) (b6.of (fun x g1 g2 => upK_lt g2)) (upK_s _ _ _) (by decide) (by decide) (tCmp_ar (fun v w => ?_))
                     have c161 : cd j = 161 := (hx.sign a2 (c := 61) (by decide)).mp (by first | exact c_105 | exact absurd c_93 c_137 | exact absurd c_99 c_148)
                     rw [c161]; exact tCmp_12 v w)
                refine Vw.bipush (v := 10) (de_bipush (B 140 _ rfl) (B 141 _ rfl)) rfl (n := 142) rfl ?_
                refine Vw.goto_ (n := 158) (de_goto_ (B 142 _ rfl) (B 143 _ rfl) (B 144 _ rfl)) rfl ?_
                refine Vw.iconst (v := 0) (de_iconst_0 (B 158 _ rfl)) rfl (n := 159) rfl ?_
                refine Vw.ivi2 (mi' := mX5_emit) (de_invokevirtual (B 159 _ rfl) (B 160 _ rfl) (B 161 _ rfl)) ml_X5_143 mv_X5_emit hx.rd.k (Nat.le_of_ble_eq_true rfl) (n := 162) rfl (k_emit (op := 10) (k := 0) hx (by decide) (by decide) (show c3 < 400 by omega) ?_)
                refine Vw.pop (de_pop (B 162 _ rfl)) rfl (n := 163) rfl ?_
                have gA := a6.1
                have gB := b6.1
                have eP : pPos cd (some (Y cd vl o)) (X cd vl o) (pNots cd 402 i false).1 l = .ok (j3, l3, tCmp (cd j) d2 d3) := by
                  rw [eN1]; unfold pPos; rw [if_neg c140, e2]; dsimp only; rw [if_pos jc.1, e3]
                refine fin b j3 l3 _ (c3 + 1) _ _ eP eN2 (by omega) (by omega) b2 b3 (fun x hx2 => by rw [upK_lt (by omega), b5 x (by omega)]; exact a5 x hx2) ?_ T01_cmp
                first
                | (refine WC2_two (o := 10) ((a6.up (Nat.le_succ _)).of (fun x g1 g2 => by rw [upK_lt (by omega), b5 x g2])) (b6.of (fun x g1 g2 => upK_lt g2)) (upK_s _ _ _) (by decide) (by decide) (tCmp_ar (fun v w => ?_))
                   rw [show cd j = 160 from (hx.sign a2 (c := 60) (by decide)).mp c_137]; exact tCmp_10 v w)
                | (refine WC2_two (o := 11) ((a6.up (Nat.le_succ _)).of (fun x g1 g2 => by rw [upK_lt (by omega), b5 x g2])) (b6.of (fun x g1 g2 => upK_lt g2)) (upK_s _ _ _) (by decide) (by decide) (tCmp_ar (fun v w => ?_))
                   rw [show cd j = 162 from (hx.sign a2 (c := 62) (by decide)).mp c_148]; exact tCmp_11 v w)
                | (refine WC2_two (o := 12) ((a6.up (Nat.le_succ _)).of (fun x g1 g2 => by rw [upK_lt (by omega), b5 x g2])) (b6.of (fun x g1 g2 => upK_lt g2)) (upK_s _ _ _) (by decide) (by decide) (tCmp_ar (fun v w => ?_))
                   have c161 : cd j = 161 := (hx.sign a2 (c := 61) (by decide)).mp (by first | exact c_105 | exact absurd c_93 c_137 | exact absurd c_99 c_148)
                   rw [c161]; exact tCmp_12 v w)
              exact absurd c_128 (by decide)
            · refine Vw.if_ne (tgt := 133) (n := 131) (de_if_ne (B 128 _ rfl) (B 129 _ rfl) (B 130 _ rfl)) rfl rfl (fun c_128 => ?_) (fun c_128 => ?_)
              · exact absurd c_128 (by decide)
              refine Vw.iconst (v := 0) (de_iconst_0 (B 131 _ rfl)) rfl (n := 132) rfl ?_
              exact Vw.zret (de_ireturn (B 132 _ rfl)) rfl rfl ⟨_, rfl, (bad e t3 l3 c3 w3 (by unfold pPos; rw [if_neg c140, e2]; dsimp only; rw [if_pos jc.1, e3]) b1)⟩
          refine Vw.iload_n (de_iload_3 (B 96 _ rfl)) 3 rfl (n := 97) rfl ?_
          refine Vw.bipush (v := 62) (de_bipush (B 97 _ rfl) (B 98 _ rfl)) rfl (n := 99) rfl ?_
          refine Vw.icmp_eq (tgt := 113) (n := 102) (de_icmp_eq (B 99 _ rfl) (B 100 _ rfl) (B 101 _ rfl)) rfl rfl (fun c_99 => ?_) (fun c_99 => ?_)
          · have jc : isCmp (cd j) = true ∧ j < nt := by
              have hc : isCmp (cd j) = true := by
                unfold isCmp
                first
                | (rw [show cd j = 160 from (hx.sign a2 (c := 60) (by decide)).mp c_93]; rfl)
                | (rw [show cd j = 162 from (hx.sign a2 (c := 62) (by decide)).mp c_99]; rfl)
                | (rw [show cd j = 161 from (hx.sign a2 (c := 61) (by decide)).mp c_105]; rfl)
              refine ⟨hc, ?_⟩
              rcases Nat.lt_or_ge j nt with z | z
              · exact z
              · rw [show j = nt by omega, hx.c0] at hc; exact absurd hc (by decide)
            refine Vw.aload_n (de_aload_0 (B 113 _ rfl)) 0 rfl (n := 114) rfl ?_
            refine Vw.dup (de_dup (B 114 _ rfl)) rfl (n := 115) rfl ?_
            refine Vw.getI (de_getfield (B 115 _ rfl) (B 116 _ rfl) (B 117 _ rfl)) fl_X5_48 rfl hx.rd.k (n := 118) rfl ?_
            rw [rm_8]
            refine Vw.iconst (v := 1) (de_iconst_1 (B 118 _ rfl)) rfl (n := 119) rfl ?_
            refine Vw.iadd (de_iadd (B 119 _ rfl)) (n := 120) rfl ?_
            rw [nI_1]
            refine Vw.putI (de_putfield (B 120 _ rfl) (B 121 _ rfl) (B 122 _ rfl)) fl_X5_48 hx.rd.k rfl rfl (n := 123) rfl ?_
            rw [up_8]
            refine Vw.aload_n (de_aload_0 (B 123 _ rfl)) 0 rfl (n := 124) rfl ?_
            refine Vw.iload_n (de_iload_1 (B 124 _ rfl)) 1 rfl (n := 125) rfl ?_
            refine Vw.ivi1 (mi' := mX5_readSum) (de_invokevirtual (B 125 _ rfl) (B 126 _ rfl) (B 127 _ rfl)) ml_X5_106 mv_X5_readSum hx.rd.k (Nat.le_of_ble_eq_true rfl) (n := 128) rfl (hS d S I L _ s tp u cd vl nt o (j + 1) l2 c2 f w2 hx (by have := jc.2; omega) a3 (by omega) (fun j3 l3 d3 c3 w3 e3 b1 b2 b3 b4 b5 b6 b7 => ?_) (fun e t3 l3 c3 w3 e3 b1 => ?_))
            · refine Vw.if_ne (tgt := 133) (n := 131) (de_if_ne (B 128 _ rfl) (B 129 _ rfl) (B 130 _ rfl)) rfl rfl (fun c_128 => ?_) (fun c_128 => ?_)
              · refine Vw.aload_n (de_aload_0 (B 133 _ rfl)) 0 rfl (n := 134) rfl ?_
                refine Vw.iload_n (de_iload_3 (B 134 _ rfl)) 3 rfl (n := 135) rfl ?_
                refine Vw.bipush (v := 60) (de_bipush (B 135 _ rfl) (B 136 _ rfl)) rfl (n := 137) rfl ?_
                refine Vw.icmp_ne (tgt := 145) (n := 140) (de_icmp_ne (B 137 _ rfl) (B 138 _ rfl) (B 139 _ rfl)) rfl rfl (fun c_137 => ?_) (fun c_137 => ?_)
                · refine Vw.iload_n (de_iload_3 (B 145 _ rfl)) 3 rfl (n := 146) rfl ?_
                  refine Vw.bipush (v := 62) (de_bipush (B 146 _ rfl) (B 147 _ rfl)) rfl (n := 148) rfl ?_
                  refine Vw.icmp_ne (tgt := 156) (n := 151) (de_icmp_ne (B 148 _ rfl) (B 149 _ rfl) (B 150 _ rfl)) rfl rfl (fun c_148 => ?_) (fun c_148 => ?_)
                  · refine Vw.bipush (v := 12) (de_bipush (B 156 _ rfl) (B 157 _ rfl)) rfl (n := 158) rfl ?_
                    refine Vw.iconst (v := 0) (de_iconst_0 (B 158 _ rfl)) rfl (n := 159) rfl ?_
                    refine Vw.ivi2 (mi' := mX5_emit) (de_invokevirtual (B 159 _ rfl) (B 160 _ rfl) (B 161 _ rfl)) ml_X5_143 mv_X5_emit hx.rd.k (Nat.le_of_ble_eq_true rfl) (n := 162) rfl (k_emit (op := 12) (k := 0) hx (by decide) (by decide) (show c3 < 400 by omega) ?_)
                    refine Vw.pop (de_pop (B 162 _ rfl)) rfl (n := 163) rfl ?_
                    have gA := a6.1
                    have gB := b6.1
                    have eP : pPos cd (some (Y cd vl o)) (X cd vl o) (pNots cd 402 i false).1 l = .ok (j3, l3, tCmp (cd j) d2 d3) := by
                      rw [eN1]; unfold pPos; rw [if_neg c140, e2]; dsimp only; rw [if_pos jc.1, e3]
                    refine fin b j3 l3 _ (c3 + 1) _ _ eP eN2 (by omega) (by omega) b2 b3 (fun x hx2 => by rw [upK_lt (by omega), b5 x (by omega)]; exact a5 x hx2) ?_ T01_cmp
                    first
                    | (refine WC2_two (o := 10) ((a6.up (Nat.le_succ _)).of (fun x g1 g2 => by rw [upK_lt (by omega), b5 x g2])) (b6.of (fun x g1 g2 => upK_lt g2)) (upK_s _ _ _) (by decide) (by decide) (tCmp_ar (fun v w => ?_))
                       rw [show cd j = 160 from (hx.sign a2 (c := 60) (by decide)).mp c_137]; exact tCmp_10 v w)
                    | (refine WC2_two (o := 11) ((a6.up (Nat.le_succ _)).of (fun x g1 g2 => by rw [upK_lt (by omega), b5 x g2])) (b6.of (fun x g1 g2 => upK_lt g2)) (upK_s _ _ _) (by decide) (by decide) (tCmp_ar (fun v w => ?_))
                       rw [show cd j = 162 from (hx.sign a2 (c := 62) (by decide)).mp c_148]; exact tCmp_11 v w)
                    | (refine WC2_two (o := 12) ((a6.up (Nat.le_succ _)).of (fun x g1 g2 => by rw [upK_lt (by omega), b5 x g2])) (b6.of (fun x g1 g2 => upK_lt g2)) (upK_s _ _ _) (by decide) (by decide) (tCmp_ar (fun v w => ?_))
                       have c161 : cd j = 161 := (hx.sign a2 (c := 61) (by decide)).mp (by first | exact c_105 | exact absurd c_93 c_137 | exact absurd c_99 c_148)
                       rw [c161]; exact tCmp_12 v w)
                  refine Vw.bipush (v := 11) (de_bipush (B 151 _ rfl) (B 152 _ rfl)) rfl (n := 153) rfl ?_
                  refine Vw.goto_ (n := 158) (de_goto_ (B 153 _ rfl) (B 154 _ rfl) (B 155 _ rfl)) rfl ?_
                  refine Vw.iconst (v := 0) (de_iconst_0 (B 158 _ rfl)) rfl (n := 159) rfl ?_
                  refine Vw.ivi2 (mi' := mX5_emit) (de_invokevirtual (B 159 _ rfl) (B 160 _ rfl) (B 161 _ rfl)) ml_X5_143 mv_X5_emit hx.rd.k (Nat.le_of_ble_eq_true rfl) (n := 162) rfl (k_emit (op := 11) (k := 0) hx (by decide) (by decide) (show c3 < 400 by omega) ?_)
                  refine Vw.pop (de_pop (B 162 _ rfl)) rfl (n := 163) rfl ?_
                  have gA := a6.1
                  have gB := b6.1
                  have eP : pPos cd (some (Y cd vl o)) (X cd vl o) (pNots cd 402 i false).1 l = .ok (j3, l3, tCmp (cd j) d2 d3) := by
                    rw [eN1]; unfold pPos; rw [if_neg c140, e2]; dsimp only; rw [if_pos jc.1, e3]
                  refine fin b j3 l3 _ (c3 + 1) _ _ eP eN2 (by omega) (by omega) b2 b3 (fun x hx2 => by rw [upK_lt (by omega), b5 x (by omega)]; exact a5 x hx2) ?_ T01_cmp
                  first
                  | (refine WC2_two (o := 10) ((a6.up (Nat.le_succ _)).of (fun x g1 g2 => by rw [upK_lt (by omega), b5 x g2])) (b6.of (fun x g1 g2 => upK_lt g2)) (upK_s _ _ _) (by decide) (by decide) (tCmp_ar (fun v w => ?_))
                     rw [show cd j = 160 from (hx.sign a2 (c := 60) (by decide)).mp c_137]; exact tCmp_10 v w)
                  | (refine WC2_two (o := 11) ((a6.up (Nat.le_succ _)).of (fun x g1 g2 => by rw [upK_lt (by omega), b5 x g2])) (b6.of (fun x g1 g2 => upK_lt g2)) (upK_s _ _ _) (by decide) (by decide) (tCmp_ar (fun v w => ?_))
                     rw [show cd j = 162 from (hx.sign a2 (c := 62) (by decide)).mp c_148]; exact tCmp_11 v w)
                  | (refine WC2_two (o := 12) ((a6.up (Nat.le_succ _)).of (fun x g1 g2 => by rw [upK_lt (by omega), b5 x g2])) (b6.of (fun x g1 g2 => upK_lt g2)) (upK_s _ _ _) (by decide) (by decide) (tCmp_ar (fun v w => ?_))
                     have c161 : cd j = 161 := (hx.sign a2 (c := 61) (by decide)).mp (by first | exact c_105 | exact absurd c_93 c_137 | exact absurd c_99 c_148)
                     rw [c161]; exact tCmp_12 v w)
                refine Vw.bipush (v := 10) (de_bipush (B 140 _ rfl) (B 141 _ rfl)) rfl (n := 142) rfl ?_
                refine Vw.goto_ (n := 158) (de_goto_ (B 142 _ rfl) (B 143 _ rfl) (B 144 _ rfl)) rfl ?_
                refine Vw.iconst (v := 0) (de_iconst_0 (B 158 _ rfl)) rfl (n := 159) rfl ?_
                refine Vw.ivi2 (mi' := mX5_emit) (de_invokevirtual (B 159 _ rfl) (B 160 _ rfl) (B 161 _ rfl)) ml_X5_143 mv_X5_emit hx.rd.k (Nat.le_of_ble_eq_true rfl) (n := 162) rfl (k_emit (op := 10) (k := 0) hx (by decide) (by decide) (show c3 < 400 by omega) ?_)
                refine Vw.pop (de_pop (B 162 _ rfl)) rfl (n := 163) rfl ?_
                have gA := a6.1
                have gB := b6.1
                have eP : pPos cd (some (Y cd vl o)) (X cd vl o) (pNots cd 402 i false).1 l = .ok (j3, l3, tCmp (cd j) d2 d3) := by
                  rw [eN1]; unfold pPos; rw [if_neg c140, e2]; dsimp only; rw [if_pos jc.1, e3]
                refine fin b j3 l3 _ (c3 + 1) _ _ eP eN2 (by omega) (by omega) b2 b3 (fun x hx2 => by rw [upK_lt (by omega), b5 x (by omega)]; exact a5 x hx2) ?_ T01_cmp
                first
                | (refine WC2_two (o := 10) ((a6.up (Nat.le_succ _)).of (fun x g1 g2 => by rw [upK_lt (by omega), b5 x g2])) (b6.of (fun x g1 g2 => upK_lt g2)) (upK_s _ _ _) (by decide) (by decide) (tCmp_ar (fun v w => ?_))
                   rw [show cd j = 160 from (hx.sign a2 (c := 60) (by decide)).mp c_137]; exact tCmp_10 v w)
                | (refine WC2_two (o := 11) ((a6.up (Nat.le_succ _)).of (fun x g1 g2 => by rw [upK_lt (by omega), b5 x g2])) (b6.of (fun x g1 g2 => upK_lt g2)) (upK_s _ _ _) (by decide) (by decide) (tCmp_ar (fun v w => ?_))
                   rw [show cd j = 162 from (hx.sign a2 (c := 62) (by decide)).mp c_148]; exact tCmp_11 v w)
                | (refine WC2_two (o := 12) ((a6.up (Nat.le_succ _)).of (fun x g1 g2 => by rw [upK_lt (by omega), b5 x g2])) (b6.of (fun x g1 g2 => upK_lt g2)) (upK_s _ _ _) (by decide) (by decide) (tCmp_ar (fun v w => ?_))
                   have c161 : cd j = 161 := (hx.sign a2 (c := 61) (by decide)).mp (by first | exact c_105 | exact absurd c_93 c_137 | exact absurd c_99 c_148)
                   rw [c161]; exact tCmp_12 v w)
              exact absurd c_128 (by decide)
            · refine Vw.if_ne (tgt := 133) (n := 131) (de_if_ne (B 128 _ rfl) (B 129 _ rfl) (B 130 _ rfl)) rfl rfl (fun c_128 => ?_) (fun c_128 => ?_)
              · exact absurd c_128 (by decide)
              refine Vw.iconst (v := 0) (de_iconst_0 (B 131 _ rfl)) rfl (n := 132) rfl ?_
              exact Vw.zret (de_ireturn (B 132 _ rfl)) rfl rfl ⟨_, rfl, (bad e t3 l3 c3 w3 (by unfold pPos; rw [if_neg c140, e2]; dsimp only; rw [if_pos jc.1, e3]) b1)⟩
          refine Vw.iload_n (de_iload_3 (B 102 _ rfl)) 3 rfl (n := 103) rfl ?_
          refine Vw.bipush (v := 61) (de_bipush (B 103 _ rfl) (B 104 _ rfl)) rfl (n := 105) rfl ?_
          refine Vw.icmp_eq (tgt := 113) (n := 108) (de_icmp_eq (B 105 _ rfl) (B 106 _ rfl) (B 107 _ rfl)) rfl rfl (fun c_105 => ?_) (fun c_105 => ?_)
          · have jc : isCmp (cd j) = true ∧ j < nt := by
              have hc : isCmp (cd j) = true := by
                unfold isCmp
                first
                | (rw [show cd j = 160 from (hx.sign a2 (c := 60) (by decide)).mp c_93]; rfl)
                | (rw [show cd j = 162 from (hx.sign a2 (c := 62) (by decide)).mp c_99]; rfl)
                | (rw [show cd j = 161 from (hx.sign a2 (c := 61) (by decide)).mp c_105]; rfl)
              refine ⟨hc, ?_⟩
              rcases Nat.lt_or_ge j nt with z | z
              · exact z
              · rw [show j = nt by omega, hx.c0] at hc; exact absurd hc (by decide)
            refine Vw.aload_n (de_aload_0 (B 113 _ rfl)) 0 rfl (n := 114) rfl ?_
            refine Vw.dup (de_dup (B 114 _ rfl)) rfl (n := 115) rfl ?_
            refine Vw.getI (de_getfield (B 115 _ rfl) (B 116 _ rfl) (B 117 _ rfl)) fl_X5_48 rfl hx.rd.k (n := 118) rfl ?_
            rw [rm_8]
            refine Vw.iconst (v := 1) (de_iconst_1 (B 118 _ rfl)) rfl (n := 119) rfl ?_
            refine Vw.iadd (de_iadd (B 119 _ rfl)) (n := 120) rfl ?_
            rw [nI_1]
            refine Vw.putI (de_putfield (B 120 _ rfl) (B 121 _ rfl) (B 122 _ rfl)) fl_X5_48 hx.rd.k rfl rfl (n := 123) rfl ?_
            rw [up_8]
            refine Vw.aload_n (de_aload_0 (B 123 _ rfl)) 0 rfl (n := 124) rfl ?_
            refine Vw.iload_n (de_iload_1 (B 124 _ rfl)) 1 rfl (n := 125) rfl ?_
            refine Vw.ivi1 (mi' := mX5_readSum) (de_invokevirtual (B 125 _ rfl) (B 126 _ rfl) (B 127 _ rfl)) ml_X5_106 mv_X5_readSum hx.rd.k (Nat.le_of_ble_eq_true rfl) (n := 128) rfl (hS d S I L _ s tp u cd vl nt o (j + 1) l2 c2 f w2 hx (by have := jc.2; omega) a3 (by omega) (fun j3 l3 d3 c3 w3 e3 b1 b2 b3 b4 b5 b6 b7 => ?_) (fun e t3 l3 c3 w3 e3 b1 => ?_))
            · refine Vw.if_ne (tgt := 133) (n := 131) (de_if_ne (B 128 _ rfl) (B 129 _ rfl) (B 130 _ rfl)) rfl rfl (fun c_128 => ?_) (fun c_128 => ?_)
              · refine Vw.aload_n (de_aload_0 (B 133 _ rfl)) 0 rfl (n := 134) rfl ?_
                refine Vw.iload_n (de_iload_3 (B 134 _ rfl)) 3 rfl (n := 135) rfl ?_
                refine Vw.bipush (v := 60) (de_bipush (B 135 _ rfl) (B 136 _ rfl)) rfl (n := 137) rfl ?_
                refine Vw.icmp_ne (tgt := 145) (n := 140) (de_icmp_ne (B 137 _ rfl) (B 138 _ rfl) (B 139 _ rfl)) rfl rfl (fun c_137 => ?_) (fun c_137 => ?_)
                · refine Vw.iload_n (de_iload_3 (B 145 _ rfl)) 3 rfl (n := 146) rfl ?_
                  refine Vw.bipush (v := 62) (de_bipush (B 146 _ rfl) (B 147 _ rfl)) rfl (n := 148) rfl ?_
                  refine Vw.icmp_ne (tgt := 156) (n := 151) (de_icmp_ne (B 148 _ rfl) (B 149 _ rfl) (B 150 _ rfl)) rfl rfl (fun c_148 => ?_) (fun c_148 => ?_)
                  · refine Vw.bipush (v := 12) (de_bipush (B 156 _ rfl) (B 157 _ rfl)) rfl (n := 158) rfl ?_
                    refine Vw.iconst (v := 0) (de_iconst_0 (B 158 _ rfl)) rfl (n := 159) rfl ?_
                    refine Vw.ivi2 (mi' := mX5_emit) (de_invokevirtual (B 159 _ rfl) (B 160 _ rfl) (B 161 _ rfl)) ml_X5_143 mv_X5_emit hx.rd.k (Nat.le_of_ble_eq_true rfl) (n := 162) rfl (k_emit (op := 12) (k := 0) hx (by decide) (by decide) (show c3 < 400 by omega) ?_)
                    refine Vw.pop (de_pop (B 162 _ rfl)) rfl (n := 163) rfl ?_
                    have gA := a6.1
                    have gB := b6.1
                    have eP : pPos cd (some (Y cd vl o)) (X cd vl o) (pNots cd 402 i false).1 l = .ok (j3, l3, tCmp (cd j) d2 d3) := by
                      rw [eN1]; unfold pPos; rw [if_neg c140, e2]; dsimp only; rw [if_pos jc.1, e3]
                    refine fin b j3 l3 _ (c3 + 1) _ _ eP eN2 (by omega) (by omega) b2 b3 (fun x hx2 => by rw [upK_lt (by omega), b5 x (by omega)]; exact a5 x hx2) ?_ T01_cmp
                    first
                    | (refine WC2_two (o := 10) ((a6.up (Nat.le_succ _)).of (fun x g1 g2 => by rw [upK_lt (by omega), b5 x g2])) (b6.of (fun x g1 g2 => upK_lt g2)) (upK_s _ _ _) (by decide) (by decide) (tCmp_ar (fun v w => ?_))
                       rw [show cd j = 160 from (hx.sign a2 (c := 60) (by decide)).mp c_137]; exact tCmp_10 v w)
                    | (refine WC2_two (o := 11) ((a6.up (Nat.le_succ _)).of (fun x g1 g2 => by rw [upK_lt (by omega), b5 x g2])) (b6.of (fun x g1 g2 => upK_lt g2)) (upK_s _ _ _) (by decide) (by decide) (tCmp_ar (fun v w => ?_))
                       rw [show cd j = 162 from (hx.sign a2 (c := 62) (by decide)).mp c_148]; exact tCmp_11 v w)
                    | (refine WC2_two (o := 12) ((a6.up (Nat.le_succ _)).of (fun x g1 g2 => by rw [upK_lt (by omega), b5 x g2])) (b6.of (fun x g1 g2 => upK_lt g2)) (upK_s _ _ _) (by decide) (by decide) (tCmp_ar (fun v w => ?_))
                       have c161 : cd j = 161 := (hx.sign a2 (c := 61) (by decide)).mp (by first | exact c_105 | exact absurd c_93 c_137 | exact absurd c_99 c_148)
                       rw [c161]; exact tCmp_12 v w)
                  refine Vw.bipush (v := 11) (de_bipush (B 151 _ rfl) (B 152 _ rfl)) rfl (n := 153) rfl ?_
                  refine Vw.goto_ (n := 158) (de_goto_ (B 153 _ rfl) (B 154 _ rfl) (B 155 _ rfl)) rfl ?_
                  refine Vw.iconst (v := 0) (de_iconst_0 (B 158 _ rfl)) rfl (n := 159) rfl ?_
                  refine Vw.ivi2 (mi' := mX5_emit) (de_invokevirtual (B 159 _ rfl) (B 160 _ rfl) (B 161 _ rfl)) ml_X5_143 mv_X5_emit hx.rd.k (Nat.le_of_ble_eq_true rfl) (n := 162) rfl (k_emit (op := 11) (k := 0) hx (by decide) (by decide) (show c3 < 400 by omega) ?_)
                  refine Vw.pop (de_pop (B 162 _ rfl)) rfl (n := 163) rfl ?_
                  have gA := a6.1
                  have gB := b6.1
                  have eP : pPos cd (some (Y cd vl o)) (X cd vl o) (pNots cd 402 i false).1 l = .ok (j3, l3, tCmp (cd j) d2 d3) := by
                    rw [eN1]; unfold pPos; rw [if_neg c140, e2]; dsimp only; rw [if_pos jc.1, e3]
                  refine fin b j3 l3 _ (c3 + 1) _ _ eP eN2 (by omega) (by omega) b2 b3 (fun x hx2 => by rw [upK_lt (by omega), b5 x (by omega)]; exact a5 x hx2) ?_ T01_cmp
                  first
                  | (refine WC2_two (o := 10) ((a6.up (Nat.le_succ _)).of (fun x g1 g2 => by rw [upK_lt (by omega), b5 x g2])) (b6.of (fun x g1 g2 => upK_lt g2)) (upK_s _ _ _) (by decide) (by decide) (tCmp_ar (fun v w => ?_))
                     rw [show cd j = 160 from (hx.sign a2 (c := 60) (by decide)).mp c_137]; exact tCmp_10 v w)
                  | (refine WC2_two (o := 11) ((a6.up (Nat.le_succ _)).of (fun x g1 g2 => by rw [upK_lt (by omega), b5 x g2])) (b6.of (fun x g1 g2 => upK_lt g2)) (upK_s _ _ _) (by decide) (by decide) (tCmp_ar (fun v w => ?_))
                     rw [show cd j = 162 from (hx.sign a2 (c := 62) (by decide)).mp c_148]; exact tCmp_11 v w)
                  | (refine WC2_two (o := 12) ((a6.up (Nat.le_succ _)).of (fun x g1 g2 => by rw [upK_lt (by omega), b5 x g2])) (b6.of (fun x g1 g2 => upK_lt g2)) (upK_s _ _ _) (by decide) (by decide) (tCmp_ar (fun v w => ?_))
                     have c161 : cd j = 161 := (hx.sign a2 (c := 61) (by decide)).mp (by first | exact c_105 | exact absurd c_93 c_137 | exact absurd c_99 c_148)
                     rw [c161]; exact tCmp_12 v w)
                refine Vw.bipush (v := 10) (de_bipush (B 140 _ rfl) (B 141 _ rfl)) rfl (n := 142) rfl ?_
                refine Vw.goto_ (n := 158) (de_goto_ (B 142 _ rfl) (B 143 _ rfl) (B 144 _ rfl)) rfl ?_
                refine Vw.iconst (v := 0) (de_iconst_0 (B 158 _ rfl)) rfl (n := 159) rfl ?_
                refine Vw.ivi2 (mi' := mX5_emit) (de_invokevirtual (B 159 _ rfl) (B 160 _ rfl) (B 161 _ rfl)) ml_X5_143 mv_X5_emit hx.rd.k (Nat.le_of_ble_eq_true rfl) (n := 162) rfl (k_emit (op := 10) (k := 0) hx (by decide) (by decide) (show c3 < 400 by omega) ?_)
                refine Vw.pop (de_pop (B 162 _ rfl)) rfl (n := 163) rfl ?_
                have gA := a6.1
                have gB := b6.1
                have eP : pPos cd (some (Y cd vl o)) (X cd vl o) (pNots cd 402 i false).1 l = .ok (j3, l3, tCmp (cd j) d2 d3) := by
                  rw [eN1]; unfold pPos; rw [if_neg c140, e2]; dsimp only; rw [if_pos jc.1, e3]
                refine fin b j3 l3 _ (c3 + 1) _ _ eP eN2 (by omega) (by omega) b2 b3 (fun x hx2 => by rw [upK_lt (by omega), b5 x (by omega)]; exact a5 x hx2) ?_ T01_cmp
                first
                | (refine WC2_two (o := 10) ((a6.up (Nat.le_succ _)).of (fun x g1 g2 => by rw [upK_lt (by omega), b5 x g2])) (b6.of (fun x g1 g2 => upK_lt g2)) (upK_s _ _ _) (by decide) (by decide) (tCmp_ar (fun v w => ?_))
                   rw [show cd j = 160 from (hx.sign a2 (c := 60) (by decide)).mp c_137]; exact tCmp_10 v w)
                | (refine WC2_two (o := 11) ((a6.up (Nat.le_succ _)).of (fun x g1 g2 => by rw [upK_lt (by omega), b5 x g2])) (b6.of (fun x g1 g2 => upK_lt g2)) (upK_s _ _ _) (by decide) (by decide) (tCmp_ar (fun v w => ?_))
                   rw [show cd j = 162 from (hx.sign a2 (c := 62) (by decide)).mp c_148]; exact tCmp_11 v w)
                | (refine WC2_two (o := 12) ((a6.up (Nat.le_succ _)).of (fun x g1 g2 => by rw [upK_lt (by omega), b5 x g2])) (b6.of (fun x g1 g2 => upK_lt g2)) (upK_s _ _ _) (by decide) (by decide) (tCmp_ar (fun v w => ?_))
                   have c161 : cd j = 161 := (hx.sign a2 (c := 61) (by decide)).mp (by first | exact c_105 | exact absurd c_93 c_137 | exact absurd c_99 c_148)
                   rw [c161]; exact tCmp_12 v w)
              exact absurd c_128 (by decide)
            · refine Vw.if_ne (tgt := 133) (n := 131) (de_if_ne (B 128 _ rfl) (B 129 _ rfl) (B 130 _ rfl)) rfl rfl (fun c_128 => ?_) (fun c_128 => ?_)
              · exact absurd c_128 (by decide)
              refine Vw.iconst (v := 0) (de_iconst_0 (B 131 _ rfl)) rfl (n := 132) rfl ?_
              exact Vw.zret (de_ireturn (B 132 _ rfl)) rfl rfl ⟨_, rfl, (bad e t3 l3 c3 w3 (by unfold pPos; rw [if_neg c140, e2]; dsimp only; rw [if_pos jc.1, e3]) b1)⟩
          refine Vw.aload_n (de_aload_0 (B 108 _ rfl)) 0 rfl (n := 109) rfl ?_
          refine Vw.ivi0 (mi' := mX5_fail) (de_invokevirtual (B 109 _ rfl) (B 110 _ rfl) (B 111 _ rfl)) ml_X5_67 mv_X5_fail hx.rd.k (Nat.le_of_ble_eq_true rfl) (n := 112) rfl (k_fail hx a2 ?_)
          exact Vw.zret (de_ireturn (B 112 _ rfl)) rfl rfl ⟨_, rfl, (bad j _ _ _ _ (by
      unfold pPos
      rw [if_neg c140, e2]
      dsimp only
      rw [if_neg ?_]
      intro z
      unfold isCmp at z
      simp only [Bool.or_eq_true, decide_eq_true_eq] at z
      rcases z with (z | z) | z
      · exact c_93 ((hx.sign a2 (c := 60) (by decide)).mpr z)
      · exact c_99 ((hx.sign a2 (c := 62) (by decide)).mpr z)
      · exact c_105 ((hx.sign a2 (c := 61) (by decide)).mpr z)) a2)⟩
        exact absurd c_75 (by decide)
      · refine Vw.if_ne (tgt := 80) (n := 78) (de_if_ne (B 75 _ rfl) (B 76 _ rfl) (B 77 _ rfl)) rfl rfl (fun c_75 => ?_) (fun c_75 => ?_)
        · exact absurd c_75 (by decide)
        refine Vw.iconst (v := 0) (de_iconst_0 (B 78 _ rfl)) rfl (n := 79) rfl ?_
        exact Vw.zret (de_ireturn (B 79 _ rfl)) rfl rfl ⟨_, rfl, (bad e t2 l2 c2 w2 (by unfold pPos; rw [if_neg c140, e2]) a1)⟩
    have c140 : cd q = 140 := (hx.sign hqn (c := 40) (by decide)).mp c_57
    have q1 : q < nt := by
      rcases Nat.lt_or_ge q nt with z | z
      · exact z
      · rw [show q = nt by omega, hx.c0] at c140; exact absurd c140 (by decide)
    refine Vw.aload_n (de_aload_0 (B 60 _ rfl)) 0 rfl (n := 61) rfl ?_
    refine Vw.iload_n (de_iload_1 (B 61 _ rfl)) 1 rfl (n := 62) rfl ?_
    refine Vw.ivi1 (mi' := mX5_readInner) (de_invokevirtual (B 62 _ rfl) (B 63 _ rfl) (B 64 _ rfl)) ml_X5_156 mv_X5_readInner hx.rd.k (Nat.le_of_ble_eq_true rfl) (n := 65) rfl (k_innerS hd8 hT d S I L _ s tp u cd vl nt o q l c f w hx q1 hl (by omega) (fun j l2 d2 c2 w2 e2 a1 a2 a3 a4 a5 a6 a7 => ?_) (fun e t2 l2 c2 w2 e2 a1 => ?_))
    · refine Vw.if_ne (tgt := 163) (n := 68) (de_if_ne (B 65 _ rfl) (B 66 _ rfl) (B 67 _ rfl)) rfl rfl (fun c_65 => ?_) (fun c_65 => ?_)
      · exact fin b j l2 d2 c2 w2 _ (by rw [eN1]; unfold pPos; rw [if_pos c140]; exact e2) eN2 (by omega) (by omega) a2 a3 a5 a6 a7
      exact absurd c_65 (by decide)
    · refine Vw.if_ne (tgt := 163) (n := 68) (de_if_ne (B 65 _ rfl) (B 66 _ rfl) (B 67 _ rfl)) rfl rfl (fun c_65 => ?_) (fun c_65 => ?_)
      · exact absurd c_65 (by decide)
      refine Vw.iconst (v := 0) (de_iconst_0 (B 68 _ rfl)) rfl (n := 69) rfl ?_
      exact Vw.zret (de_ireturn (B 69 _ rfl)) rfl rfl ⟨_, rfl, (bad e t2 l2 c2 w2 (by unfold pPos; rw [if_pos c140]; exact e2) a1)⟩
  have loop : ∀ it, it ≤ 400 → ∀ b, (pNots cd 402 i false) = pNots cd (401 - it + 1) (i + it) b → i + it ≤ nt → (if b = true then 1 else 0) ≤ it → Vw mX5_readPlain (d + (E + 7)) 0 0 0 0 (ViQ Q) 4 [(0, .ref (s + 74)), (1, .int (nI dn0)), (2, .int (bI b)), (3, .int (nI it))] [] S (rm I s (nI (i + it)) (nI l) (nI c) f w) L := by
    refine loop_up (fun it hit ih => ?_)
    intro b eN hn hb
    have out : ¬ cd (i + it) = 9 → (pNots cd 402 i false) = (i + it, b) := fun z => by rw [eN, pNots, if_neg z]
    cases b with
    | true =>
      have hb0 := hb
      rw [if_pos rfl] at hb
      refine Vw.iload_n (de_iload_3 (B 4 _ rfl)) 3 rfl (n := 5) rfl ?_
      refine Vw.sipush (v := 400) (de_sipush (B 5 _ rfl) (B 6 _ rfl) (B 7 _ rfl)) rfl (n := 8) rfl ?_
      refine Vw.icmp_ge (tgt := 46) (n := 11) (de_icmp_ge (B 8 _ rfl) (B 9 _ rfl) (B 10 _ rfl)) rfl rfl (fun c_8 => ?_) (fun c_8 => ?_)
      · exact pos _ (i + it) _ (out (fun z => by
          have z5 : 400 ≤ it := (nI_leI (a := 400) (b := it) (by omega) (by omega)).mp c_8
          rw [show i + it = nt by omega, hx.c0] at z
          exact absurd z (by decide))) (by omega) hn
      refine Vw.aload_n (de_aload_0 (B 11 _ rfl)) 0 rfl (n := 12) rfl ?_
      obtain ⟨z12, hz12⟩ := hx.str 8 (by decide)
      refine Vw.ldcS (i := 8) (de_ldc (B 12 _ rfl) (B 13 _ rfl)) rfl (by decide) hz12.2.1 (n := 14) rfl ?_
      refine Vw.ivi1 (mi' := mX5_isWord) (de_invokevirtual (B 14 _ rfl) (B 15 _ rfl) (B 16 _ rfl)) ml_X5_119 mv_X5_isWord hx.rd.k (Nat.le_of_ble_eq_true rfl) (n := 17) rfl (k_isWord (i := i + it) hx hz12 (by decide) hn (fun c9 => ?_) (fun c9 => ?_))
      · have c9b : cd (i + it) = 9 := c9
        have lt9 : i + it < nt := by
          rcases Nat.lt_or_ge (i + it) nt with z | z
          · exact z
          · rw [show i + it = nt by omega, hx.c0] at c9b; exact absurd c9b (by decide)
        refine Vw.if_eq (tgt := 46) (n := 20) (de_if_eq (B 17 _ rfl) (B 18 _ rfl) (B 19 _ rfl)) rfl rfl (fun c_17 => ?_) (fun c_17 => ?_)
        · exact absurd c_17 (by decide)
        refine Vw.aload_n (de_aload_0 (B 20 _ rfl)) 0 rfl (n := 21) rfl ?_
        refine Vw.dup (de_dup (B 21 _ rfl)) rfl (n := 22) rfl ?_
        skip
        refine Vw.getI (de_getfield (B 22 _ rfl) (B 23 _ rfl) (B 24 _ rfl)) fl_X5_48 rfl hx.rd.k (n := 25) rfl ?_
        rw [rm_8]
        refine Vw.iconst (v := 1) (de_iconst_1 (B 25 _ rfl)) rfl (n := 26) rfl ?_
        refine Vw.iadd (de_iadd (B 26 _ rfl)) (n := 27) rfl ?_
        rw [nI_1]
        refine Vw.putI (de_putfield (B 27 _ rfl) (B 28 _ rfl) (B 29 _ rfl)) fl_X5_48 hx.rd.k rfl rfl (n := 30) rfl ?_
        rw [up_8]
        refine Vw.iload_n (de_iload_2 (B 30 _ rfl)) 2 rfl (n := 31) rfl ?_
        refine Vw.if_ne (tgt := 38) (n := 34) (de_if_ne (B 31 _ rfl) (B 32 _ rfl) (B 33 _ rfl)) rfl rfl (fun c_31 => ?_) (fun c_31 => ?_)
        · refine Vw.iconst (v := 0) (de_iconst_0 (B 38 _ rfl)) rfl (n := 39) rfl ?_
          refine Vw.istore_n (lv2 := [(0, _), (1, _), (2, _), (3, _)]) (de_istore_2 (B 39 _ rfl)) rfl (by decide) [1, 2, 0, 3] rfl (n := 40) rfl ?_
          refine Vw.iinc (v := nI (it + 1)) (lv2 := [(0, _), (1, _), (2, _), (3, _)]) (de_iinc (B 40 _ rfl) (B 41 _ rfl) (B 42 _ rfl)) 3 rfl (nI_1 it) (by decide) [1, 2, 3, 0] rfl (n := 43) rfl ?_
          refine Vw.goto_ (n := 4) (de_goto_ (B 43 _ rfl) (B 44 _ rfl) (B 45 _ rfl)) rfl ?_
          have g := ih (by omega) false (by rw [eN, pNots, if_pos c9b, show 401 - it = 401 - (it + 1) + 1 by omega]; rfl) (by omega) (by rw [if_neg (by decide)]; omega)
          exact g
        exact absurd c_31 (by decide)
      · refine Vw.if_eq (tgt := 46) (n := 20) (de_if_eq (B 17 _ rfl) (B 18 _ rfl) (B 19 _ rfl)) rfl rfl (fun c_17 => ?_) (fun c_17 => ?_)
        · exact pos _ (i + it) _ (out c9) (by omega) hn
        exact absurd c_17 (by decide)
    | false =>
      have hb0 := hb
      rw [if_neg (by decide)] at hb
      refine Vw.iload_n (de_iload_3 (B 4 _ rfl)) 3 rfl (n := 5) rfl ?_
      refine Vw.sipush (v := 400) (de_sipush (B 5 _ rfl) (B 6 _ rfl) (B 7 _ rfl)) rfl (n := 8) rfl ?_
      refine Vw.icmp_ge (tgt := 46) (n := 11) (de_icmp_ge (B 8 _ rfl) (B 9 _ rfl) (B 10 _ rfl)) rfl rfl (fun c_8 => ?_) (fun c_8 => ?_)
      · exact pos _ (i + it) _ (out (fun z => by
          have z5 : 400 ≤ it := (nI_leI (a := 400) (b := it) (by omega) (by omega)).mp c_8
          rw [show i + it = nt by omega, hx.c0] at z
          exact absurd z (by decide))) (by omega) hn
      refine Vw.aload_n (de_aload_0 (B 11 _ rfl)) 0 rfl (n := 12) rfl ?_
      obtain ⟨z12, hz12⟩ := hx.str 8 (by decide)
      refine Vw.ldcS (i := 8) (de_ldc (B 12 _ rfl) (B 13 _ rfl)) rfl (by decide) hz12.2.1 (n := 14) rfl ?_
      refine Vw.ivi1 (mi' := mX5_isWord) (de_invokevirtual (B 14 _ rfl) (B 15 _ rfl) (B 16 _ rfl)) ml_X5_119 mv_X5_isWord hx.rd.k (Nat.le_of_ble_eq_true rfl) (n := 17) rfl (k_isWord (i := i + it) hx hz12 (by decide) hn (fun c9 => ?_) (fun c9 => ?_))
      · have c9b : cd (i + it) = 9 := c9
        have lt9 : i + it < nt := by
          rcases Nat.lt_or_ge (i + it) nt with z | z
          · exact z
          · rw [show i + it = nt by omega, hx.c0] at c9b; exact absurd c9b (by decide)
        refine Vw.if_eq (tgt := 46) (n := 20) (de_if_eq (B 17 _ rfl) (B 18 _ rfl) (B 19 _ rfl)) rfl rfl (fun c_17 => ?_) (fun c_17 => ?_)
        · exact absurd c_17 (by decide)
        refine Vw.aload_n (de_aload_0 (B 20 _ rfl)) 0 rfl (n := 21) rfl ?_
        refine Vw.dup (de_dup (B 21 _ rfl)) rfl (n := 22) rfl ?_
        skip
        refine Vw.getI (de_getfield (B 22 _ rfl) (B 23 _ rfl) (B 24 _ rfl)) fl_X5_48 rfl hx.rd.k (n := 25) rfl ?_
        rw [rm_8]
        refine Vw.iconst (v := 1) (de_iconst_1 (B 25 _ rfl)) rfl (n := 26) rfl ?_
        refine Vw.iadd (de_iadd (B 26 _ rfl)) (n := 27) rfl ?_
        rw [nI_1]
        refine Vw.putI (de_putfield (B 27 _ rfl) (B 28 _ rfl) (B 29 _ rfl)) fl_X5_48 hx.rd.k rfl rfl (n := 30) rfl ?_
        rw [up_8]
        refine Vw.iload_n (de_iload_2 (B 30 _ rfl)) 2 rfl (n := 31) rfl ?_
        refine Vw.if_ne (tgt := 38) (n := 34) (de_if_ne (B 31 _ rfl) (B 32 _ rfl) (B 33 _ rfl)) rfl rfl (fun c_31 => ?_) (fun c_31 => ?_)
        · exact absurd rfl c_31
        refine Vw.iconst (v := 1) (de_iconst_1 (B 34 _ rfl)) rfl (n := 35) rfl ?_
        refine Vw.goto_ (n := 39) (de_goto_ (B 35 _ rfl) (B 36 _ rfl) (B 37 _ rfl)) rfl ?_
        refine Vw.istore_n (lv2 := [(0, _), (1, _), (2, _), (3, _)]) (de_istore_2 (B 39 _ rfl)) rfl (by decide) [1, 2, 0, 3] rfl (n := 40) rfl ?_
        refine Vw.iinc (v := nI (it + 1)) (lv2 := [(0, _), (1, _), (2, _), (3, _)]) (de_iinc (B 40 _ rfl) (B 41 _ rfl) (B 42 _ rfl)) 3 rfl (nI_1 it) (by decide) [1, 2, 3, 0] rfl (n := 43) rfl ?_
        refine Vw.goto_ (n := 4) (de_goto_ (B 43 _ rfl) (B 44 _ rfl) (B 45 _ rfl)) rfl ?_
        have g := ih (by omega) true (by rw [eN, pNots, if_pos c9b, show 401 - it = 401 - (it + 1) + 1 by omega]; rfl) (by omega) (by rw [if_pos rfl]; omega)
        exact g
      · refine Vw.if_eq (tgt := 46) (n := 20) (de_if_eq (B 17 _ rfl) (B 18 _ rfl) (B 19 _ rfl)) rfl rfl (fun c_17 => ?_) (fun c_17 => ?_)
        · exact pos _ (i + it) _ (out c9) (by omega) hn
        exact absurd c_17 (by decide)
  refine Vw.iconst (v := 0) (de_iconst_0 (B 0 _ rfl)) rfl (n := 1) rfl ?_
  refine Vw.istore_n (lv2 := [(0, _), (1, _), (2, _)]) (de_istore_2 (B 1 _ rfl)) rfl (by decide) [1, 2, 0] rfl (n := 2) rfl ?_
  refine Vw.iconst (v := 0) (de_iconst_0 (B 2 _ rfl)) rfl (n := 3) rfl ?_
  refine Vw.istore_n (lv2 := [(0, _), (1, _), (2, _), (3, _)]) (de_istore_3 (B 3 _ rfl)) rfl (by decide) [1, 2, 3, 0] rfl (n := 4) rfl ?_
  exact loop 0 (Nat.zero_le _) false rfl hi (by decide)
