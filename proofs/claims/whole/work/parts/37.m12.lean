section PU
variable {cd vl : Nat → Int32} {o : Bool} {i l j l2 e j2 l3 : Nat} {v n : Int32} {a b dn : tD} {ab : tD × tD}
theorem pTail_0 (h : ¬ cd j = 6) : pTail cd vl o v a b n j l = .ok (j, l, (v, a, b, n, none)) := by unfold pTail; rw [if_neg h]
theorem pTail_o (h : cd j = 6) (h2 : pTest cd vl o 8 (j + 1) l = .ok (j2, l2, dn)) : pTail cd vl o v a b n j l = .ok (j2, l2, (v, a, b, n, some dn)) := by unfold pTail; rw [if_pos h]; simp only [h2]
theorem pTail_e (h : cd j = 6) (h2 : pTest cd vl o 8 (j + 1) l = .error e) : pTail cd vl o v a b n j l = .error e := by unfold pTail; rw [if_pos h]; simp only [h2]
theorem pClause_v (h : isVerb (cd i) = true) (h2 : pSum cd vl o 8 (i + 1) l = .ok (j, l2, dn)) : pClause cd vl o i l = pTail cd vl o (cd i) dn tD0 1 j l2 := by unfold pClause; rw [if_pos h]; simp only [h2]
theorem pClause_e (h : isVerb (cd i) = true) (h2 : pSum cd vl o 8 (i + 1) l = .error e) : pClause cd vl o i l = .error e := by unfold pClause; rw [if_pos h]; simp only [h2]
theorem pClause_b (h : cd i = 5) : pClause cd vl o i l = pTail cd vl o 5 tD1 tD0 1 (i + 1) l := by unfold pClause; rw [if_neg (by rw [h]; decide), if_pos h]
theorem pClause_n (h : ¬ isVerb (cd i) = true) (h2 : ¬ cd i = 5) : pClause cd vl o i l = .error i := by unfold pClause; rw [if_neg h, if_neg h2]
theorem pTwo_1 {w : Int32} (h : pSum cd vl o 8 i l = .error e) : pTwo cd vl o w i l = .error e := by unfold pTwo; rw [h]
theorem pTwo_2 {w : Int32} (h : pSum cd vl o 8 i l = .ok (j, l2, a)) (h2 : ¬ cd j = w) : pTwo cd vl o w i l = .error j := by unfold pTwo; rw [h]; simp only; rw [if_neg h2]
theorem pTwo_3 {w : Int32} (h : pSum cd vl o 8 i l = .ok (j, l2, a)) (h2 : cd j = w) (h3 : pSum cd vl o 8 (j + 1) l2 = .error e) : pTwo cd vl o w i l = .error e := by unfold pTwo; rw [h]; simp only; rw [if_pos h2, h3]
theorem pTwo_4 {w : Int32} (h : pSum cd vl o 8 i l = .ok (j, l2, a)) (h2 : cd j = w) (h3 : pSum cd vl o 8 (j + 1) l2 = .ok (j2, l3, b)) : pTwo cd vl o w i l = .ok (j2, l3, (a, b)) := by unfold pTwo; rw [h]; simp only; rw [if_pos h2, h3]
theorem pTimes_0 (h : ¬ cd j = 27) : pTimes cd vl o v a b j l = pTail cd vl o v a b 1 j l := by unfold pTimes; rw [if_neg h]
theorem pTimes_1 (h : cd j = 27) (h2 : cd (j + 1) = 50 ∧ ¬ zLie (vl (j + 1)) 1 20 = 0) : pTimes cd vl o v a b j l = pTail cd vl o v a b (vl (j + 1)) (j + 2) l := by unfold pTimes; rw [if_pos h, if_pos h2]
theorem pTimes_e (h : cd j = 27) (h2 : ¬ (cd (j + 1) = 50 ∧ ¬ zLie (vl (j + 1)) 1 20 = 0)) : pTimes cd vl o v a b j l = .error (j + 1) := by unfold pTimes; rw [if_pos h, if_neg h2]
theorem pOrder_e (h : pHead cd vl o i l = .error e) : pOrder cd vl o i l = .error e := by unfold pOrder; rw [h]
theorem pOrder_o (h : pHead cd vl o i l = .ok (j, l2, ab)) : pOrder cd vl o i l = pTimes cd vl o (cd i) ab.1 ab.2 j l2 := by unfold pOrder; rw [h]
theorem pHead_f (h : cd i = 21) : pHead cd vl o i l = pTwo cd vl o 22 (i + 1) l := by unfold pHead; rw [if_pos h]
theorem pHead_h (h : cd i = 23) : pHead cd vl o i l = pTwo cd vl o 24 (i + 1) l := by unfold pHead; rw [if_neg (by rw [h]; decide), if_pos h]
theorem pHead_s (h : cd i = 25 ∨ cd i = 26) (h2 : pSum cd vl o 8 (i + 1) l = .ok (j, l2, a)) : pHead cd vl o i l = .ok (j, l2, (a, tD0)) := by unfold pHead; rw [if_neg (by rcases h with h | h <;> rw [h] <;> decide), if_neg (by rcases h with h | h <;> rw [h] <;> decide), if_pos h, h2]
theorem pHead_se (h : cd i = 25 ∨ cd i = 26) (h2 : pSum cd vl o 8 (i + 1) l = .error e) : pHead cd vl o i l = .error e := by unfold pHead; rw [if_neg (by rcases h with h | h <;> rw [h] <;> decide), if_neg (by rcases h with h | h <;> rw [h] <;> decide), if_pos h, h2]
theorem pHead_q (h : cd i = 16) : pHead cd vl o i l = .ok (i + 1, l, (tD0, tD0)) := by unfold pHead; rw [if_neg (by rw [h]; decide), if_neg (by rw [h]; decide), if_neg (by rw [h]; decide), if_pos h]
theorem pHead_n (h1 : ¬ cd i = 21) (h2 : ¬ cd i = 23) (h3 : ¬ cd i = 25) (h4 : ¬ cd i = 26) (h5 : ¬ cd i = 16) : pHead cd vl o i l = .error i := by unfold pHead; rw [if_neg h1, if_neg h2, if_neg (by rintro (q | q); exact h3 q; exact h4 q), if_neg h5]
end PU
theorem tl_clause {v n : Int32} {a b : tD} : PTail mX12_readClause 33 45 (fun r => [(0, .ref r)]) (fun cd vl o => pTail cd vl o v a b n) := by
  intro d S I L Q r nt j l hM hp hj hl ho he
  have B := bs_X12_readClause
  show Vw mX12_readClause (d + 33) 0 0 0 0 (VvQ Q) 45 [(0, .ref r)] [] S (pm I r (nI j) (nI l) (-1)) L
  refine Vw.aload_n (de_aload_0 (B 45 _ rfl)) 0 rfl (n := 46) rfl ?_
  refine Vw.bipush (v := 6) (de_bipush (B 46 _ rfl) (B 47 _ rfl)) rfl (n := 48) rfl ?_
  refine Vw.ivi1 (mi' := mX12_takes0) (de_invokevirtual (B 48 _ rfl) (B 49 _ rfl) (B 50 _ rfl)) ml_X12_198 mv_X12_takes0 hM.k (Nat.le_of_ble_eq_true rfl) (n := 51) rfl (c_X12_takes0 hM hp hj (fun _ z => ?_) (fun z => ?_))
  · refine Vw.if_eq (tgt := 59) (n := 54) (de_if_eq (B 51 _ rfl) (B 52 _ rfl) (B 53 _ rfl)) rfl rfl (fun c_51 => ?_) (fun c_51 => ?_)
    · exact absurd c_51 (by decide)
    refine Vw.aload_n (de_aload_0 (B 54 _ rfl)) 0 rfl (n := 55) rfl ?_
    refine Vw.iconst (v := 0) (de_iconst_0 (B 55 _ rfl)) rfl (n := 56) rfl ?_
    refine Vw.ivv1 (mi' := mX12_readTest) (de_invokevirtual (B 56 _ rfl) (B 57 _ rfl) (B 58 _ rfl)) ml_X12_217 mv_X12_readTest hM.k (Nat.le_of_ble_eq_true rfl) (n := 59) rfl ((rc_tests 8 (by omega)) _ _ _ _ _ _ _ _ _ hM hp (lt_nt hp hj z (by decide)) hl (fun j2 l2 d2 z1 z0 z2 z3 => ?_) (fun e t l2 z1 z2 => ?_))
    · exact Vw.vret (de_return_ (B 59 _ rfl)) rfl ⟨rfl, (ho j2 l2 _ (pTail_o z z1) (by omega) z2 z3)⟩
    · exact Vw.vret (de_return_ (B 59 _ rfl)) rfl ⟨rfl, (he e _ _ (pTail_e z z1) z2)⟩
  · refine Vw.if_eq (tgt := 59) (n := 54) (de_if_eq (B 51 _ rfl) (B 52 _ rfl) (B 53 _ rfl)) rfl rfl (fun c_51 => ?_) (fun c_51 => ?_)
    · exact Vw.vret (de_return_ (B 59 _ rfl)) rfl ⟨rfl, (ho j l _ (pTail_0 (z rfl)) (Nat.le_refl j) hj hl)⟩
    exact absurd rfl c_51
theorem tl_clause_nf {d : Nat} {S : vS} {I : vI} {L : vL} {Q : vS → vI → vL → Prop} {r : Nat} {t l b : Int32} (hM : MS S r) (hb : ¬ b = -1) (h : Q S (pm I r t l b) L) : Vw mX12_readClause (d + 33) 0 0 0 0 (VvQ Q) 45 [(0, .ref r)] [] S (pm I r t l b) L := by
  have B := bs_X12_readClause
  refine Vw.aload_n (de_aload_0 (B 45 _ rfl)) 0 rfl (n := 46) rfl ?_
  refine Vw.bipush (v := 6) (de_bipush (B 46 _ rfl) (B 47 _ rfl)) rfl (n := 48) rfl ?_
  refine Vw.ivi1 (mi' := mX12_takes0) (de_invokevirtual (B 48 _ rfl) (B 49 _ rfl) (B 50 _ rfl)) ml_X12_198 mv_X12_takes0 hM.k (Nat.le_of_ble_eq_true rfl) (n := 51) rfl (c_X12_takes0_nf hM hb ?_)
  refine Vw.if_eq (tgt := 59) (n := 54) (de_if_eq (B 51 _ rfl) (B 52 _ rfl) (B 53 _ rfl)) rfl rfl (fun c_51 => ?_) (fun c_51 => ?_)
  · exact Vw.vret (de_return_ (B 59 _ rfl)) rfl ⟨rfl, h⟩
  exact absurd rfl c_51
theorem tl_order {v n : Int32} {a b : tD} : PTail mX12_readOrder 33 84 (fun r => [(0, .ref r)]) (fun cd vl o => pTail cd vl o v a b n) := by
  intro d S I L Q r nt j l hM hp hj hl ho he
  have B := bs_X12_readOrder
  show Vw mX12_readOrder (d + 33) 0 0 0 0 (VvQ Q) 84 [(0, .ref r)] [] S (pm I r (nI j) (nI l) (-1)) L
  refine Vw.aload_n (de_aload_0 (B 84 _ rfl)) 0 rfl (n := 85) rfl ?_
  refine Vw.bipush (v := 6) (de_bipush (B 85 _ rfl) (B 86 _ rfl)) rfl (n := 87) rfl ?_
  refine Vw.ivi1 (mi' := mX12_takes0) (de_invokevirtual (B 87 _ rfl) (B 88 _ rfl) (B 89 _ rfl)) ml_X12_198 mv_X12_takes0 hM.k (Nat.le_of_ble_eq_true rfl) (n := 90) rfl (c_X12_takes0 hM hp hj (fun _ z => ?_) (fun z => ?_))
  · refine Vw.if_eq (tgt := 98) (n := 93) (de_if_eq (B 90 _ rfl) (B 91 _ rfl) (B 92 _ rfl)) rfl rfl (fun c_90 => ?_) (fun c_90 => ?_)
    · exact absurd c_90 (by decide)
    refine Vw.aload_n (de_aload_0 (B 93 _ rfl)) 0 rfl (n := 94) rfl ?_
    refine Vw.iconst (v := 0) (de_iconst_0 (B 94 _ rfl)) rfl (n := 95) rfl ?_
    refine Vw.ivv1 (mi' := mX12_readTest) (de_invokevirtual (B 95 _ rfl) (B 96 _ rfl) (B 97 _ rfl)) ml_X12_217 mv_X12_readTest hM.k (Nat.le_of_ble_eq_true rfl) (n := 98) rfl ((rc_tests 8 (by omega)) _ _ _ _ _ _ _ _ _ hM hp (lt_nt hp hj z (by decide)) hl (fun j2 l2 d2 z1 z0 z2 z3 => ?_) (fun e t l2 z1 z2 => ?_))
    · exact Vw.vret (de_return_ (B 98 _ rfl)) rfl ⟨rfl, (ho j2 l2 _ (pTail_o z z1) (by omega) z2 z3)⟩
    · exact Vw.vret (de_return_ (B 98 _ rfl)) rfl ⟨rfl, (he e _ _ (pTail_e z z1) z2)⟩
  · refine Vw.if_eq (tgt := 98) (n := 93) (de_if_eq (B 90 _ rfl) (B 91 _ rfl) (B 92 _ rfl)) rfl rfl (fun c_90 => ?_) (fun c_90 => ?_)
    · exact Vw.vret (de_return_ (B 98 _ rfl)) rfl ⟨rfl, (ho j l _ (pTail_0 (z rfl)) (Nat.le_refl j) hj hl)⟩
    exact absurd rfl c_90
theorem tl_order_nf {d : Nat} {S : vS} {I : vI} {L : vL} {Q : vS → vI → vL → Prop} {r : Nat} {t l b : Int32} (hM : MS S r) (hb : ¬ b = -1) (h : Q S (pm I r t l b) L) : Vw mX12_readOrder (d + 33) 0 0 0 0 (VvQ Q) 84 [(0, .ref r)] [] S (pm I r t l b) L := by
  have B := bs_X12_readOrder
  refine Vw.aload_n (de_aload_0 (B 84 _ rfl)) 0 rfl (n := 85) rfl ?_
  refine Vw.bipush (v := 6) (de_bipush (B 85 _ rfl) (B 86 _ rfl)) rfl (n := 87) rfl ?_
  refine Vw.ivi1 (mi' := mX12_takes0) (de_invokevirtual (B 87 _ rfl) (B 88 _ rfl) (B 89 _ rfl)) ml_X12_198 mv_X12_takes0 hM.k (Nat.le_of_ble_eq_true rfl) (n := 90) rfl (c_X12_takes0_nf hM hb ?_)
  refine Vw.if_eq (tgt := 98) (n := 93) (de_if_eq (B 90 _ rfl) (B 91 _ rfl) (B 92 _ rfl)) rfl rfl (fun c_90 => ?_) (fun c_90 => ?_)
  · exact Vw.vret (de_return_ (B 98 _ rfl)) rfl ⟨rfl, h⟩
  exact absurd rfl c_90
theorem rc_clause : RC1 mX12_readClause 33 [] (fun cd vl o => pClause cd vl o) := by
  intro d S I L Q r nt i l hM hp hi hl hok her
  refine Vc.of rfl (Nat.le_of_ble_eq_true rfl) ?_
  have B := bs_X12_readClause
  show Vw mX12_readClause (d + 33) 0 0 0 0 (VvQ Q) 0 [(0, .ref r)] [] S (pm I r (nI i) (nI l) (-1)) L
  refine Vw.aload_n (de_aload_0 (B 0 _ rfl)) 0 rfl (n := 1) rfl ?_
  refine Vw.iconst (v := 1) (de_iconst_1 (B 1 _ rfl)) rfl (n := 2) rfl ?_
  refine Vw.ivi1 (mi' := mX12_takes0) (de_invokevirtual (B 2 _ rfl) (B 3 _ rfl) (B 4 _ rfl)) ml_X12_198 mv_X12_takes0 hM.k (Nat.le_of_ble_eq_true rfl) (n := 5) rfl (c_X12_takes0 hM hp hi (fun _ z_2 => ?_) (fun z_2 => ?_))
  · refine Vw.if_ne (tgt := 32) (n := 8) (de_if_ne (B 5 _ rfl) (B 6 _ rfl) (B 7 _ rfl)) rfl rfl (fun c_5 => ?_) (fun c_5 => ?_)
    · refine Vw.aload_n (de_aload_0 (B 32 _ rfl)) 0 rfl (n := 33) rfl ?_
      refine Vw.iconst (v := 0) (de_iconst_0 (B 33 _ rfl)) rfl (n := 34) rfl ?_
      refine Vw.ivv1 (mi' := mX12_readSum) (de_invokevirtual (B 34 _ rfl) (B 35 _ rfl) (B 36 _ rfl)) ml_X12_211 mv_X12_readSum hM.k (Nat.le_of_ble_eq_true rfl) (n := 37) rfl ((rc_sums 8 (by omega)) _ _ _ _ _ _ _ _ _ hM hp (lt_nt hp hi z_2 (by decide)) hl (fun j2 l2 d2 z1 z0 z2 z3 => ?_) (fun e t l2 z1 z2 => ?_))
      · refine Vw.goto_ (n := 45) (de_goto_ (B 37 _ rfl) (B 38 _ rfl) (B 39 _ rfl)) rfl ?_
        exact tl_clause _ _ _ _ _ _ _ _ _ hM hp z2 z3 (fun j3 l3 c y1 y0 y2 y3 => hok j3 l3 c ((pClause_v (by rw [z_2]; decide) z1).trans y1) (by omega) y2 y3) (fun f t l3 y1 y2 => her f t l3 ((pClause_v (by rw [z_2]; decide) z1).trans y1) y2)
      · refine Vw.goto_ (n := 45) (de_goto_ (B 37 _ rfl) (B 38 _ rfl) (B 39 _ rfl)) rfl ?_
        exact tl_clause_nf hM (hp.2.2 e z2) (her e t l2 (pClause_e (by rw [z_2]; decide) z1) z2)
    exact absurd c_5 (by decide)
  · refine Vw.if_ne (tgt := 32) (n := 8) (de_if_ne (B 5 _ rfl) (B 6 _ rfl) (B 7 _ rfl)) rfl rfl (fun c_5 => ?_) (fun c_5 => ?_)
    · exact absurd rfl c_5
    refine Vw.aload_n (de_aload_0 (B 8 _ rfl)) 0 rfl (n := 9) rfl ?_
    refine Vw.iconst (v := 2) (de_iconst_2 (B 9 _ rfl)) rfl (n := 10) rfl ?_
    refine Vw.ivi1 (mi' := mX12_takes0) (de_invokevirtual (B 10 _ rfl) (B 11 _ rfl) (B 12 _ rfl)) ml_X12_198 mv_X12_takes0 hM.k (Nat.le_of_ble_eq_true rfl) (n := 13) rfl (c_X12_takes0 hM hp hi (fun _ z_10 => ?_) (fun z_10 => ?_))
    · refine Vw.if_ne (tgt := 32) (n := 16) (de_if_ne (B 13 _ rfl) (B 14 _ rfl) (B 15 _ rfl)) rfl rfl (fun c_13 => ?_) (fun c_13 => ?_)
      · refine Vw.aload_n (de_aload_0 (B 32 _ rfl)) 0 rfl (n := 33) rfl ?_
        refine Vw.iconst (v := 0) (de_iconst_0 (B 33 _ rfl)) rfl (n := 34) rfl ?_
        refine Vw.ivv1 (mi' := mX12_readSum) (de_invokevirtual (B 34 _ rfl) (B 35 _ rfl) (B 36 _ rfl)) ml_X12_211 mv_X12_readSum hM.k (Nat.le_of_ble_eq_true rfl) (n := 37) rfl ((rc_sums 8 (by omega)) _ _ _ _ _ _ _ _ _ hM hp (lt_nt hp hi z_10 (by decide)) hl (fun j2 l2 d2 z1 z0 z2 z3 => ?_) (fun e t l2 z1 z2 => ?_))
        · refine Vw.goto_ (n := 45) (de_goto_ (B 37 _ rfl) (B 38 _ rfl) (B 39 _ rfl)) rfl ?_
          exact tl_clause _ _ _ _ _ _ _ _ _ hM hp z2 z3 (fun j3 l3 c y1 y0 y2 y3 => hok j3 l3 c ((pClause_v (by rw [z_10]; decide) z1).trans y1) (by omega) y2 y3) (fun f t l3 y1 y2 => her f t l3 ((pClause_v (by rw [z_10]; decide) z1).trans y1) y2)
        · refine Vw.goto_ (n := 45) (de_goto_ (B 37 _ rfl) (B 38 _ rfl) (B 39 _ rfl)) rfl ?_
          exact tl_clause_nf hM (hp.2.2 e z2) (her e t l2 (pClause_e (by rw [z_10]; decide) z1) z2)
      exact absurd c_13 (by decide)
    · refine Vw.if_ne (tgt := 32) (n := 16) (de_if_ne (B 13 _ rfl) (B 14 _ rfl) (B 15 _ rfl)) rfl rfl (fun c_13 => ?_) (fun c_13 => ?_)
      · exact absurd rfl c_13
      refine Vw.aload_n (de_aload_0 (B 16 _ rfl)) 0 rfl (n := 17) rfl ?_
      refine Vw.iconst (v := 3) (de_iconst_3 (B 17 _ rfl)) rfl (n := 18) rfl ?_
      refine Vw.ivi1 (mi' := mX12_takes0) (de_invokevirtual (B 18 _ rfl) (B 19 _ rfl) (B 20 _ rfl)) ml_X12_198 mv_X12_takes0 hM.k (Nat.le_of_ble_eq_true rfl) (n := 21) rfl (c_X12_takes0 hM hp hi (fun _ z_18 => ?_) (fun z_18 => ?_))
      · refine Vw.if_ne (tgt := 32) (n := 24) (de_if_ne (B 21 _ rfl) (B 22 _ rfl) (B 23 _ rfl)) rfl rfl (fun c_21 => ?_) (fun c_21 => ?_)
        · refine Vw.aload_n (de_aload_0 (B 32 _ rfl)) 0 rfl (n := 33) rfl ?_
          refine Vw.iconst (v := 0) (de_iconst_0 (B 33 _ rfl)) rfl (n := 34) rfl ?_
          refine Vw.ivv1 (mi' := mX12_readSum) (de_invokevirtual (B 34 _ rfl) (B 35 _ rfl) (B 36 _ rfl)) ml_X12_211 mv_X12_readSum hM.k (Nat.le_of_ble_eq_true rfl) (n := 37) rfl ((rc_sums 8 (by omega)) _ _ _ _ _ _ _ _ _ hM hp (lt_nt hp hi z_18 (by decide)) hl (fun j2 l2 d2 z1 z0 z2 z3 => ?_) (fun e t l2 z1 z2 => ?_))
          · refine Vw.goto_ (n := 45) (de_goto_ (B 37 _ rfl) (B 38 _ rfl) (B 39 _ rfl)) rfl ?_
            exact tl_clause _ _ _ _ _ _ _ _ _ hM hp z2 z3 (fun j3 l3 c y1 y0 y2 y3 => hok j3 l3 c ((pClause_v (by rw [z_18]; decide) z1).trans y1) (by omega) y2 y3) (fun f t l3 y1 y2 => her f t l3 ((pClause_v (by rw [z_18]; decide) z1).trans y1) y2)
          · refine Vw.goto_ (n := 45) (de_goto_ (B 37 _ rfl) (B 38 _ rfl) (B 39 _ rfl)) rfl ?_
            exact tl_clause_nf hM (hp.2.2 e z2) (her e t l2 (pClause_e (by rw [z_18]; decide) z1) z2)
        exact absurd c_21 (by decide)
      · refine Vw.if_ne (tgt := 32) (n := 24) (de_if_ne (B 21 _ rfl) (B 22 _ rfl) (B 23 _ rfl)) rfl rfl (fun c_21 => ?_) (fun c_21 => ?_)
        · exact absurd rfl c_21
        refine Vw.aload_n (de_aload_0 (B 24 _ rfl)) 0 rfl (n := 25) rfl ?_
        refine Vw.iconst (v := 4) (de_iconst_4 (B 25 _ rfl)) rfl (n := 26) rfl ?_
        refine Vw.ivi1 (mi' := mX12_takes0) (de_invokevirtual (B 26 _ rfl) (B 27 _ rfl) (B 28 _ rfl)) ml_X12_198 mv_X12_takes0 hM.k (Nat.le_of_ble_eq_true rfl) (n := 29) rfl (c_X12_takes0 hM hp hi (fun _ z_26 => ?_) (fun z_26 => ?_))
        · refine Vw.if_eq (tgt := 40) (n := 32) (de_if_eq (B 29 _ rfl) (B 30 _ rfl) (B 31 _ rfl)) rfl rfl (fun c_29 => ?_) (fun c_29 => ?_)
          · exact absurd c_29 (by decide)
          refine Vw.aload_n (de_aload_0 (B 32 _ rfl)) 0 rfl (n := 33) rfl ?_
          refine Vw.iconst (v := 0) (de_iconst_0 (B 33 _ rfl)) rfl (n := 34) rfl ?_
          refine Vw.ivv1 (mi' := mX12_readSum) (de_invokevirtual (B 34 _ rfl) (B 35 _ rfl) (B 36 _ rfl)) ml_X12_211 mv_X12_readSum hM.k (Nat.le_of_ble_eq_true rfl) (n := 37) rfl ((rc_sums 8 (by omega)) _ _ _ _ _ _ _ _ _ hM hp (lt_nt hp hi z_26 (by decide)) hl (fun j2 l2 d2 z1 z0 z2 z3 => ?_) (fun e t l2 z1 z2 => ?_))
          · refine Vw.goto_ (n := 45) (de_goto_ (B 37 _ rfl) (B 38 _ rfl) (B 39 _ rfl)) rfl ?_
            exact tl_clause _ _ _ _ _ _ _ _ _ hM hp z2 z3 (fun j3 l3 c y1 y0 y2 y3 => hok j3 l3 c ((pClause_v (by rw [z_26]; decide) z1).trans y1) (by omega) y2 y3) (fun f t l3 y1 y2 => her f t l3 ((pClause_v (by rw [z_26]; decide) z1).trans y1) y2)
          · refine Vw.goto_ (n := 45) (de_goto_ (B 37 _ rfl) (B 38 _ rfl) (B 39 _ rfl)) rfl ?_
            exact tl_clause_nf hM (hp.2.2 e z2) (her e t l2 (pClause_e (by rw [z_26]; decide) z1) z2)
        · refine Vw.if_eq (tgt := 40) (n := 32) (de_if_eq (B 29 _ rfl) (B 30 _ rfl) (B 31 _ rfl)) rfl rfl (fun c_29 => ?_) (fun c_29 => ?_)
          · refine Vw.aload_n (de_aload_0 (B 40 _ rfl)) 0 rfl (n := 41) rfl ?_
            refine Vw.iconst (v := 5) (de_iconst_5 (B 41 _ rfl)) rfl (n := 42) rfl ?_
            refine Vw.ivv1 (mi' := mX12_must) (de_invokevirtual (B 42 _ rfl) (B 43 _ rfl) (B 44 _ rfl)) ml_X12_214 mv_X12_must hM.k (Nat.le_of_ble_eq_true rfl) (n := 45) rfl (c_X12_must hM hp hi (fun _ z => ?_) (fun _ z => ?_) (fun q => absurd rfl q))
            · exact tl_clause _ _ _ _ _ _ _ _ _ hM hp (lt_nt hp hi z (by decide)) hl (fun j3 l3 c y1 y0 y2 y3 => hok j3 l3 c ((pClause_b z).trans y1) (by omega) y2 y3) (fun f t l3 y1 y2 => her f t l3 ((pClause_b z).trans y1) y2)
            · exact tl_clause_nf hM (hp.2.2 i hi) (her i _ _ (pClause_n (by simp [isVerb, z_2 rfl, z_10 rfl, z_18 rfl, z_26 rfl]) z) hi)
          exact absurd rfl c_29
theorem rc_two {c : Int32} (hc : ¬ c = 0) : RC1 mX12_readTwo 31 [.int c] (fun cd vl o => pTwo cd vl o c) := by
  intro d S I L Q r nt i l hM hp hi hl hok her
  refine Vc.of rfl (Nat.le_of_ble_eq_true rfl) ?_
  have B := bs_X12_readTwo
  show Vw mX12_readTwo (d + 31) 0 0 0 0 (VvQ Q) 0 [(0, .ref r), (1, .int c)] [] S (pm I r (nI i) (nI l) (-1)) L
  refine Vw.aload_n (de_aload_0 (B 0 _ rfl)) 0 rfl (n := 1) rfl ?_
  refine Vw.iconst (v := 0) (de_iconst_0 (B 1 _ rfl)) rfl (n := 2) rfl ?_
  refine Vw.ivv1 (mi' := mX12_readSum) (de_invokevirtual (B 2 _ rfl) (B 3 _ rfl) (B 4 _ rfl)) ml_X12_211 mv_X12_readSum hM.k (Nat.le_of_ble_eq_true rfl) (n := 5) rfl ((rc_sums 8 (by omega)) _ _ _ _ _ _ _ _ _ hM hp hi hl (fun j2 l2 d2 z1 z0 z2 z3 => ?_) (fun e t l2 z1 z2 => ?_))
  · refine Vw.aload_n (de_aload_0 (B 5 _ rfl)) 0 rfl (n := 6) rfl ?_
    refine Vw.iload_n (de_iload_1 (B 6 _ rfl)) 1 rfl (n := 7) rfl ?_
    refine Vw.ivv1 (mi' := mX12_must) (de_invokevirtual (B 7 _ rfl) (B 8 _ rfl) (B 9 _ rfl)) ml_X12_214 mv_X12_must hM.k (Nat.le_of_ble_eq_true rfl) (n := 10) rfl (c_X12_must hM hp z2 (fun _ z => ?_) (fun _ z => ?_) (fun q => absurd rfl q))
    · refine Vw.aload_n (de_aload_0 (B 10 _ rfl)) 0 rfl (n := 11) rfl ?_
      refine Vw.iconst (v := 0) (de_iconst_0 (B 11 _ rfl)) rfl (n := 12) rfl ?_
      refine Vw.ivv1 (mi' := mX12_readSum) (de_invokevirtual (B 12 _ rfl) (B 13 _ rfl) (B 14 _ rfl)) ml_X12_211 mv_X12_readSum hM.k (Nat.le_of_ble_eq_true rfl) (n := 15) rfl ((rc_sums 8 (by omega)) _ _ _ _ _ _ _ _ _ hM hp (lt_nt hp z2 z hc) z3 (fun j3 l3 d3 y1 y0 y2 y3 => ?_) (fun e t l3 y1 y2 => ?_))
      · exact Vw.vret (de_return_ (B 15 _ rfl)) rfl ⟨rfl, (hok j3 l3 _ (pTwo_4 z1 z y1) (by omega) y2 y3)⟩
      · exact Vw.vret (de_return_ (B 15 _ rfl)) rfl ⟨rfl, (her e _ _ (pTwo_3 z1 z y1) y2)⟩
    · refine Vw.aload_n (de_aload_0 (B 10 _ rfl)) 0 rfl (n := 11) rfl ?_
      refine Vw.iconst (v := 0) (de_iconst_0 (B 11 _ rfl)) rfl (n := 12) rfl ?_
      refine Vw.ivv1 (mi' := mX12_readSum) (de_invokevirtual (B 12 _ rfl) (B 13 _ rfl) (B 14 _ rfl)) ml_X12_211 mv_X12_readSum hM.k (Nat.le_of_ble_eq_true rfl) (n := 15) rfl (rn_X12_readSum _ _ _ _ _ _ _ _ _ _ hM (hp.2.2 j2 z2) ?_)
      exact Vw.vret (de_return_ (B 15 _ rfl)) rfl ⟨rfl, (her j2 _ _ (pTwo_2 z1 z) z2)⟩
  · refine Vw.aload_n (de_aload_0 (B 5 _ rfl)) 0 rfl (n := 6) rfl ?_
    refine Vw.iload_n (de_iload_1 (B 6 _ rfl)) 1 rfl (n := 7) rfl ?_
    refine Vw.ivv1 (mi' := mX12_must) (de_invokevirtual (B 7 _ rfl) (B 8 _ rfl) (B 9 _ rfl)) ml_X12_214 mv_X12_must hM.k (Nat.le_of_ble_eq_true rfl) (n := 10) rfl (c_X12_must_nf hM (hp.2.2 e z2) ?_)
    refine Vw.aload_n (de_aload_0 (B 10 _ rfl)) 0 rfl (n := 11) rfl ?_
    refine Vw.iconst (v := 0) (de_iconst_0 (B 11 _ rfl)) rfl (n := 12) rfl ?_
    refine Vw.ivv1 (mi' := mX12_readSum) (de_invokevirtual (B 12 _ rfl) (B 13 _ rfl) (B 14 _ rfl)) ml_X12_211 mv_X12_readSum hM.k (Nat.le_of_ble_eq_true rfl) (n := 15) rfl (rn_X12_readSum _ _ _ _ _ _ _ _ _ _ hM (hp.2.2 e z2) ?_)
    exact Vw.vret (de_return_ (B 15 _ rfl)) rfl ⟨rfl, (her e _ _ (pTwo_1 z1) z2)⟩
theorem tl_times {v : Int32} {a b : tD} : PTail mX12_readOrder 33 68 (fun r => [(0, .ref r)]) (fun cd vl o => pTimes cd vl o v a b) := by
  intro d S I L Q r nt j l hM hp hj hl ho he
  have B := bs_X12_readOrder
  show Vw mX12_readOrder (d + 33) 0 0 0 0 (VvQ Q) 68 [(0, .ref r)] [] S (pm I r (nI j) (nI l) (-1)) L
  refine Vw.aload_n (de_aload_0 (B 68 _ rfl)) 0 rfl (n := 69) rfl ?_
  refine Vw.bipush (v := 27) (de_bipush (B 69 _ rfl) (B 70 _ rfl)) rfl (n := 71) rfl ?_
  refine Vw.ivi1 (mi' := mX12_takes0) (de_invokevirtual (B 71 _ rfl) (B 72 _ rfl) (B 73 _ rfl)) ml_X12_198 mv_X12_takes0 hM.k (Nat.le_of_ble_eq_true rfl) (n := 74) rfl (c_X12_takes0 hM hp hj (fun _ z => ?_) (fun z => ?_))
  · refine Vw.if_eq (tgt := 84) (n := 77) (de_if_eq (B 74 _ rfl) (B 75 _ rfl) (B 76 _ rfl)) rfl rfl (fun c_74 => ?_) (fun c_74 => ?_)
    · exact absurd c_74 (by decide)
    refine Vw.aload_n (de_aload_0 (B 77 _ rfl)) 0 rfl (n := 78) rfl ?_
    refine Vw.iconst (v := 1) (de_iconst_1 (B 78 _ rfl)) rfl (n := 79) rfl ?_
    refine Vw.bipush (v := 20) (de_bipush (B 79 _ rfl) (B 80 _ rfl)) rfl (n := 81) rfl ?_
    refine Vw.ivv2 (mi' := mX12_mustNumber) (de_invokevirtual (B 81 _ rfl) (B 82 _ rfl) (B 83 _ rfl)) ml_X12_223 mv_X12_mustNumber hM.k (Nat.le_of_ble_eq_true rfl) (n := 84) rfl (c_X12_mustNumber hM hp (lt_nt hp hj z (by decide)) (fun _ z1 z2 => ?_) (fun _ z1 => ?_) (fun q => absurd rfl q))
    · exact tl_order _ _ _ _ _ _ _ _ _ hM hp (lt_nt hp (lt_nt hp hj z (by decide)) z1 (by decide)) hl (fun j3 l3 c y1 y0 y2 y3 => ho j3 l3 c ((pTimes_1 z ⟨z1, z2⟩).trans y1) (by omega) y2 y3) (fun f t l3 y1 y2 => he f t l3 ((pTimes_1 z ⟨z1, z2⟩).trans y1) y2)
    · exact tl_order_nf hM (hp.2.2 (j + 1) (lt_nt hp hj z (by decide))) (he (j + 1) _ _ (pTimes_e z z1) (lt_nt hp hj z (by decide)))
  · refine Vw.if_eq (tgt := 84) (n := 77) (de_if_eq (B 74 _ rfl) (B 75 _ rfl) (B 76 _ rfl)) rfl rfl (fun c_74 => ?_) (fun c_74 => ?_)
    · exact tl_order _ _ _ _ _ _ _ _ _ hM hp hj hl (fun j3 l3 c y1 y0 y2 y3 => ho j3 l3 c ((pTimes_0 (z rfl)).trans y1) y0 y2 y3) (fun f t l3 y1 y2 => he f t l3 ((pTimes_0 (z rfl)).trans y1) y2)
    exact absurd rfl c_74
theorem tl_times_nf {d : Nat} {S : vS} {I : vI} {L : vL} {Q : vS → vI → vL → Prop} {r : Nat} {t l b : Int32} (hM : MS S r) (hb : ¬ b = -1) (h : Q S (pm I r t l b) L) : Vw mX12_readOrder (d + 33) 0 0 0 0 (VvQ Q) 68 [(0, .ref r)] [] S (pm I r t l b) L := by
  have B := bs_X12_readOrder
  refine Vw.aload_n (de_aload_0 (B 68 _ rfl)) 0 rfl (n := 69) rfl ?_
  refine Vw.bipush (v := 27) (de_bipush (B 69 _ rfl) (B 70 _ rfl)) rfl (n := 71) rfl ?_
  refine Vw.ivi1 (mi' := mX12_takes0) (de_invokevirtual (B 71 _ rfl) (B 72 _ rfl) (B 73 _ rfl)) ml_X12_198 mv_X12_takes0 hM.k (Nat.le_of_ble_eq_true rfl) (n := 74) rfl (c_X12_takes0_nf hM hb ?_)
  refine Vw.if_eq (tgt := 84) (n := 77) (de_if_eq (B 74 _ rfl) (B 75 _ rfl) (B 76 _ rfl)) rfl rfl (fun c_74 => ?_) (fun c_74 => ?_)
  · exact tl_order_nf hM hb h
  exact absurd rfl c_74
theorem rc_order : RC1 mX12_readOrder 33 [] (fun cd vl o => pOrder cd vl o) := by
  intro d S I L Q r nt i l hM hp hi hl hok her
  refine Vc.of rfl (Nat.le_of_ble_eq_true rfl) ?_
  have B := bs_X12_readOrder
  show Vw mX12_readOrder (d + 33) 0 0 0 0 (VvQ Q) 0 [(0, .ref r)] [] S (pm I r (nI i) (nI l) (-1)) L
  refine Vw.aload_n (de_aload_0 (B 0 _ rfl)) 0 rfl (n := 1) rfl ?_
  refine Vw.bipush (v := 21) (de_bipush (B 1 _ rfl) (B 2 _ rfl)) rfl (n := 3) rfl ?_
  refine Vw.ivi1 (mi' := mX12_takes0) (de_invokevirtual (B 3 _ rfl) (B 4 _ rfl) (B 5 _ rfl)) ml_X12_198 mv_X12_takes0 hM.k (Nat.le_of_ble_eq_true rfl) (n := 6) rfl (c_X12_takes0 hM hp hi (fun _ z_3 => ?_) (fun z_3 => ?_))
  · refine Vw.if_eq (tgt := 18) (n := 9) (de_if_eq (B 6 _ rfl) (B 7 _ rfl) (B 8 _ rfl)) rfl rfl (fun c_6 => ?_) (fun c_6 => ?_)
    · exact absurd c_6 (by decide)
    refine Vw.aload_n (de_aload_0 (B 9 _ rfl)) 0 rfl (n := 10) rfl ?_
    refine Vw.bipush (v := 22) (de_bipush (B 10 _ rfl) (B 11 _ rfl)) rfl (n := 12) rfl ?_
    refine Vw.ivv1 (mi' := mX12_readTwo) (de_invokevirtual (B 12 _ rfl) (B 13 _ rfl) (B 14 _ rfl)) ml_X12_220 mv_X12_readTwo hM.k (Nat.le_of_ble_eq_true rfl) (n := 15) rfl (rc_two (by decide) _ _ _ _ _ _ _ _ _ hM hp (lt_nt hp hi z_3 (by decide)) hl (fun j2 l2 d2 z1 z0 z2 z3 => ?_) (fun e t l2 z1 z2 => ?_))
    · refine Vw.goto_ (n := 68) (de_goto_ (B 15 _ rfl) (B 16 _ rfl) (B 17 _ rfl)) rfl ?_
      exact tl_times _ _ _ _ _ _ _ _ _ hM hp z2 z3 (fun j3 l3 c y1 y0 y2 y3 => hok j3 l3 c ((pOrder_o ((pHead_f z_3).trans z1)).trans y1) (by omega) y2 y3) (fun f t l3 y1 y2 => her f t l3 ((pOrder_o ((pHead_f z_3).trans z1)).trans y1) y2)
    · refine Vw.goto_ (n := 68) (de_goto_ (B 15 _ rfl) (B 16 _ rfl) (B 17 _ rfl)) rfl ?_
      exact tl_times_nf hM (hp.2.2 e z2) (her e t l2 (pOrder_e ((pHead_f z_3).trans z1)) z2)
  · refine Vw.if_eq (tgt := 18) (n := 9) (de_if_eq (B 6 _ rfl) (B 7 _ rfl) (B 8 _ rfl)) rfl rfl (fun c_6 => ?_) (fun c_6 => ?_)
    · refine Vw.aload_n (de_aload_0 (B 18 _ rfl)) 0 rfl (n := 19) rfl ?_
      refine Vw.bipush (v := 23) (de_bipush (B 19 _ rfl) (B 20 _ rfl)) rfl (n := 21) rfl ?_
      refine Vw.ivi1 (mi' := mX12_takes0) (de_invokevirtual (B 21 _ rfl) (B 22 _ rfl) (B 23 _ rfl)) ml_X12_198 mv_X12_takes0 hM.k (Nat.le_of_ble_eq_true rfl) (n := 24) rfl (c_X12_takes0 hM hp hi (fun _ z_21 => ?_) (fun z_21 => ?_))
      · refine Vw.if_eq (tgt := 36) (n := 27) (de_if_eq (B 24 _ rfl) (B 25 _ rfl) (B 26 _ rfl)) rfl rfl (fun c_24 => ?_) (fun c_24 => ?_)
        · exact absurd c_24 (by decide)
        refine Vw.aload_n (de_aload_0 (B 27 _ rfl)) 0 rfl (n := 28) rfl ?_
        refine Vw.bipush (v := 24) (de_bipush (B 28 _ rfl) (B 29 _ rfl)) rfl (n := 30) rfl ?_
        refine Vw.ivv1 (mi' := mX12_readTwo) (de_invokevirtual (B 30 _ rfl) (B 31 _ rfl) (B 32 _ rfl)) ml_X12_220 mv_X12_readTwo hM.k (Nat.le_of_ble_eq_true rfl) (n := 33) rfl (rc_two (by decide) _ _ _ _ _ _ _ _ _ hM hp (lt_nt hp hi z_21 (by decide)) hl (fun j2 l2 d2 z1 z0 z2 z3 => ?_) (fun e t l2 z1 z2 => ?_))
        · refine Vw.goto_ (n := 68) (de_goto_ (B 33 _ rfl) (B 34 _ rfl) (B 35 _ rfl)) rfl ?_
          exact tl_times _ _ _ _ _ _ _ _ _ hM hp z2 z3 (fun j3 l3 c y1 y0 y2 y3 => hok j3 l3 c ((pOrder_o ((pHead_h z_21).trans z1)).trans y1) (by omega) y2 y3) (fun f t l3 y1 y2 => her f t l3 ((pOrder_o ((pHead_h z_21).trans z1)).trans y1) y2)
        · refine Vw.goto_ (n := 68) (de_goto_ (B 33 _ rfl) (B 34 _ rfl) (B 35 _ rfl)) rfl ?_
          exact tl_times_nf hM (hp.2.2 e z2) (her e t l2 (pOrder_e ((pHead_h z_21).trans z1)) z2)
      · refine Vw.if_eq (tgt := 36) (n := 27) (de_if_eq (B 24 _ rfl) (B 25 _ rfl) (B 26 _ rfl)) rfl rfl (fun c_24 => ?_) (fun c_24 => ?_)
        · refine Vw.aload_n (de_aload_0 (B 36 _ rfl)) 0 rfl (n := 37) rfl ?_
          refine Vw.bipush (v := 25) (de_bipush (B 37 _ rfl) (B 38 _ rfl)) rfl (n := 39) rfl ?_
          refine Vw.ivi1 (mi' := mX12_takes0) (de_invokevirtual (B 39 _ rfl) (B 40 _ rfl) (B 41 _ rfl)) ml_X12_198 mv_X12_takes0 hM.k (Nat.le_of_ble_eq_true rfl) (n := 42) rfl (c_X12_takes0 hM hp hi (fun _ z_39 => ?_) (fun z_39 => ?_))
          · refine Vw.if_ne (tgt := 54) (n := 45) (de_if_ne (B 42 _ rfl) (B 43 _ rfl) (B 44 _ rfl)) rfl rfl (fun c_42 => ?_) (fun c_42 => ?_)
            · refine Vw.aload_n (de_aload_0 (B 54 _ rfl)) 0 rfl (n := 55) rfl ?_
              refine Vw.iconst (v := 0) (de_iconst_0 (B 55 _ rfl)) rfl (n := 56) rfl ?_
              refine Vw.ivv1 (mi' := mX12_readSum) (de_invokevirtual (B 56 _ rfl) (B 57 _ rfl) (B 58 _ rfl)) ml_X12_211 mv_X12_readSum hM.k (Nat.le_of_ble_eq_true rfl) (n := 59) rfl ((rc_sums 8 (by omega)) _ _ _ _ _ _ _ _ _ hM hp (lt_nt hp hi z_39 (by decide)) hl (fun j2 l2 d2 z1 z0 z2 z3 => ?_) (fun e t l2 z1 z2 => ?_))
              · refine Vw.goto_ (n := 68) (de_goto_ (B 59 _ rfl) (B 60 _ rfl) (B 61 _ rfl)) rfl ?_
                exact tl_times _ _ _ _ _ _ _ _ _ hM hp z2 z3 (fun j3 l3 c y1 y0 y2 y3 => hok j3 l3 c ((pOrder_o (pHead_s (Or.inl z_39) z1)).trans y1) (by omega) y2 y3) (fun f t l3 y1 y2 => her f t l3 ((pOrder_o (pHead_s (Or.inl z_39) z1)).trans y1) y2)
              · refine Vw.goto_ (n := 68) (de_goto_ (B 59 _ rfl) (B 60 _ rfl) (B 61 _ rfl)) rfl ?_
                exact tl_times_nf hM (hp.2.2 e z2) (her e t l2 (pOrder_e (pHead_se (Or.inl z_39) z1)) z2)
            exact absurd c_42 (by decide)
          · refine Vw.if_ne (tgt := 54) (n := 45) (de_if_ne (B 42 _ rfl) (B 43 _ rfl) (B 44 _ rfl)) rfl rfl (fun c_42 => ?_) (fun c_42 => ?_)
            · exact absurd rfl c_42
            refine Vw.aload_n (de_aload_0 (B 45 _ rfl)) 0 rfl (n := 46) rfl ?_
            refine Vw.bipush (v := 26) (de_bipush (B 46 _ rfl) (B 47 _ rfl)) rfl (n := 48) rfl ?_
            refine Vw.ivi1 (mi' := mX12_takes0) (de_invokevirtual (B 48 _ rfl) (B 49 _ rfl) (B 50 _ rfl)) ml_X12_198 mv_X12_takes0 hM.k (Nat.le_of_ble_eq_true rfl) (n := 51) rfl (c_X12_takes0 hM hp hi (fun _ z_48 => ?_) (fun z_48 => ?_))
            · refine Vw.if_eq (tgt := 62) (n := 54) (de_if_eq (B 51 _ rfl) (B 52 _ rfl) (B 53 _ rfl)) rfl rfl (fun c_51 => ?_) (fun c_51 => ?_)
              · exact absurd c_51 (by decide)
              refine Vw.aload_n (de_aload_0 (B 54 _ rfl)) 0 rfl (n := 55) rfl ?_
              refine Vw.iconst (v := 0) (de_iconst_0 (B 55 _ rfl)) rfl (n := 56) rfl ?_
              refine Vw.ivv1 (mi' := mX12_readSum) (de_invokevirtual (B 56 _ rfl) (B 57 _ rfl) (B 58 _ rfl)) ml_X12_211 mv_X12_readSum hM.k (Nat.le_of_ble_eq_true rfl) (n := 59) rfl ((rc_sums 8 (by omega)) _ _ _ _ _ _ _ _ _ hM hp (lt_nt hp hi z_48 (by decide)) hl (fun j2 l2 d2 z1 z0 z2 z3 => ?_) (fun e t l2 z1 z2 => ?_))
              · refine Vw.goto_ (n := 68) (de_goto_ (B 59 _ rfl) (B 60 _ rfl) (B 61 _ rfl)) rfl ?_
                exact tl_times _ _ _ _ _ _ _ _ _ hM hp z2 z3 (fun j3 l3 c y1 y0 y2 y3 => hok j3 l3 c ((pOrder_o (pHead_s (Or.inr z_48) z1)).trans y1) (by omega) y2 y3) (fun f t l3 y1 y2 => her f t l3 ((pOrder_o (pHead_s (Or.inr z_48) z1)).trans y1) y2)
              · refine Vw.goto_ (n := 68) (de_goto_ (B 59 _ rfl) (B 60 _ rfl) (B 61 _ rfl)) rfl ?_
                exact tl_times_nf hM (hp.2.2 e z2) (her e t l2 (pOrder_e (pHead_se (Or.inr z_48) z1)) z2)
            · refine Vw.if_eq (tgt := 62) (n := 54) (de_if_eq (B 51 _ rfl) (B 52 _ rfl) (B 53 _ rfl)) rfl rfl (fun c_51 => ?_) (fun c_51 => ?_)
              · refine Vw.aload_n (de_aload_0 (B 62 _ rfl)) 0 rfl (n := 63) rfl ?_
                refine Vw.bipush (v := 16) (de_bipush (B 63 _ rfl) (B 64 _ rfl)) rfl (n := 65) rfl ?_
                refine Vw.ivv1 (mi' := mX12_must) (de_invokevirtual (B 65 _ rfl) (B 66 _ rfl) (B 67 _ rfl)) ml_X12_214 mv_X12_must hM.k (Nat.le_of_ble_eq_true rfl) (n := 68) rfl (c_X12_must hM hp hi (fun _ z => ?_) (fun _ z => ?_) (fun q => absurd rfl q))
                · exact tl_times _ _ _ _ _ _ _ _ _ hM hp (lt_nt hp hi z (by decide)) hl (fun j3 l3 c y1 y0 y2 y3 => hok j3 l3 c ((pOrder_o (pHead_q z)).trans y1) (by omega) y2 y3) (fun f t l3 y1 y2 => her f t l3 ((pOrder_o (pHead_q z)).trans y1) y2)
                · exact tl_times_nf hM (hp.2.2 i hi) (her i _ _ (pOrder_e (pHead_n (z_3 rfl) (z_21 rfl) (z_39 rfl) (z_48 rfl) z)) hi)
              exact absurd rfl c_51
        exact absurd rfl c_24
    exact absurd rfl c_6
theorem rc_one : RC1 mX12_readOne 34 [] (fun cd vl o => pOne cd vl o) := by
  intro d S I L Q r nt i l hM hp hi hl hok her
  refine Vc.of rfl (Nat.le_of_ble_eq_true rfl) ?_
  have B := bs_X12_readOne
  show Vw mX12_readOne (d + 34) 0 0 0 0 (VvQ Q) 0 [(0, .ref r)] [] S (pm I r (nI i) (nI l) (-1)) L
  refine Vw.aload_n (de_aload_0 (B 0 _ rfl)) 0 rfl (n := 1) rfl ?_
  refine Vw.getI (de_getfield (B 1 _ rfl) (B 2 _ rfl) (B 3 _ rfl)) fl_X12_207 rfl hM.k (n := 4) rfl ?_
  rw [pm_k8]
  refine Vw.if_eq (tgt := 14) (n := 7) (de_if_eq (B 4 _ rfl) (B 5 _ rfl) (B 6 _ rfl)) rfl rfl (fun c_4 => ?_) (fun c_4 => ?_)
  · refine Vw.aload_n (de_aload_0 (B 14 _ rfl)) 0 rfl (n := 15) rfl ?_
    refine Vw.ivv0 (mi' := mX12_readClause) (de_invokevirtual (B 15 _ rfl) (B 16 _ rfl) (B 17 _ rfl)) ml_X12_230 mv_X12_readClause hM.k (Nat.le_of_ble_eq_true rfl) (n := 18) rfl (rc_clause _ _ _ _ _ _ _ _ _ hM hp hi hl (fun j2 l2 d2 z1 z0 z2 z3 => ?_) (fun e t l2 z1 z2 => ?_))
    · exact Vw.vret (de_return_ (B 18 _ rfl)) rfl ⟨rfl, (hok j2 l2 d2 (by show pOne _ _ _ _ _ = _; unfold pOne; rw [if_neg (by simp [c_4])]; exact z1) z0 z2 z3)⟩
    · exact Vw.vret (de_return_ (B 18 _ rfl)) rfl ⟨rfl, (her e _ _ (by show pOne _ _ _ _ _ = _; unfold pOne; rw [if_neg (by simp [c_4])]; exact z1) z2)⟩
  refine Vw.aload_n (de_aload_0 (B 7 _ rfl)) 0 rfl (n := 8) rfl ?_
  refine Vw.ivv0 (mi' := mX12_readOrder) (de_invokevirtual (B 8 _ rfl) (B 9 _ rfl) (B 10 _ rfl)) ml_X12_227 mv_X12_readOrder hM.k (Nat.le_of_ble_eq_true rfl) (n := 11) rfl (rc_order _ _ _ _ _ _ _ _ _ hM hp hi hl (fun j2 l2 d2 z1 z0 z2 z3 => ?_) (fun e t l2 z1 z2 => ?_))
  · refine Vw.goto_ (n := 18) (de_goto_ (B 11 _ rfl) (B 12 _ rfl) (B 13 _ rfl)) rfl ?_
    exact Vw.vret (de_return_ (B 18 _ rfl)) rfl ⟨rfl, (hok j2 l2 d2 (by show pOne _ _ _ _ _ = _; unfold pOne; rw [if_pos (ord_y c_4)]; exact z1) z0 z2 z3)⟩
  · refine Vw.goto_ (n := 18) (de_goto_ (B 11 _ rfl) (B 12 _ rfl) (B 13 _ rfl)) rfl ?_
    exact Vw.vret (de_return_ (B 18 _ rfl)) rfl ⟨rfl, (her e _ _ (by show pOne _ _ _ _ _ = _; unfold pOne; rw [if_pos (ord_y c_4)]; exact z1) z2)⟩
