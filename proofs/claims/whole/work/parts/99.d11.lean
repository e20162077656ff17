/-! The reader: whole TEXTS -/
theorem runE_all {P : Int32 → Bool} {u : Nat → Int32} {n : Nat} : ∀ {f k : Nat} {x : Nat}, k ≤ x → x < runE P u n f k → P (u x) = true
  | 0, k, x, h1, h2 => by rw [runE] at h2; omega
  | f + 1, k, x, h1, h2 => by
    rw [runE] at h2
    split at h2
    · rename_i q
      rcases (show x = k ∨ k + 1 ≤ x by omega) with z | z
      · rw [z]; exact q.2
      · exact runE_all z h2
    · omega
theorem tEnd_l {u : Nat → Int32} {n k : Nat} (hb : ∀ x, x < n → bt (u x)) (hk : k < n) : LTk u k (tEnd u n k) := by
  unfold tEnd
  refine ⟨fun q x h1 h2 => ?_, fun q x h1 h2 => ?_⟩
  · rw [if_pos q] at h2
    rcases (show x = k ∨ k + 1 ≤ x by omega) with z | z
    · rw [z]; exact q
    · exact runE_all z h2
  · have q1 : ¬ isSm (u k) = true := fun z => by rw [((bt_f (hb k hk)).2.2.1 z).2] at q; cases q
    rw [if_neg q1, if_pos q] at h2
    rcases (show x = k ∨ k + 1 ≤ x by omega) with z | z
    · rw [z]; exact q
    · exact runE_all z h2
theorem tkL_ok {u : Nat → Int32} {n : Nat} (hb : ∀ x, x < n → bt (u x)) : ∀ {f k : Nat} {q : Nat × Nat}, q ∈ tkL u n f k → q.1 < q.2 ∧ q.2 ≤ n ∧ LTk u q.1 q.2
  | 0, k, q, h => by cases h
  | f + 1, k, q, h => by
    rw [tkL] at h
    split at h
    · rename_i hk
      split at h
      · exact tkL_ok hb h
      · rcases List.mem_cons.mp h with rfl | h
        · exact ⟨(tEnd_b hk).1, (tEnd_b hk).2, tEnd_l hb hk⟩
        · exact tkL_ok hb h
    · cases h
theorem CQ.of {o : Bool} {I I2 : vI} {w w2 : Nat → Int32} {s n c c2 : Nat} {cl : tC} (h : CQ o I w s n cl c c2) (e : ∀ b, s + 76 ≤ b → b ≤ s + 81 → I2 b n = I b n) (e2 : ∀ x, x < c2 → w2 x = w x) : CQ o I2 w2 s n cl c c2 := by
  obtain ⟨fe, se, h1, h2, h3, h4, h5, h6, h7, h8, h9⟩ := h
  refine ⟨fe, se, by rw [e _ (by omega) (by omega)]; exact h1, by rw [e _ (by omega) (by omega)]; exact h2, by rw [e _ (by omega) (by omega)]; exact h3, by rw [e _ (by omega) (by omega)]; exact h4, by rw [e _ (by omega) (by omega)]; exact h5, by rw [e _ (by omega) (by omega)]; exact h6, h7.of (fun x hx => e2 x (by omega)), h8, ?_⟩
  rcases h9 with q | ⟨q1, t, q2, q3⟩
  · exact Or.inl q
  · exact Or.inr ⟨q1, t, q2, q3.of (fun x _ g => e2 x g)⟩
theorem rm_in {I : vI} {s : Nat} : up2 (up2 (up2 (up2 (up2 I (s + 74) 8 0) (s + 74) 9 0) (s + 74) 10 0) (s + 75) 0 0) (s + 74) 11 (-1) = rm (up2 I (s + 75) 0 0) s 0 0 0 (-1) (I (s + 82)) := by
  funext a k
  simp only [up2, rm]
  by_cases h1 : a = s + 74
  · subst h1
    by_cases h8 : k = 8
    · subst h8; simp
    · by_cases h9 : k = 9
      · subst h9; simp
      · by_cases h10 : k = 10
        · subst h10; simp
        · by_cases h11 : k = 11
          · subst h11; simp
          · simp [h8, h9, h10, h11]
  · by_cases h2 : a = s + 75
    · subst h2; simp
    · by_cases h3 : a = s + 82
      · subst h3; simp
      · simp [h1, h2, h3]
/-- clauses of a draft -/
def DQ (o : Bool) (I : vI) (w : Nat → Int32) (s c : Nat) (acc : List tC) : Prop := OKw w 0 c ∧ ∀ i cl, acc[i]? = some cl → ∃ ca cb, cb ≤ c ∧ CQ o I w s i cl ca cb
theorem DQ.sc {o : Bool} {I : vI} {w : Nat → Int32} {s c : Nat} {acc : List tC} (h : DQ o I w s c acc) (h0 : I (s + 75) 0 = nI acc.length) (hl : acc.length ≤ 12) (hc : c ≤ 400) (hw : ∀ x, I (s + 82) x = w x) : ScR I (s + 75) acc (vbX o) (klO o) c (nbX o) (dNX o) := by
  refine ⟨h0, hl, hc, fun x => ((w x).toNatClampNeg % 16, (w x).toNatClampNeg / 16), fun x hx => ?_, fun i cl hi => ?_⟩
  · obtain ⟨a, k, h1, h2, h3⟩ := h.1 x (Nat.zero_le _) hx
    have ez : (w x).toNatClampNeg = a + 16 * k := by rw [h3, nI_cl (by omega)]
    show I (s + 75 + 7) x = nI ((w x).toNatClampNeg % 16 + 16 * ((w x).toNatClampNeg / 16)) ∧ (w x).toNatClampNeg % 16 ≤ 12 ∧ (w x).toNatClampNeg / 16 ≤ 1000000
    rw [ez, show I (s + 75 + 7) x = w x from hw x, h3]
    refine ⟨?_, by omega, by omega⟩
    congr 1; omega
  · obtain ⟨ca, cb, b1, fe, se, q1, q2, q3, q4, q5, q6, q7, q8, q9⟩ := h.2 i cl hi
    have hcw : ∀ a b, b ≤ c → CWr w (fun x => ((w x).toNatClampNeg % 16, (w x).toNatClampNeg / 16)) a b := fun a b hb x g1 g2 => by
      obtain ⟨aa, k, h1, h2, h3⟩ := h.1 x (Nat.zero_le _) (by omega)
      have ez : (w x).toNatClampNeg = aa + 16 * k := by rw [h3, nI_cl (by omega)]
      show w x = nI ((w x).toNatClampNeg % 16 + 16 * ((w x).toNatClampNeg / 16)) ∧ (w x).toNatClampNeg % 16 ≤ 12 ∧ (w x).toNatClampNeg / 16 ≤ 1000000
      rw [ez, h3]
      refine ⟨?_, by omega, by omega⟩
      congr 1; omega
    obtain ⟨z1, z2, z3, z4⟩ := q7
    refine ⟨q6, ca, fe, se, cb, q1, q2, q3, q4, z1, z2, q8, b1, q5, ?_, ?_, ?_⟩
    · rcases z3 with ⟨y1, y2, y3⟩ | y
      · exact Or.inl ⟨y1, y2, 20, by decide, y3.2.2 _ (hcw _ _ (by omega))⟩
      · exact Or.inr y
    · rcases z4 with ⟨y1, y3⟩ | y
      · exact Or.inl ⟨y1, 20, by decide, y3.2.2 _ (hcw _ _ (by omega))⟩
      · exact Or.inr y
    · rcases q9 with y | ⟨y1, t, y2, y3⟩
      · exact Or.inl y
      · exact Or.inr ⟨y1, t, 20, y2, by decide, y3.2.2 _ (hcw _ _ b1)⟩
theorem k_clause {d : Nat} {S : vS} {I : vI} {L : vL} {Q : Int32 → vS → vI → vL → Prop} {s tp nt i l c n : Nat} {u cd vl : Nat → Int32} {f : Int32} {w : Nat → Int32} {o : Bool} (hx : RX S I s tp u cd vl nt o) (hi : i ≤ nt) (hl : l ≤ 50) (hci : c ≤ i) (hn : n < 12)
    (h1 : ∀ j l2 cl c2 w2 I2, pOne cd vl o i l = .ok (j, l2, cl) → i < j → j ≤ nt → l2 ≤ 50 → c2 + i ≤ c + j → c ≤ c2 → (∀ x, x < c → w2 x = w x) → OKw w2 c c2 → FrC I I2 s n → CQ o I2 w2 s n cl c c2 → Q 1 S (rm I2 s (nI j) (nI l2) (nI c2) f w2) L)
    (h0 : ∀ e t l2 c2 w2 I2, pOne cd vl o i l = .error e → e ≤ nt → FrC I I2 s n → Q 0 S (rm I2 s t l2 c2 (I (s + 84) e) w2) L) : Vc mX5_readClause (d + 45) 0 0 [.ref (s + 74), .int (nI n)] S (rm I s (nI i) (nI l) (nI c) f w) L (ViQ Q) := by
  cases o with
  | true => exact k_clauseO hx hi hl hci hn h1 h0
  | false => exact k_clauseL hx hi hl hci hn h1 h0
theorem ScS.of {S S2 : vS} {a n m : Nat} (h : ScS S a n m) (e1 : S2.1 = S.1) (e2 : S2.2.1 a = S.2.1 a) : ScS S2 a n m := by
  unfold ScS at h ⊢; rw [e1, e2]; exact h
theorem pRest_s {cd vl : Nat → Int32} {o : Bool} {nt m j l : Nat} {acc : List tC} (h : cd j = 159) : pRest cd vl o nt (m + 1) j l acc = match pOne cd vl o (j + 1) l with
    | .error e => .error e
    | .ok (j2, l2, c) => pRest cd vl o nt m j2 l2 (acc ++ [c]) := by
  rw [pRest, if_pos h]
  cases pOne cd vl o (j + 1) l with
  | error e => rfl
  | ok q => rfl
theorem ReadS.sup {S : vS} {s tp : Nat} (h : ReadS S (s + 74)) : ReadS (sUp S (s + 74) 5 (some tp)) (s + 74) := by
  obtain ⟨h1, h2, k2, h4, h5, h6, h7, h8, h9, h10, h11⟩ := h
  refine ⟨h1, ?_, k2.of rfl (up2_row (by omega)), ?_, h5, ?_, h7, ?_, h9, ?_, h11⟩
  · show up2 S.2.1 (s + 74) 5 _ (s + 74) 0 = _; rw [up2_k (by decide)]; exact h2
  · show up2 S.2.1 (s + 74) 5 _ (s + 74) 1 = _; rw [up2_k (by decide)]; exact h4
  · show up2 S.2.1 (s + 74) 5 _ (s + 74) 2 = _; rw [up2_k (by decide)]; exact h6
  · show up2 S.2.1 (s + 74) 5 _ (s + 74) 3 = _; rw [up2_k (by decide)]; exact h8
  · show up2 S.2.1 (s + 74) 5 _ (s + 74) 4 = _; rw [up2_k (by decide)]; exact h10
def FrT (s : Nat) (I I2 : vI) : Prop := ∀ b, ¬ (s + 74 ≤ b ∧ b ≤ s + 86) → I2 b = I b
/-- where the token e begins -/
def plcT (tks : List (Nat × Nat)) (n e : Nat) : Nat := (tks.getD e (n, n)).1
theorem k_readText {d : Nat} {S : vS} {I : vI} {L : vL} {Q : Int32 → vS → vI → vL → Prop} {s tp n : Nat} {u cd vl : Nat → Int32} {o : Bool} (hR : ReadS S (s + 74)) (htk : S.1 tp = (100, 400)) (htp : s + 87 ≤ tp) (hst : ∀ k, k < 11 → ∃ z, TxS S k z) (hu : ∀ x, x < 400 → I tp x = u x &&& 255 ∧ bt (u x)) (hn : n ≤ 400)
    (hcd : ∀ i a e, (tkL u n 401 0)[i]? = some (a, e) → cd i = tCd u a e ∧ vl i = tVl u a e) (hc0 : cd (tkL u n 401 0).length = 0)
    (h1 : ∀ cs c I2, pText cd vl o (tkL u n 401 0).length = .ok cs → FrT s I I2 → ScR I2 (s + 75) cs (vbX o) (klO o) c (nbX o) (dNX o) → I2 (s + 74) 11 = -1 → Q 1 (sUp S (s + 74) 5 (some tp)) I2 L)
    (h0 : ∀ e I2, pText cd vl o (tkL u n 401 0).length = .error e → e ≤ (tkL u n 401 0).length → FrT s I I2 → I2 (s + 74) 11 = nI (plcT (tkL u n 401 0) n e) → Q 0 (sUp S (s + 74) 5 (some tp)) I2 L) : Vc mX5_readText (d + 47) 0 0 [.ref (s + 74), .ref tp, .int (nI n), .int (bI o)] S I L (ViQ Q) := by
  refine Vc.of rfl (Nat.le_of_ble_eq_true rfl) ?_
  have B := bs_X5_readText
  show Vw mX5_readText (d + 47) 0 0 0 0 (ViQ Q) 0 [(0, .ref (s + 74)), (1, .ref tp), (2, .int (nI n)), (3, .int (bI o))] [] S I L
  have hR2 : ReadS (sUp S (s + 74) 5 (some tp)) (s + 74) := hR.sup
  have ht2 : (sUp S (s + 74) 5 (some tp)).2.1 (s + 74) 5 = some tp := up2_s _ _ _ _
  have hlen : (tkL u n 401 0).length ≤ n := by have := tkL_len (u := u) (n := n) (f := 401) (k := 0); omega
  have loop : ∀ k, k ≤ 12 → ∀ J i l c w acc, RX (sUp S (s + 74) 5 (some tp)) J s tp u cd vl (tkL u n 401 0).length o → FrT s I J → (∀ e, e ≤ (tkL u n 401 0).length → J (s + 84) e = nI (plcT (tkL u n 401 0) n e)) → i ≤ (tkL u n 401 0).length → l ≤ 50 → c ≤ i → acc.length = k → J (s + 75) 0 = nI k → DQ o J w s c acc → (k < 12 → pText cd vl o (tkL u n 401 0).length = (match pOne cd vl o i l with
      | .error e => .error e
      | .ok (j, l2, cl) => pRest cd vl o (tkL u n 401 0).length (11 - k) j l2 (acc ++ [cl]))) → (k = 12 → pText cd vl o (tkL u n 401 0).length = .error i) → Vw mX5_readText (d + 47) 0 0 0 0 (ViQ Q) 46 [(0, .ref (s + 74)), (1, .ref tp), (2, .int (nI n)), (3, .int (bI o)), (4, .int (nI k))] [] (sUp S (s + 74) 5 (some tp)) (rm J s (nI i) (nI l) (nI c) (-1) w) L := by
    refine loop_up (fun k hk ih => ?_)
    intro J i l c w acc hx frJ hpl hi hl hci hacc h75 hD eP eP12
    have h4 := hx.n4
    refine Vw.iload (de_iload (B 46 _ rfl) (B 47 _ rfl)) 4 rfl (n := 48) rfl ?_
    refine Vw.bipush (v := 12) (de_bipush (B 48 _ rfl) (B 49 _ rfl)) rfl (n := 50) rfl ?_
    refine Vw.icmp_ge (tgt := 111) (n := 53) (de_icmp_ge (B 50 _ rfl) (B 51 _ rfl) (B 52 _ rfl)) rfl rfl (fun c_50 => ?_) (fun c_50 => ?_)
    · have z_50 : k = 12 := by have := (nI_leI (a := 12) (b := k) (by omega) (by omega)).mp c_50; omega
      refine Vw.aload_n (de_aload_0 (B 111 _ rfl)) 0 rfl (n := 112) rfl ?_
      refine Vw.ivi0 (mi' := mX5_fail) (de_invokevirtual (B 112 _ rfl) (B 113 _ rfl) (B 114 _ rfl)) ml_X5_67 mv_X5_fail hx.rd.k (Nat.le_of_ble_eq_true rfl) (n := 115) rfl (k_fail hx hi ?_)
      exact Vw.zret (de_ireturn (B 115 _ rfl)) rfl rfl ⟨_, rfl, (by
      refine h0 i _ (eP12 z_50) hi (fun b hb => by rw [rm_r (by omega) (by omega)]; exact frJ b hb) ?_
      rw [rm_11]; exact hpl i hi)⟩
    have z_50 : k < 12 := by rcases Nat.lt_or_ge k 12 with z | z; exact z; exact absurd ((nI_leI (a := 12) (b := k) (by omega) (by omega)).mpr z) c_50
    refine Vw.aload_n (de_aload_0 (B 53 _ rfl)) 0 rfl (n := 54) rfl ?_
    refine Vw.iload (de_iload (B 54 _ rfl) (B 55 _ rfl)) 4 rfl (n := 56) rfl ?_
    refine Vw.ivi1 (mi' := mX5_readClause) (de_invokevirtual (B 56 _ rfl) (B 57 _ rfl) (B 58 _ rfl)) ml_X5_60 mv_X5_readClause hx.rd.k (Nat.le_of_ble_eq_true rfl) (n := 59) rfl (k_clause (n := k) hx hi hl hci z_50 (fun j l2 cl c3 w3 I3 e1 a1 a2 a3 a4 a4b a5 a6 a7 a8 => ?_) (fun e t2 l2 c2 w2 I3 e1 a1 a7 => ?_))
    · have eP2 := eP z_50
      rw [e1] at eP2
      dsimp only at eP2
      have hD2 : DQ o I3 w3 s c3 (acc ++ [cl]) := by
        refine ⟨(hD.1.of (fun x _ g => a5 x g)).app a6, fun i2 cl2 q => ?_⟩
        rcases Nat.lt_or_ge i2 acc.length with z | z
        · rw [List.getElem?_append_left z] at q
          obtain ⟨ca, cb, g1, g2⟩ := hD.2 i2 cl2 q
          exact ⟨ca, cb, by omega, g2.of (fun b g3 g4 => a7 b i2 (fun y => by omega)) (fun x g => a5 x (by omega))⟩
        · rw [List.getElem?_append_right z] at q
          have z2 : i2 = acc.length := by
            rcases Nat.eq_zero_or_pos (i2 - acc.length) with y | y
            · omega
            · rw [List.getElem?_eq_none (by simp only [List.length_cons, List.length_nil]; omega)] at q; cases q
          rw [z2, Nat.sub_self] at q
          simp only [List.getElem?_cons_zero, Option.some.injEq] at q
          subst q
          rw [z2, hacc]
          exact ⟨c, c3, Nat.le_refl _, a8⟩
      obtain ⟨IA, eA⟩ : ∃ x : vI, x = up2 I3 (s + 75) 0 (nI (k + 1)) := ⟨_, rfl⟩
      have fA : ∀ b, b ≠ s + 75 → IA b = I3 b := fun b hb => by rw [eA, up2_row hb]
      have frA : FrT s I IA := fun b hb => by rw [fA b (by omega), a7.row (by omega)]; exact frJ b hb
      have hx3 := hx.fr a7
      have hxA : RX (sUp S (s + 74) 5 (some tp)) IA s tp u cd vl (tkL u n 401 0).length o := by
        obtain ⟨g1, g2, g3, g4, g5, g6, g7, g8, g9, g10, g11, g12⟩ := hx3
        refine ⟨g1, g2, g3, g4, g5, by rw [fA _ (by omega)]; exact g6, g7, fun x hx => by rw [fA _ (by omega)]; exact g8 x hx, ?_, by rw [fA _ (by omega)]; exact g10, by rw [fA _ (by omega)]; exact g11, g12⟩
        obtain ⟨tks, b1, b2⟩ := g9
        exact ⟨tks, b1, fun i a e q => by rw [fA (s + 83) (by omega), fA (s + 84) (by omega), fA (s + 85) (by omega), fA (s + 86) (by omega)]; exact b2 i a e q⟩
      have hDA : DQ o IA w3 s c3 (acc ++ [cl]) := ⟨hD2.1, fun i2 cl2 q => by
        obtain ⟨ca, cb, g1, g2⟩ := hD2.2 i2 cl2 q
        exact ⟨ca, cb, g1, g2.of (fun b g3 g4 => by rw [fA b (by omega)]) (fun _ _ => rfl)⟩⟩
      have hplA : ∀ e, e ≤ (tkL u n 401 0).length → IA (s + 84) e = nI (plcT (tkL u n 401 0) n e) := fun e he => by rw [fA _ (by omega), a7.row (by omega)]; exact hpl e he
      have lenA : (acc ++ [cl]).length = k + 1 := by rw [List.length_append, hacc]; rfl
      have A75 : IA (s + 75) 0 = nI (k + 1) := by rw [eA, up2_s]
      refine Vw.if_ne (tgt := 64) (n := 62) (de_if_ne (B 59 _ rfl) (B 60 _ rfl) (B 61 _ rfl)) rfl rfl (fun c_59 => ?_) (fun c_59 => ?_)
      · refine Vw.aload_n (de_aload_0 (B 64 _ rfl)) 0 rfl (n := 65) rfl ?_
        refine Vw.getR (de_getfield (B 65 _ rfl) (B 66 _ rfl) (B 67 _ rfl)) fl_X5_14 rfl hx.rd.k hx.rd.f0 (n := 68) rfl ?_
        refine Vw.dup (de_dup (B 68 _ rfl)) rfl (n := 69) rfl ?_
        refine Vw.getI (de_getfield (B 69 _ rfl) (B 70 _ rfl) (B 71 _ rfl)) fl_X5_57 rfl hx.rd.p0.k (n := 72) rfl ?_
        rw [rm_a (by omega) (by omega), show I3 (s + 74 + 1) 0 = nI k from by rw [a7.row (by omega)]; exact h75]
        refine Vw.iconst (v := 1) (de_iconst_1 (B 72 _ rfl)) rfl (n := 73) rfl ?_
        refine Vw.iadd (de_iadd (B 73 _ rfl)) (n := 74) rfl ?_
        rw [nI_1]
        refine Vw.putI (de_putfield (B 74 _ rfl) (B 75 _ rfl) (B 76 _ rfl)) fl_X5_57 hx.rd.p0.k rfl rfl (n := 77) rfl ?_
        rw [show s + 74 + 1 = s + 75 from rfl, up_I (by omega) (by omega), ← eA]
        refine Vw.aload_n (de_aload_0 (B 77 _ rfl)) 0 rfl (n := 78) rfl ?_
        refine Vw.getR (de_getfield (B 78 _ rfl) (B 79 _ rfl) (B 80 _ rfl)) fl_X5_20 rfl hx.rd.k hx.rd.f1 (n := 81) rfl ?_
        refine Vw.aload_n (de_aload_0 (B 81 _ rfl)) 0 rfl (n := 82) rfl ?_
        refine Vw.getI (de_getfield (B 82 _ rfl) (B 83 _ rfl) (B 84 _ rfl)) fl_X5_48 rfl hx.rd.k (n := 85) rfl ?_
        rw [rm_8]
        refine Vw.iald (de_iaload (B 85 _ rfl)) hx.rd.r1 (vIx_n (k := j) rfl (by omega)) (n := 86) rfl ?_
        rw [rm_kd]
        refine Vw.sipush (v := 258) (de_sipush (B 86 _ rfl) (B 87 _ rfl) (B 88 _ rfl)) rfl (n := 89) rfl ?_
        refine Vw.icmp_ne (tgt := 94) (n := 92) (de_icmp_ne (B 89 _ rfl) (B 90 _ rfl) (B 91 _ rfl)) rfl rfl (fun c_89 => ?_) (fun c_89 => ?_)
        · refine Vw.aload_n (de_aload_0 (B 94 _ rfl)) 0 rfl (n := 95) rfl ?_
          refine Vw.bipush (v := 59) (de_bipush (B 95 _ rfl) (B 96 _ rfl)) rfl (n := 97) rfl ?_
          refine Vw.ivi1 (mi' := mX5_goOnBehind) (de_invokevirtual (B 97 _ rfl) (B 98 _ rfl) (B 99 _ rfl)) ml_X5_64 mv_X5_goOnBehind hx.rd.k (Nat.le_of_ble_eq_true rfl) (n := 100) rfl (k_goOnBehind (sg := 59) (i := j) hxA a2 (by decide) (fun g1 => ?_) (fun g0 => ?_))
          · have c159 : cd j = 159 := g1
            have j1 : j < (tkL u n 401 0).length := by
              rcases Nat.lt_or_ge j (tkL u n 401 0).length with z | z
              · exact z
              · rw [show j = (tkL u n 401 0).length by omega, hc0] at c159; exact absurd c159 (by decide)
            refine Vw.if_ne (tgt := 105) (n := 103) (de_if_ne (B 100 _ rfl) (B 101 _ rfl) (B 102 _ rfl)) rfl rfl (fun c_100 => ?_) (fun c_100 => ?_)
            · refine Vw.iinc (v := nI (k + 1)) (lv2 := [(0, _), (1, _), (2, _), (3, _), (4, _)]) (de_iinc (B 105 _ rfl) (B 106 _ rfl) (B 107 _ rfl)) 4 rfl (nI_1 k) (by decide) [1, 2, 3, 4, 0] rfl (n := 108) rfl ?_
              refine Vw.goto_ (n := 46) (de_goto_ (B 108 _ rfl) (B 109 _ rfl) (B 110 _ rfl)) rfl ?_
              refine ih z_50 IA (j + 1) l2 c3 w3 (acc ++ [cl]) hxA frA hplA (by omega) a3 (by omega) lenA A75 hDA (fun k12 => ?_) (fun k12 => ?_)
              · rw [eP2, show 11 - k = 11 - (k + 1) + 1 by omega, pRest_s c159]
              · rw [eP2, show 11 - k = 0 by omega, pRest_x c159]
            exact absurd c_100 (by decide)
          · refine Vw.if_ne (tgt := 105) (n := 103) (de_if_ne (B 100 _ rfl) (B 101 _ rfl) (B 102 _ rfl)) rfl rfl (fun c_100 => ?_) (fun c_100 => ?_)
            · exact absurd c_100 (by decide)
            refine Vw.iconst (v := 0) (de_iconst_0 (B 103 _ rfl)) rfl (n := 104) rfl ?_
            exact Vw.zret (de_ireturn (B 104 _ rfl)) rfl rfl ⟨_, rfl, (by
      have n159 : ¬ cd j = 159 := g0
      have j1 : j < (tkL u n 401 0).length := by
        rcases Nat.lt_or_ge j (tkL u n 401 0).length with z | z
        · exact z
        · exact absurd ((hxA.endk a2).mpr (by omega)) c_89
      refine h0 j _ (by rw [eP2, pRest_n n159 j1]) a2 (fun b hb => by rw [rm_r (by omega) (by omega)]; exact frA b hb) ?_
      rw [rm_11]; exact hplA j a2)⟩
        refine Vw.iconst (v := 1) (de_iconst_1 (B 92 _ rfl)) rfl (n := 93) rfl ?_
        exact Vw.zret (de_ireturn (B 93 _ rfl)) rfl rfl ⟨_, rfl, (by
      have jn : j = (tkL u n 401 0).length := (hxA.endk a2).mp c_89
      have n159 : ¬ cd j = 159 := by rw [jn, hc0]; decide
      refine h1 (acc ++ [cl]) c3 _ (by rw [eP2, pRest_0 n159 (by omega)]) (fun b hb => by rw [rm_r (by omega) (by omega)]; exact frA b hb) ?_ rm_11
      have g := hDA.sc (I := IA) (by rw [A75, lenA])
      refine DQ.sc (w := w3) ⟨hDA.1, fun i2 cl2 q => ?_⟩ (by rw [rm_a (by omega) (by omega), A75, lenA]) (by rw [lenA]; omega) (by omega) (fun x => rm_w)
      obtain ⟨ca, cb, g1, g2⟩ := hDA.2 i2 cl2 q
      exact ⟨ca, cb, g1, g2.of (fun b g3 g4 => rm_a (by omega) (by omega)) (fun _ _ => rfl)⟩)⟩
      exact absurd c_59 (by decide)
    · refine Vw.if_ne (tgt := 64) (n := 62) (de_if_ne (B 59 _ rfl) (B 60 _ rfl) (B 61 _ rfl)) rfl rfl (fun c_59 => ?_) (fun c_59 => ?_)
      · exact absurd c_59 (by decide)
      refine Vw.iconst (v := 0) (de_iconst_0 (B 62 _ rfl)) rfl (n := 63) rfl ?_
      exact Vw.zret (de_ireturn (B 63 _ rfl)) rfl rfl ⟨_, rfl, (by
      have eP2 := eP z_50
      rw [e1] at eP2
      refine h0 e _ eP2 a1 (fun b hb => by rw [rm_r (by omega) (by omega), a7.row (by omega)]; exact frJ b hb) ?_
      rw [rm_11]; exact hpl e a1)⟩
  refine Vw.aload_n (de_aload_0 (B 0 _ rfl)) 0 rfl (n := 1) rfl ?_
  refine Vw.aload_n (de_aload_1 (B 1 _ rfl)) 1 rfl (n := 2) rfl ?_
  refine Vw.putR (de_putfield (B 2 _ rfl) (B 3 _ rfl) (B 4 _ rfl)) fl_X5_33 hR.k rfl (Or.inl rfl) (n := 5) rfl ?_
  refine Vw.aload_n (de_aload_0 (B 5 _ rfl)) 0 rfl (n := 6) rfl ?_
  refine Vw.iload_n (de_iload_3 (B 6 _ rfl)) 3 rfl (n := 7) rfl ?_
  refine Vw.putZ (de_putfield (B 7 _ rfl) (B 8 _ rfl) (B 9 _ rfl)) fl_X5_40 hR2.k rfl rfl (by cases o <;> rfl) (by cases o <;> rfl) (n := 10) rfl ?_
  refine Vw.aload_n (de_aload_0 (B 10 _ rfl)) 0 rfl (n := 11) rfl ?_
  refine Vw.iload_n (de_iload_2 (B 11 _ rfl)) 2 rfl (n := 12) rfl ?_
  refine Vw.ivv1 (mi' := mX5_split) (de_invokevirtual (B 12 _ rfl) (B 13 _ rfl) (B 14 _ rfl)) ml_X5_44 mv_X5_split hR2.k (Nat.le_of_ble_eq_true rfl) (n := 15) rfl (c_X5_split (u := u) hR2 ht2 htk (fun x hx => ⟨by rw [up2_a (by omega)]; exact (hu x hx).1, (hu x hx).2⟩) htp hn (fun I3 f3 rT k258 e84 e86 => ?_))
  refine Vw.aload_n (de_aload_0 (B 15 _ rfl)) 0 rfl (n := 16) rfl ?_
  refine Vw.iconst (v := 0) (de_iconst_0 (B 16 _ rfl)) rfl (n := 17) rfl ?_
  refine Vw.putI (de_putfield (B 17 _ rfl) (B 18 _ rfl) (B 19 _ rfl)) fl_X5_48 hR2.k rfl rfl (n := 20) rfl ?_
  refine Vw.aload_n (de_aload_0 (B 20 _ rfl)) 0 rfl (n := 21) rfl ?_
  refine Vw.iconst (v := 0) (de_iconst_0 (B 21 _ rfl)) rfl (n := 22) rfl ?_
  refine Vw.putI (de_putfield (B 22 _ rfl) (B 23 _ rfl) (B 24 _ rfl)) fl_X5_51 hR2.k rfl rfl (n := 25) rfl ?_
  refine Vw.aload_n (de_aload_0 (B 25 _ rfl)) 0 rfl (n := 26) rfl ?_
  refine Vw.iconst (v := 0) (de_iconst_0 (B 26 _ rfl)) rfl (n := 27) rfl ?_
  refine Vw.putI (de_putfield (B 27 _ rfl) (B 28 _ rfl) (B 29 _ rfl)) fl_X5_54 hR2.k rfl rfl (n := 30) rfl ?_
  refine Vw.aload_n (de_aload_0 (B 30 _ rfl)) 0 rfl (n := 31) rfl ?_
  refine Vw.getR (de_getfield (B 31 _ rfl) (B 32 _ rfl) (B 33 _ rfl)) fl_X5_14 rfl hR2.k hR2.f0 (n := 34) rfl ?_
  refine Vw.iconst (v := 0) (de_iconst_0 (B 34 _ rfl)) rfl (n := 35) rfl ?_
  refine Vw.putI (de_putfield (B 35 _ rfl) (B 36 _ rfl) (B 37 _ rfl)) fl_X5_57 hR2.p0.k rfl rfl (n := 38) rfl ?_
  refine Vw.aload_n (de_aload_0 (B 38 _ rfl)) 0 rfl (n := 39) rfl ?_
  refine Vw.iconst (v := -1) (de_iconst_m1 (B 39 _ rfl)) rfl (n := 40) rfl ?_
  refine Vw.putI (de_putfield (B 40 _ rfl) (B 41 _ rfl) (B 42 _ rfl)) fl_X5_36 hR2.k rfl rfl (n := 43) rfl ?_
  refine Vw.iconst (v := 0) (de_iconst_0 (B 43 _ rfl)) rfl (n := 44) rfl ?_
  refine Vw.istore (lv2 := [(0, _), (1, _), (2, _), (3, _), (4, _)]) (de_istore (B 44 _ rfl) (B 45 _ rfl)) (by decide) [1, 2, 3, 4, 0] rfl (n := 46) rfl ?_
  rw [rm_in]
  have fI : ∀ b, ¬ (s + 74 ≤ b ∧ b ≤ s + 86) → I3 b = I b := fun b hb => funext fun x => by rw [f3 b x (by omega) (by omega), up2_row (by omega)]
  have hbt : ∀ x, x < n → bt (u x) := fun x hx => (hu x (by omega)).2
  have hpl : ∀ e, e ≤ (tkL u n 401 0).length → I3 (s + 84) e = nI (plcT (tkL u n 401 0) n e) := fun e he => by
    unfold plcT
    rcases Nat.lt_or_ge e (tkL u n 401 0).length with z | z
    · have q : (tkL u n 401 0)[e]? = some ((tkL u n 401 0)[e]'z) := List.getElem?_eq_getElem z
      have g := (rT e ((tkL u n 401 0)[e]'z).1 ((tkL u n 401 0)[e]'z).2 q).2.1
      rw [g, List.getD_eq_getElem?_getD, q, Option.getD_some]
    · rw [show e = (tkL u n 401 0).length by omega, e84, List.getD_eq_getElem?_getD, List.getElem?_eq_none (Nat.le_refl _), Option.getD_none]
  have hx : RX (sUp S (s + 74) 5 (some tp)) (up2 I3 (s + 75) 0 0) s tp u cd vl (tkL u n 401 0).length o := by
    have e0 : ∀ b, b ≠ s + 75 → up2 I3 (s + 75) 0 0 b = I3 b := fun b hb => up2_row hb
    refine ⟨hR2, ht2, htk, htp, hst, ?_, by omega, fun x hx => ?_, ⟨(tkL u n 401 0), rfl, fun i a e q => ?_⟩, by rw [e0 _ (by omega)]; exact k258, by rw [e0 _ (by omega)]; exact e86, hc0⟩
    · rw [e0 _ (by omega), f3 _ _ (by omega) (by omega), up2_s]
    · rw [e0 _ (by omega), fI _ (by omega)]; exact hu x hx
    · rw [e0 (s + 83) (by omega), e0 (s + 84) (by omega), e0 (s + 85) (by omega), e0 (s + 86) (by omega)]
      obtain ⟨g1, g2, g3, g4⟩ := rT i a e q
      obtain ⟨t1, t2, t3⟩ := tkL_ok hbt (List.mem_of_getElem? q)
      exact ⟨t1, by have := t2; simp only at this; omega, g1, g2, g3, g4, (hcd i a e q).1, (hcd i a e q).2, t3⟩
  refine loop 0 (Nat.zero_le _) _ 0 0 0 _ [] hx (fun b hb => by rw [up2_row (by omega)]; exact fI b hb) (fun e he => by rw [up2_row (by omega)]; exact hpl e he) (Nat.zero_le _) (Nat.zero_le _) (Nat.le_refl _) rfl (up2_s _ _ _ _) ⟨OKw.nil, fun i cl q => by cases q⟩ (fun _ => ?_) (fun z => absurd z (by decide))
  unfold pText
  rfl
