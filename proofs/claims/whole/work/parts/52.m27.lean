/-! What is asked of the town -/
theorem lie_n {x : Int32} {N : Nat} (hN : N < 100000) (h : ¬ zLie x 0 (nI N) = 0) : ∃ j, j ≤ N ∧ x = nI j := by
  have h1 := (zLie_iff _ _ _).mp h
  rw [nI_ti (by omega)] at h1
  obtain ⟨j, h2, h3⟩ := nI_ex (x := x) (n := N + 1) h1.1 (by omega)
  exact ⟨j, by omega, h3⟩
theorem lie_m {x : Int32} {a N : Nat} (hN : N < 100000) (ha : a < 100000) (h : ¬ zLie x (nI a) (nI N) = 0) : ∃ j, a ≤ j ∧ j ≤ N ∧ x = nI j := by
  have h1 := (zLie_iff _ _ _).mp h
  rw [nI_ti (show N < 2147483648 by omega), nI_ti (show a < 2147483648 by omega)] at h1
  obtain ⟨j, h2, h3⟩ := nI_ex (x := x) (n := N + 1) (by omega) (by omega)
  refine ⟨j, ?_, by omega, h3⟩
  rw [h3, nI_ti (by omega)] at h1
  omega
theorem nw_m1 (x : Int32) (j : Nat) : x + nI (j + 1) - 1 = x + nI j := by rw [← nI_1 j, ← Int32.add_assoc, Int32.add_sub_cancel]
def askV (W : tW) (K : Nat → Int32) (p : Int32) (P : tP) (t s w x : Int32) : Int32 := if x = 0 then clothP W p t s w (K 121) P else if x = 1 then payP W p t s w (K 121) P else if x = 2 then barP W p t s w (K 121) P else if x = 3 then fitP s w P else -1
def asksP (W : tW) (K : Nat → Int32) (np : Nat) (p t s w x : Int32) : Int32 := if zLie p 0 (nI np - 1) = 0 ∨ zLie t 0 3 = 0 ∨ zSize s w = 0 then -1 else askV W K p (perP K p.toNatClampNeg) t s w x
theorem asksP_n {W : tW} {K : Nat → Int32} {np : Nat} {p t s w x : Int32} (h : zLie p 0 (nI np - 1) = 0 ∨ zLie t 0 3 = 0 ∨ zSize s w = 0) : asksP W K np p t s w x = -1 := by unfold asksP; rw [if_pos h]
theorem asksP_y {W : tW} {K : Nat → Int32} {np q : Nat} {t s w x : Int32} (h8 : q < 8) (h1 : ¬ zLie (nI q) 0 (nI np - 1) = 0) (h2 : ¬ zLie t 0 3 = 0) (h3 : ¬ zSize s w = 0) : asksP W K np (nI q) t s w x = askV W K (nI q) (perP K q) t s w x := by
  unfold asksP; rw [if_neg (fun z => z.elim h1 (fun z => z.elim h2 h3)), nI_cl (by omega)]
theorem askV_o {W : tW} {K : Nat → Int32} {p : Int32} {P : tP} {t s w x : Int32} (h0 : ¬ x = 0) (h1 : ¬ x = 1) (h2 : ¬ x = 2) (h3 : ¬ x = 3) : askV W K p P t s w x = -1 := by
  unfold askV; rw [if_neg h0, if_neg h1, if_neg h2, if_neg h3]
theorem barP_n0 {W : tW} {p tl size wide now : Int32} {P : tP} (h : ¬ barP W p tl size wide now P = 0) : barP W p tl size wide now P = 1 := by
  unfold barP at h ⊢
  split
  · rfl
  · rename_i g; rw [if_neg g] at h; exact absurd rfl h
theorem c_X12_asks {d : Nat} {S : vS} {I : vI} {L : vL} {Q : Int32 → vS → vI → vL → Prop} {r : Nat} {p t s w x : Int32} {np nc : Nat} {W : tW}  (hM : MS S r) (hW : WD (I (r + 2)) W) (hT : TN (I (r + 2)) np nc) (h : ∀ I2, Fr r I I2 → Q (asksP W (I (r + 2)) np p t s w x) S I2 L) : Vc mX12_asks (d + 44) 0 0 [.ref r, .int p, .int t, .int s, .int w, .int x] S I L (ViQ Q) := by
  refine Vc.of rfl (Nat.le_of_ble_eq_true rfl) ?_
  have B := bs_X12_asks
  show Vw mX12_asks (d + 44) 0 0 0 0 (ViQ Q) 0 [(0, .ref r), (1, .int p), (2, .int t), (3, .int s), (4, .int w), (5, .int x)] [] S I L
  have hnp := hT.1
  have hnc := hT.2.1
  have e142 := hT.2.2.1
  have e112 := hT.2.2.2.1
  refine Vw.aload_n (de_aload_0 (B 0 _ rfl)) 0 rfl (n := 1) rfl ?_
  refine Vw.iload_n (de_iload_1 (B 1 _ rfl)) 1 rfl (n := 2) rfl ?_
  refine Vw.ivi1 (mi' := mX12_isPerson) (de_invokevirtual (B 2 _ rfl) (B 3 _ rfl) (B 4 _ rfl)) ml_X12_132 mv_X12_isPerson hM.k (Nat.le_of_ble_eq_true rfl) (n := 5) rfl (c_X12_isPerson hM ?_)
  rw [e142]
  refine Vw.if_eq (tgt := 24) (n := 8) (de_if_eq (B 5 _ rfl) (B 6 _ rfl) (B 7 _ rfl)) rfl rfl (fun c_5 => ?_) (fun c_5 => ?_)
  · refine Vw.iconst (v := -1) (de_iconst_m1 (B 24 _ rfl)) rfl (n := 25) rfl ?_
    exact Vw.iret (de_ireturn (B 25 _ rfl)) rfl ⟨_, rfl, (qv (asksP_n (by first | exact Or.inl c_5 | exact Or.inr (Or.inl c_12) | exact Or.inr (Or.inr c_21))) (h I Fr.rfl))⟩
  refine Vw.iload_n (de_iload_2 (B 8 _ rfl)) 2 rfl (n := 9) rfl ?_
  refine Vw.isi1 (mi' := mX12_isTailor) (de_invokestatic (B 9 _ rfl) (B 10 _ rfl) (B 11 _ rfl)) ml_X12_159 ms_X12_isTailor (Nat.le_of_ble_eq_true rfl) (n := 12) rfl (c_X12_isTailor ?_)
  refine Vw.if_eq (tgt := 24) (n := 15) (de_if_eq (B 12 _ rfl) (B 13 _ rfl) (B 14 _ rfl)) rfl rfl (fun c_12 => ?_) (fun c_12 => ?_)
  · refine Vw.iconst (v := -1) (de_iconst_m1 (B 24 _ rfl)) rfl (n := 25) rfl ?_
    exact Vw.iret (de_ireturn (B 25 _ rfl)) rfl ⟨_, rfl, (qv (asksP_n (by first | exact Or.inl c_5 | exact Or.inr (Or.inl c_12) | exact Or.inr (Or.inr c_21))) (h I Fr.rfl))⟩
  refine Vw.iload_n (de_iload_3 (B 15 _ rfl)) 3 rfl (n := 16) rfl ?_
  refine Vw.iload (de_iload (B 16 _ rfl) (B 17 _ rfl)) 4 rfl (n := 18) rfl ?_
  refine Vw.isi2 (mi' := mX12_isSize) (de_invokestatic (B 18 _ rfl) (B 19 _ rfl) (B 20 _ rfl)) ml_X12_355 ms_X12_isSize (Nat.le_of_ble_eq_true rfl) (n := 21) rfl (c_X12_isSize ?_)
  refine Vw.if_ne (tgt := 26) (n := 24) (de_if_ne (B 21 _ rfl) (B 22 _ rfl) (B 23 _ rfl)) rfl rfl (fun c_21 => ?_) (fun c_21 => ?_)
  · obtain ⟨q, hq, eq⟩ := lie_ex (by omega) c_5
    subst eq
    refine Vw.aload_n (de_aload_0 (B 26 _ rfl)) 0 rfl (n := 27) rfl ?_
    refine Vw.iload_n (de_iload_1 (B 27 _ rfl)) 1 rfl (n := 28) rfl ?_
    refine Vw.ivv1 (mi' := mX12_takes) (de_invokevirtual (B 28 _ rfl) (B 29 _ rfl) (B 30 _ rfl)) ml_X12_140 mv_X12_takes hM.k (Nat.le_of_ble_eq_true rfl) (n := 31) rfl (c_X12_takes hM (by omega) (fun I2 f2 e2 => ?_))
    refine Vw.iload (de_iload (B 31 _ rfl) (B 32 _ rfl)) 5 rfl (n := 33) rfl ?_
    have hts_33 : decode mX12_asks.2.1 33 = .ok (.tableswitch 113 0 3 #[31, 48, 65, 90], 31) := by decide +kernel
    by_cases e_33_0 : x = (0 : Int32)
    · subst e_33_0
      refine Vw.tsIn (n := 64) hts_33 (by decide) (by decide) rfl rfl ?_
      refine Vw.aload_n (de_aload_0 (B 64 _ rfl)) 0 rfl (n := 65) rfl ?_
      refine Vw.iload_n (de_iload_1 (B 65 _ rfl)) 1 rfl (n := 66) rfl ?_
      refine Vw.iload_n (de_iload_2 (B 66 _ rfl)) 2 rfl (n := 67) rfl ?_
      refine Vw.iload_n (de_iload_3 (B 67 _ rfl)) 3 rfl (n := 68) rfl ?_
      refine Vw.iload (de_iload (B 68 _ rfl) (B 69 _ rfl)) 4 rfl (n := 70) rfl ?_
      refine Vw.aload_n (de_aload_0 (B 70 _ rfl)) 0 rfl (n := 71) rfl ?_
      refine Vw.getR (de_getfield (B 71 _ rfl) (B 72 _ rfl) (B 73 _ rfl)) fl_X12_24 rfl hM.k (MS_kept hM).1 (n := 74) rfl ?_
      refine Vw.bipush (v := 121) (de_bipush (B 74 _ rfl) (B 75 _ rfl)) rfl (n := 76) rfl ?_
      refine Vw.iald (de_iaload (B 76 _ rfl)) (MS_kept hM).2 (j := 121) ⟨rfl, by decide, by decide⟩ (n := 77) rfl ?_
      refine Vw.ivi5 (mi' := mX12_clothOf) (de_invokevirtual (B 77 _ rfl) (B 78 _ rfl) (B 79 _ rfl)) ml_X12_359 mv_X12_clothOf hM.k (Nat.le_of_ble_eq_true rfl) (n := 80) rfl (c_X12_clothOf hM (by rw [f2.k]; exact hW) (fun I3 f3 e3 => ?_))
      exact Vw.iret (de_ireturn (B 80 _ rfl)) rfl ⟨_, rfl, (by rw [e2, f2.k]; exact qv (asksP_y (W := W) (K := I (r + 2)) (np := np) (x := 0) (by omega) c_5 c_12 c_21) (h _ (f2.trans f3)))⟩
    by_cases e_33_1 : x = (1 : Int32)
    · subst e_33_1
      refine Vw.tsIn (n := 81) hts_33 (by decide) (by decide) rfl rfl ?_
      refine Vw.aload_n (de_aload_0 (B 81 _ rfl)) 0 rfl (n := 82) rfl ?_
      refine Vw.iload_n (de_iload_1 (B 82 _ rfl)) 1 rfl (n := 83) rfl ?_
      refine Vw.iload_n (de_iload_2 (B 83 _ rfl)) 2 rfl (n := 84) rfl ?_
      refine Vw.iload_n (de_iload_3 (B 84 _ rfl)) 3 rfl (n := 85) rfl ?_
      refine Vw.iload (de_iload (B 85 _ rfl) (B 86 _ rfl)) 4 rfl (n := 87) rfl ?_
      refine Vw.aload_n (de_aload_0 (B 87 _ rfl)) 0 rfl (n := 88) rfl ?_
      refine Vw.getR (de_getfield (B 88 _ rfl) (B 89 _ rfl) (B 90 _ rfl)) fl_X12_24 rfl hM.k (MS_kept hM).1 (n := 91) rfl ?_
      refine Vw.bipush (v := 121) (de_bipush (B 91 _ rfl) (B 92 _ rfl)) rfl (n := 93) rfl ?_
      refine Vw.iald (de_iaload (B 93 _ rfl)) (MS_kept hM).2 (j := 121) ⟨rfl, by decide, by decide⟩ (n := 94) rfl ?_
      refine Vw.ivi5 (mi' := mX12_paysOf) (de_invokevirtual (B 94 _ rfl) (B 95 _ rfl) (B 96 _ rfl)) ml_X12_348 mv_X12_paysOf hM.k (Nat.le_of_ble_eq_true rfl) (n := 97) rfl (c_X12_paysOf hM (by rw [f2.k]; exact hW) (fun I3 f3 e3 => ?_))
      exact Vw.iret (de_ireturn (B 97 _ rfl)) rfl ⟨_, rfl, (by rw [e2, f2.k]; exact qv (asksP_y (W := W) (K := I (r + 2)) (np := np) (x := 1) (by omega) c_5 c_12 c_21) (h _ (f2.trans f3)))⟩
    by_cases e_33_2 : x = (2 : Int32)
    · subst e_33_2
      refine Vw.tsIn (n := 98) hts_33 (by decide) (by decide) rfl rfl ?_
      refine Vw.aload_n (de_aload_0 (B 98 _ rfl)) 0 rfl (n := 99) rfl ?_
      refine Vw.iload_n (de_iload_1 (B 99 _ rfl)) 1 rfl (n := 100) rfl ?_
      refine Vw.iload_n (de_iload_2 (B 100 _ rfl)) 2 rfl (n := 101) rfl ?_
      refine Vw.iload_n (de_iload_3 (B 101 _ rfl)) 3 rfl (n := 102) rfl ?_
      refine Vw.iload (de_iload (B 102 _ rfl) (B 103 _ rfl)) 4 rfl (n := 104) rfl ?_
      refine Vw.aload_n (de_aload_0 (B 104 _ rfl)) 0 rfl (n := 105) rfl ?_
      refine Vw.getR (de_getfield (B 105 _ rfl) (B 106 _ rfl) (B 107 _ rfl)) fl_X12_24 rfl hM.k (MS_kept hM).1 (n := 108) rfl ?_
      refine Vw.bipush (v := 121) (de_bipush (B 108 _ rfl) (B 109 _ rfl)) rfl (n := 110) rfl ?_
      refine Vw.iald (de_iaload (B 110 _ rfl)) (MS_kept hM).2 (j := 121) ⟨rfl, by decide, by decide⟩ (n := 111) rfl ?_
      refine Vw.ivi5 (mi' := mX12_isBarred) (de_invokevirtual (B 111 _ rfl) (B 112 _ rfl) (B 113 _ rfl)) ml_X12_362 mv_X12_isBarred hM.k (Nat.le_of_ble_eq_true rfl) (n := 114) rfl (c_X12_isBarred hM (by rw [f2.k]; exact hW) (fun I3 f3 e3 => ?_))
      skip
      refine Vw.if_eq (tgt := 121) (n := 117) (de_if_eq (B 114 _ rfl) (B 115 _ rfl) (B 116 _ rfl)) rfl rfl (fun c_114 => ?_) (fun c_114 => ?_)
      · refine Vw.iconst (v := 0) (de_iconst_0 (B 121 _ rfl)) rfl (n := 122) rfl ?_
        exact Vw.iret (de_ireturn (B 122 _ rfl)) rfl ⟨_, rfl, (by rw [e2, f2.k] at c_114; have e := qv (asksP_y (W := W) (K := I (r + 2)) (np := np) (x := 2) (by omega) c_5 c_12 c_21) (h _ (f2.trans f3)); first | exact qv (v := barP W (nI q) t s w (I (r + 2) 121) (perP (I (r + 2)) q)) c_114 e | exact qv (v := barP W (nI q) t s w (I (r + 2) 121) (perP (I (r + 2)) q)) (barP_n0 c_114) e)⟩
      refine Vw.iconst (v := 1) (de_iconst_1 (B 117 _ rfl)) rfl (n := 118) rfl ?_
      refine Vw.goto_ (n := 122) (de_goto_ (B 118 _ rfl) (B 119 _ rfl) (B 120 _ rfl)) rfl ?_
      exact Vw.iret (de_ireturn (B 122 _ rfl)) rfl ⟨_, rfl, (by rw [e2, f2.k] at c_114; have e := qv (asksP_y (W := W) (K := I (r + 2)) (np := np) (x := 2) (by omega) c_5 c_12 c_21) (h _ (f2.trans f3)); first | exact qv (v := barP W (nI q) t s w (I (r + 2) 121) (perP (I (r + 2)) q)) c_114 e | exact qv (v := barP W (nI q) t s w (I (r + 2) 121) (perP (I (r + 2)) q)) (barP_n0 c_114) e)⟩
    by_cases e_33_3 : x = (3 : Int32)
    · subst e_33_3
      refine Vw.tsIn (n := 123) hts_33 (by decide) (by decide) rfl rfl ?_
      refine Vw.aload_n (de_aload_0 (B 123 _ rfl)) 0 rfl (n := 124) rfl ?_
      skip
      refine Vw.getI (de_getfield (B 124 _ rfl) (B 125 _ rfl) (B 126 _ rfl)) fl_X12_321 rfl hM.k (n := 127) rfl ?_
      refine Vw.iload_n (de_iload_3 (B 127 _ rfl)) 3 rfl (n := 128) rfl ?_
      rw [(PPe e2).2.1]
      refine Vw.icmp_gt (tgt := 144) (n := 131) (de_icmp_gt (B 128 _ rfl) (B 129 _ rfl) (B 130 _ rfl)) rfl rfl (fun c_128 => ?_) (fun c_128 => ?_)
      · refine Vw.iconst (v := 0) (de_iconst_0 (B 144 _ rfl)) rfl (n := 145) rfl ?_
        exact Vw.iret (de_ireturn (B 145 _ rfl)) rfl ⟨_, rfl, (by have e := qv (asksP_y (W := W) (K := I (r + 2)) (np := np) (x := 3) (by omega) c_5 c_12 c_21) (h _ f2); first | exact qv (v := fitP s w (perP (I (r + 2)) q)) (fitP_a c_128) e | exact qv (v := fitP s w (perP (I (r + 2)) q)) (fitP_b c_128 c_137) e | exact qv (v := fitP s w (perP (I (r + 2)) q)) (fitP_1 c_128 c_137) e)⟩
      refine Vw.aload_n (de_aload_0 (B 131 _ rfl)) 0 rfl (n := 132) rfl ?_
      refine Vw.getI (de_getfield (B 132 _ rfl) (B 133 _ rfl) (B 134 _ rfl)) fl_X12_324 rfl hM.k (n := 135) rfl ?_
      refine Vw.iload (de_iload (B 135 _ rfl) (B 136 _ rfl)) 4 rfl (n := 137) rfl ?_
      rw [(PPe e2).2.2.1]
      refine Vw.icmp_gt (tgt := 144) (n := 140) (de_icmp_gt (B 137 _ rfl) (B 138 _ rfl) (B 139 _ rfl)) rfl rfl (fun c_137 => ?_) (fun c_137 => ?_)
      · refine Vw.iconst (v := 0) (de_iconst_0 (B 144 _ rfl)) rfl (n := 145) rfl ?_
        exact Vw.iret (de_ireturn (B 145 _ rfl)) rfl ⟨_, rfl, (by have e := qv (asksP_y (W := W) (K := I (r + 2)) (np := np) (x := 3) (by omega) c_5 c_12 c_21) (h _ f2); first | exact qv (v := fitP s w (perP (I (r + 2)) q)) (fitP_a c_128) e | exact qv (v := fitP s w (perP (I (r + 2)) q)) (fitP_b c_128 c_137) e | exact qv (v := fitP s w (perP (I (r + 2)) q)) (fitP_1 c_128 c_137) e)⟩
      refine Vw.iconst (v := 1) (de_iconst_1 (B 140 _ rfl)) rfl (n := 141) rfl ?_
      refine Vw.goto_ (n := 145) (de_goto_ (B 141 _ rfl) (B 142 _ rfl) (B 143 _ rfl)) rfl ?_
      exact Vw.iret (de_ireturn (B 145 _ rfl)) rfl ⟨_, rfl, (by have e := qv (asksP_y (W := W) (K := I (r + 2)) (np := np) (x := 3) (by omega) c_5 c_12 c_21) (h _ f2); first | exact qv (v := fitP s w (perP (I (r + 2)) q)) (fitP_a c_128) e | exact qv (v := fitP s w (perP (I (r + 2)) q)) (fitP_b c_128 c_137) e | exact qv (v := fitP s w (perP (I (r + 2)) q)) (fitP_1 c_128 c_137) e)⟩
    refine Vw.tsOut (n := 146) hts_33 (by have q0 := ne_ti e_33_0 0 rfl ; have q1 := ne_ti e_33_1 1 rfl ; have q2 := ne_ti e_33_2 2 rfl ; have q3 := ne_ti e_33_3 3 rfl; omega) rfl ?_
    refine Vw.iconst (v := -1) (de_iconst_m1 (B 146 _ rfl)) rfl (n := 147) rfl ?_
    exact Vw.iret (de_ireturn (B 147 _ rfl)) rfl ⟨_, rfl, (qv ((asksP_y (W := W) (K := I (r + 2)) (np := np) (x := x) (by omega) c_5 c_12 c_21).trans (askV_o e_33_0 e_33_1 e_33_2 e_33_3)) (h _ f2))⟩
  refine Vw.iconst (v := -1) (de_iconst_m1 (B 24 _ rfl)) rfl (n := 25) rfl ?_
  exact Vw.iret (de_ireturn (B 25 _ rfl)) rfl ⟨_, rfl, (qv (asksP_n (by first | exact Or.inl c_5 | exact Or.inr (Or.inl c_12) | exact Or.inr (Or.inr c_21))) (h I Fr.rfl))⟩
def coatP (W : tW) (K : Nat → Int32) (nc : Nat) (c x : Int32) : Int32 := if zLie c 0 (nI nc - 1) = 0 then -1 else if x = 8 then (if K (32 + 8 * c.toNatClampNeg + 4) = -1 then -1 else payAt W K c.toNatClampNeg) else if zLie x 0 7 = 0 then -1 else K (32 + 8 * c.toNatClampNeg + x.toNatClampNeg)
theorem coatP_n {W : tW} {K : Nat → Int32} {nc : Nat} {c x : Int32} (h : zLie c 0 (nI nc - 1) = 0) : coatP W K nc c x = -1 := by unfold coatP; rw [if_pos h]
theorem coatP_8 {W : tW} {K : Nat → Int32} {nc i : Nat} (hi : i < 10) (h : ¬ zLie (nI i) 0 (nI nc - 1) = 0) : coatP W K nc (nI i) 8 = if K (32 + 8 * i + 4) = -1 then -1 else payAt W K i := by unfold coatP; rw [if_neg h, if_pos rfl, nI_cl (by omega)]
theorem coatP_x {W : tW} {K : Nat → Int32} {nc i j : Nat} (hi : i < 10) (hj : j ≤ 7) (h : ¬ zLie (nI i) 0 (nI nc - 1) = 0) (h8 : ¬ nI j = 8) (hx : ¬ zLie (nI j) 0 7 = 0) : coatP W K nc (nI i) (nI j) = K (32 + 8 * i + j) := by unfold coatP; rw [if_neg h, if_neg h8, if_neg hx, nI_cl (by omega), nI_cl (by omega)]
theorem coatP_o {W : tW} {K : Nat → Int32} {nc : Nat} {c x : Int32} (h8 : ¬ x = 8) (hx : zLie x 0 7 = 0) : coatP W K nc c x = -1 := by
  unfold coatP
  by_cases h : zLie c 0 (nI nc - 1) = 0
  · rw [if_pos h]
  · rw [if_neg h, if_neg h8, if_pos hx]
theorem TN.at {K : Nat → Int32} {np nc c : Nat} (h : TN K np nc) (hc : c < nc) (hw : ¬ K (32 + 8 * c + 4) = -1) : ∃ q, q < np ∧ K (32 + 8 * c + 4) = nI q := (h.2.2.2.2 c hc).2.2.resolve_left hw
theorem payAt_q {W : tW} {K : Nat → Int32} {c q : Nat} (hq : q < 8) (h : K (32 + 8 * c + 4) = nI q) : payAt W K c = payP W (nI q) (K (32 + 8 * c + 2)) (K (32 + 8 * c)) (K (32 + 8 * c + 1)) (K 121) (perP K q) := by
  unfold payAt wrN; rw [h, nI_cl (by omega)]
theorem c_X12_coat {d : Nat} {S : vS} {I : vI} {L : vL} {Q : Int32 → vS → vI → vL → Prop} {r : Nat} {c x : Int32} {np nc : Nat} {W : tW}  (hM : MS S r) (hW : WD (I (r + 2)) W) (hT : TN (I (r + 2)) np nc) (h : ∀ I2, Fr r I I2 → Q (coatP W (I (r + 2)) nc c x) S I2 L) : Vc mX12_coat (d + 45) 0 0 [.ref r, .int c, .int x] S I L (ViQ Q) := by
  refine Vc.of rfl (Nat.le_of_ble_eq_true rfl) ?_
  have B := bs_X12_coat
  show Vw mX12_coat (d + 45) 0 0 0 0 (ViQ Q) 0 [(0, .ref r), (1, .int c), (2, .int x)] [] S I L
  have hnp := hT.1
  have hnc := hT.2.1
  have e142 := hT.2.2.1
  have e112 := hT.2.2.2.1
  refine Vw.aload_n (de_aload_0 (B 0 _ rfl)) 0 rfl (n := 1) rfl ?_
  refine Vw.iload_n (de_iload_1 (B 1 _ rfl)) 1 rfl (n := 2) rfl ?_
  refine Vw.ivi1 (mi' := mX12_isCoat) (de_invokevirtual (B 2 _ rfl) (B 3 _ rfl) (B 4 _ rfl)) ml_X12_366 mv_X12_isCoat hM.k (Nat.le_of_ble_eq_true rfl) (n := 5) rfl (c_X12_isCoat hM ?_)
  rw [e112]
  refine Vw.if_ne (tgt := 10) (n := 8) (de_if_ne (B 5 _ rfl) (B 6 _ rfl) (B 7 _ rfl)) rfl rfl (fun c_5 => ?_) (fun c_5 => ?_)
  · obtain ⟨i, hi, ei⟩ := lie_ex (by omega) c_5
    subst ei
    refine Vw.iload_n (de_iload_2 (B 10 _ rfl)) 2 rfl (n := 11) rfl ?_
    refine Vw.bipush (v := 8) (de_bipush (B 11 _ rfl) (B 12 _ rfl)) rfl (n := 13) rfl ?_
    refine Vw.icmp_ne (tgt := 36) (n := 16) (de_icmp_ne (B 13 _ rfl) (B 14 _ rfl) (B 15 _ rfl)) rfl rfl (fun c_13 => ?_) (fun c_13 => ?_)
    · refine Vw.iload_n (de_iload_2 (B 36 _ rfl)) 2 rfl (n := 37) rfl ?_
      refine Vw.iconst (v := 0) (de_iconst_0 (B 37 _ rfl)) rfl (n := 38) rfl ?_
      refine Vw.bipush (v := 7) (de_bipush (B 38 _ rfl) (B 39 _ rfl)) rfl (n := 40) rfl ?_
      refine Vw.isi3 (mi' := mX12_lies) (de_invokestatic (B 40 _ rfl) (B 41 _ rfl) (B 42 _ rfl)) ml_X12_111 ms_X12_lies (Nat.le_of_ble_eq_true rfl) (n := 43) rfl (c_X12_lies ?_)
      refine Vw.if_eq (tgt := 55) (n := 46) (de_if_eq (B 43 _ rfl) (B 44 _ rfl) (B 45 _ rfl)) rfl rfl (fun c_43 => ?_) (fun c_43 => ?_)
      · refine Vw.iconst (v := -1) (de_iconst_m1 (B 55 _ rfl)) rfl (n := 56) rfl ?_
        exact Vw.iret (de_ireturn (B 56 _ rfl)) rfl ⟨_, rfl, (by first | exact qv (coatP_x (by omega) hj c_5 c_13 c_43) (h _ Fr.rfl) | exact qv (coatP_o c_13 c_43) (h _ Fr.rfl))⟩
      obtain ⟨j, hj, ej⟩ := lie_n (N := 7) (by decide) c_43
      subst ej
      refine Vw.aload_n (de_aload_0 (B 46 _ rfl)) 0 rfl (n := 47) rfl ?_
      refine Vw.iload_n (de_iload_1 (B 47 _ rfl)) 1 rfl (n := 48) rfl ?_
      refine Vw.iload_n (de_iload_2 (B 48 _ rfl)) 2 rfl (n := 49) rfl ?_
      refine Vw.ivi2 (mi' := mX12_part) (de_invokevirtual (B 49 _ rfl) (B 50 _ rfl) (B 51 _ rfl)) ml_X12_136 mv_X12_part hM.k (Nat.le_of_ble_eq_true rfl) (n := 52) rfl (c_X12_part hM (vIx_n (k := 32 + 8 * i + j) (by simp only [nI_A, nI_M, Int32.zero_add, Int32.add_zero] <;> rfl) (by omega)) ?_)
      refine Vw.goto_ (n := 56) (de_goto_ (B 52 _ rfl) (B 53 _ rfl) (B 54 _ rfl)) rfl ?_
      exact Vw.iret (de_ireturn (B 56 _ rfl)) rfl ⟨_, rfl, (by first | exact qv (coatP_x (by omega) hj c_5 c_13 c_43) (h _ Fr.rfl) | exact qv (coatP_o c_13 c_43) (h _ Fr.rfl))⟩
    refine Vw.aload_n (de_aload_0 (B 16 _ rfl)) 0 rfl (n := 17) rfl ?_
    refine Vw.iload_n (de_iload_1 (B 17 _ rfl)) 1 rfl (n := 18) rfl ?_
    refine Vw.iconst (v := 4) (de_iconst_4 (B 18 _ rfl)) rfl (n := 19) rfl ?_
    refine Vw.ivi2 (mi' := mX12_part) (de_invokevirtual (B 19 _ rfl) (B 20 _ rfl) (B 21 _ rfl)) ml_X12_136 mv_X12_part hM.k (Nat.le_of_ble_eq_true rfl) (n := 22) rfl (c_X12_part hM (vIx_n (k := 32 + 8 * i + 4) (by simp only [nI_A, nI_M, Int32.zero_add, Int32.add_zero] <;> rfl) (by omega)) ?_)
    refine Vw.iconst (v := -1) (de_iconst_m1 (B 22 _ rfl)) rfl (n := 23) rfl ?_
    refine Vw.icmp_ne (tgt := 30) (n := 26) (de_icmp_ne (B 23 _ rfl) (B 24 _ rfl) (B 25 _ rfl)) rfl rfl (fun c_23 => ?_) (fun c_23 => ?_)
    · obtain ⟨q, hq, eq⟩ := hT.at hi c_23
      refine Vw.aload_n (de_aload_0 (B 30 _ rfl)) 0 rfl (n := 31) rfl ?_
      refine Vw.iload_n (de_iload_1 (B 31 _ rfl)) 1 rfl (n := 32) rfl ?_
      refine Vw.ivi1 (mi' := mX12_paysNow) (de_invokevirtual (B 32 _ rfl) (B 33 _ rfl) (B 34 _ rfl)) ml_X12_162 mv_X12_paysNow hM.k (Nat.le_of_ble_eq_true rfl) (n := 35) rfl (c_X12_paysNow hM hW (by omega) (by omega) eq (fun I2 f2 => ?_))
      exact Vw.iret (de_ireturn (B 35 _ rfl)) rfl ⟨_, rfl, (by subst c_13; have e := fun J f => qv (coatP_8 (W := W) (by omega) c_5) (h J f); first | exact qv (if_pos c_23) (e _ Fr.rfl) | exact qv ((if_neg c_23).trans (payAt_q (by omega) eq)) (e _ f2))⟩
    refine Vw.iconst (v := -1) (de_iconst_m1 (B 26 _ rfl)) rfl (n := 27) rfl ?_
    refine Vw.goto_ (n := 35) (de_goto_ (B 27 _ rfl) (B 28 _ rfl) (B 29 _ rfl)) rfl ?_
    exact Vw.iret (de_ireturn (B 35 _ rfl)) rfl ⟨_, rfl, (by subst c_13; have e := fun J f => qv (coatP_8 (W := W) (by omega) c_5) (h J f); first | exact qv (if_pos c_23) (e _ Fr.rfl) | exact qv ((if_neg c_23).trans (payAt_q (by omega) eq)) (e _ f2))⟩
  refine Vw.iconst (v := -1) (de_iconst_m1 (B 8 _ rfl)) rfl (n := 9) rfl ?_
  exact Vw.iret (de_ireturn (B 9 _ rfl)) rfl ⟨_, rfl, (qv (coatP_n c_5) (h I Fr.rfl))⟩
def wornK (K : Nat → Int32) (p : Int32) : Nat → Int32
  | 0 => 0
  | n + 1 => wornK K p n + (if K (32 + 8 * n + 4) = p then 1 else 0)
def ofP (W : tW) (K : Nat → Int32) (np nc : Nat) (p x : Int32) : Int32 := if zLie p 0 (nI np - 1) = 0 then -1000 else
  if x = 0 then (perP K p.toNatClampNeg).1 else if x = 1 then (perP K p.toNatClampNeg).2.1 else if x = 2 then (perP K p.toNatClampNeg).2.2.1 else if x = 3 then (perP K p.toNatClampNeg).2.2.2
  else if x = 4 then growP W p (K 121) (perP K p.toNatClampNeg) else if x = 5 then widenP W p (K 121) (perP K p.toNatClampNeg) else if x = 6 then wornK K p nc else -1000
theorem ofP_n {W : tW} {K : Nat → Int32} {np nc : Nat} {p x : Int32} (h : zLie p 0 (nI np - 1) = 0) : ofP W K np nc p x = -1000 := by unfold ofP; rw [if_pos h]
theorem ofP_y {W : tW} {K : Nat → Int32} {np nc q : Nat} {x : Int32} (h8 : q < 8) (h : ¬ zLie (nI q) 0 (nI np - 1) = 0) : ofP W K np nc (nI q) x = (if x = 0 then K (4 * q) else if x = 1 then K (4 * q + 1) else if x = 2 then K (4 * q + 2) else if x = 3 then K (4 * q + 3)
  else if x = 4 then growP W (nI q) (K 121) (perP K q) else if x = 5 then widenP W (nI q) (K 121) (perP K q) else if x = 6 then wornK K (nI q) nc else -1000) := by
  unfold ofP; rw [if_neg h, nI_cl (by omega)]; rfl
theorem c_X12_of {d : Nat} {S : vS} {I : vI} {L : vL} {Q : Int32 → vS → vI → vL → Prop} {r : Nat} {p x : Int32} {np nc : Nat} {W : tW} (hM : MS S r) (hW : WD (I (r + 2)) W) (hT : TN (I (r + 2)) np nc) (h : ∀ I2, Fr r I I2 → Q (ofP W (I (r + 2)) np nc p x) S I2 L) : Vc mX12_of (d + 44) 0 0 [.ref r, .int p, .int x] S I L (ViQ Q) := by
  refine Vc.of rfl (Nat.le_of_ble_eq_true rfl) ?_
  have B := bs_X12_of
  show Vw mX12_of (d + 44) 0 0 0 0 (ViQ Q) 0 [(0, .ref r), (1, .int p), (2, .int x)] [] S I L
  have hnp := hT.1
  have hnc := hT.2.1
  have e142 := hT.2.2.1
  have e112 := hT.2.2.2.1
  have loop : ∀ q, q < np → ¬ zLie (nI q) 0 (nI np - 1) = 0 → p = nI q → ∀ c, c ≤ nc → Vw mX12_of (d + 44) 0 0 0 0 (ViQ Q) 17 [(0, .ref r), (1, .int (nI q)), (2, .int x), (3, .int (wornK (I (r + 2)) (nI q) c)), (4, .int (nI c))] [] S I L := by
    intro q hq c_5 ep
    subst ep
    refine loop_up (fun c hc ih => ?_)
    refine Vw.iload (de_iload (B 17 _ rfl) (B 18 _ rfl)) 4 rfl (n := 19) rfl ?_
    refine Vw.aload_n (de_aload_0 (B 19 _ rfl)) 0 rfl (n := 20) rfl ?_
    refine Vw.getR (de_getfield (B 20 _ rfl) (B 21 _ rfl) (B 22 _ rfl)) fl_X12_24 rfl hM.k (MS_kept hM).1 (n := 23) rfl ?_
    refine Vw.bipush (v := 112) (de_bipush (B 23 _ rfl) (B 24 _ rfl)) rfl (n := 25) rfl ?_
    refine Vw.iald (de_iaload (B 25 _ rfl)) (MS_kept hM).2 (j := 112) ⟨rfl, by decide, by decide⟩ (n := 26) rfl ?_
    rw [e112]
    refine Vw.icmp_ge (tgt := 54) (n := 29) (de_icmp_ge (B 26 _ rfl) (B 27 _ rfl) (B 28 _ rfl)) rfl rfl (fun c_26 => ?_) (fun c_26 => ?_)
    · have z_26 : nc ≤ c := ((nI_leI (a := nc) (b := c) (by omega) (by omega)).mp c_26)
      obtain rfl : c = nc := by omega
      refine Vw.aload_n (de_aload_0 (B 54 _ rfl)) 0 rfl (n := 55) rfl ?_
      refine Vw.iload_n (de_iload_1 (B 55 _ rfl)) 1 rfl (n := 56) rfl ?_
      refine Vw.ivv1 (mi' := mX12_takes) (de_invokevirtual (B 56 _ rfl) (B 57 _ rfl) (B 58 _ rfl)) ml_X12_140 mv_X12_takes hM.k (Nat.le_of_ble_eq_true rfl) (n := 59) rfl (c_X12_takes hM (by omega) (fun I2 f2 e2 => ?_))
      refine Vw.iload_n (de_iload_2 (B 59 _ rfl)) 2 rfl (n := 60) rfl ?_
      have hts_60 : decode mX12_of.2.1 60 = .ok (.tableswitch 79 0 6 #[44, 44, 44, 44, 51, 64, 77], 44) := by decide +kernel
      by_cases e_60_0 : x = (0 : Int32)
      · subst e_60_0
        refine Vw.tsIn (n := 104) hts_60 (by decide) (by decide) rfl rfl ?_
        refine Vw.aload_n (de_aload_0 (B 104 _ rfl)) 0 rfl (n := 105) rfl ?_
        refine Vw.iload_n (de_iload_1 (B 105 _ rfl)) 1 rfl (n := 106) rfl ?_
        refine Vw.iload_n (de_iload_2 (B 106 _ rfl)) 2 rfl (n := 107) rfl ?_
        refine Vw.ivi2 (mi' := mX12_fact) (de_invokevirtual (B 107 _ rfl) (B 108 _ rfl) (B 109 _ rfl)) ml_X12_144 mv_X12_fact hM.k (Nat.le_of_ble_eq_true rfl) (n := 110) rfl (c_X12_fact hM (j := 4 * q) (vIx_n (k := 4 * q) (by simp only [nI_A, nI_M, Int32.zero_add, Int32.add_zero] <;> rfl) (by omega)) ?_)
        exact Vw.iret (de_ireturn (B 110 _ rfl)) rfl ⟨_, rfl, (by rw [f2.k]; exact qv (ofP_y (W := W) (by omega) c_5) (h _ f2))⟩
      by_cases e_60_1 : x = (1 : Int32)
      · subst e_60_1
        refine Vw.tsIn (n := 104) hts_60 (by decide) (by decide) rfl rfl ?_
        refine Vw.aload_n (de_aload_0 (B 104 _ rfl)) 0 rfl (n := 105) rfl ?_
        refine Vw.iload_n (de_iload_1 (B 105 _ rfl)) 1 rfl (n := 106) rfl ?_
        refine Vw.iload_n (de_iload_2 (B 106 _ rfl)) 2 rfl (n := 107) rfl ?_
        refine Vw.ivi2 (mi' := mX12_fact) (de_invokevirtual (B 107 _ rfl) (B 108 _ rfl) (B 109 _ rfl)) ml_X12_144 mv_X12_fact hM.k (Nat.le_of_ble_eq_true rfl) (n := 110) rfl (c_X12_fact hM (j := 4 * q + 1) (vIx_n (k := 4 * q + 1) (by simp only [nI_A, nI_M, Int32.zero_add, Int32.add_zero] <;> rfl) (by omega)) ?_)
        exact Vw.iret (de_ireturn (B 110 _ rfl)) rfl ⟨_, rfl, (by rw [f2.k]; exact qv (ofP_y (W := W) (by omega) c_5) (h _ f2))⟩
      by_cases e_60_2 : x = (2 : Int32)
      · subst e_60_2
        refine Vw.tsIn (n := 104) hts_60 (by decide) (by decide) rfl rfl ?_
        refine Vw.aload_n (de_aload_0 (B 104 _ rfl)) 0 rfl (n := 105) rfl ?_
        refine Vw.iload_n (de_iload_1 (B 105 _ rfl)) 1 rfl (n := 106) rfl ?_
        refine Vw.iload_n (de_iload_2 (B 106 _ rfl)) 2 rfl (n := 107) rfl ?_
        refine Vw.ivi2 (mi' := mX12_fact) (de_invokevirtual (B 107 _ rfl) (B 108 _ rfl) (B 109 _ rfl)) ml_X12_144 mv_X12_fact hM.k (Nat.le_of_ble_eq_true rfl) (n := 110) rfl (c_X12_fact hM (j := 4 * q + 2) (vIx_n (k := 4 * q + 2) (by simp only [nI_A, nI_M, Int32.zero_add, Int32.add_zero] <;> rfl) (by omega)) ?_)
        exact Vw.iret (de_ireturn (B 110 _ rfl)) rfl ⟨_, rfl, (by rw [f2.k]; exact qv (ofP_y (W := W) (by omega) c_5) (h _ f2))⟩
      by_cases e_60_3 : x = (3 : Int32)
      · subst e_60_3
        refine Vw.tsIn (n := 104) hts_60 (by decide) (by decide) rfl rfl ?_
        refine Vw.aload_n (de_aload_0 (B 104 _ rfl)) 0 rfl (n := 105) rfl ?_
        refine Vw.iload_n (de_iload_1 (B 105 _ rfl)) 1 rfl (n := 106) rfl ?_
        refine Vw.iload_n (de_iload_2 (B 106 _ rfl)) 2 rfl (n := 107) rfl ?_
        refine Vw.ivi2 (mi' := mX12_fact) (de_invokevirtual (B 107 _ rfl) (B 108 _ rfl) (B 109 _ rfl)) ml_X12_144 mv_X12_fact hM.k (Nat.le_of_ble_eq_true rfl) (n := 110) rfl (c_X12_fact hM (j := 4 * q + 3) (vIx_n (k := 4 * q + 3) (by simp only [nI_A, nI_M, Int32.zero_add, Int32.add_zero] <;> rfl) (by omega)) ?_)
        exact Vw.iret (de_ireturn (B 110 _ rfl)) rfl ⟨_, rfl, (by rw [f2.k]; exact qv (ofP_y (W := W) (by omega) c_5) (h _ f2))⟩
      by_cases e_60_4 : x = (4 : Int32)
      · subst e_60_4
        refine Vw.tsIn (n := 111) hts_60 (by decide) (by decide) rfl rfl ?_
        refine Vw.aload_n (de_aload_0 (B 111 _ rfl)) 0 rfl (n := 112) rfl ?_
        refine Vw.iload_n (de_iload_1 (B 112 _ rfl)) 1 rfl (n := 113) rfl ?_
        refine Vw.aload_n (de_aload_0 (B 113 _ rfl)) 0 rfl (n := 114) rfl ?_
        refine Vw.getR (de_getfield (B 114 _ rfl) (B 115 _ rfl) (B 116 _ rfl)) fl_X12_24 rfl hM.k (MS_kept hM).1 (n := 117) rfl ?_
        refine Vw.bipush (v := 121) (de_bipush (B 117 _ rfl) (B 118 _ rfl)) rfl (n := 119) rfl ?_
        refine Vw.iald (de_iaload (B 119 _ rfl)) (MS_kept hM).2 (j := 121) ⟨rfl, by decide, by decide⟩ (n := 120) rfl ?_
        rw [f2.k]
        refine Vw.ivi2 (mi' := mX12_grows) (de_invokevirtual (B 120 _ rfl) (B 121 _ rfl) (B 122 _ rfl)) ml_X12_147 mv_X12_grows hM.k (Nat.le_of_ble_eq_true rfl) (n := 123) rfl (c_X12_grows (W := W) hM (by rw [f2.k]; exact hW) (fun I3 f3 e3 => ?_))
        exact Vw.iret (de_ireturn (B 123 _ rfl)) rfl ⟨_, rfl, (by rw [e2]; exact qv (ofP_y (W := W) (by omega) c_5) (h _ (f2.trans f3)))⟩
      by_cases e_60_5 : x = (5 : Int32)
      · subst e_60_5
        refine Vw.tsIn (n := 124) hts_60 (by decide) (by decide) rfl rfl ?_
        refine Vw.aload_n (de_aload_0 (B 124 _ rfl)) 0 rfl (n := 125) rfl ?_
        refine Vw.iload_n (de_iload_1 (B 125 _ rfl)) 1 rfl (n := 126) rfl ?_
        refine Vw.aload_n (de_aload_0 (B 126 _ rfl)) 0 rfl (n := 127) rfl ?_
        refine Vw.getR (de_getfield (B 127 _ rfl) (B 128 _ rfl) (B 129 _ rfl)) fl_X12_24 rfl hM.k (MS_kept hM).1 (n := 130) rfl ?_
        refine Vw.bipush (v := 121) (de_bipush (B 130 _ rfl) (B 131 _ rfl)) rfl (n := 132) rfl ?_
        refine Vw.iald (de_iaload (B 132 _ rfl)) (MS_kept hM).2 (j := 121) ⟨rfl, by decide, by decide⟩ (n := 133) rfl ?_
        rw [f2.k]
        refine Vw.ivi2 (mi' := mX12_widens) (de_invokevirtual (B 133 _ rfl) (B 134 _ rfl) (B 135 _ rfl)) ml_X12_150 mv_X12_widens hM.k (Nat.le_of_ble_eq_true rfl) (n := 136) rfl (c_X12_widens (W := W) hM (by rw [f2.k]; exact hW) (fun I3 f3 e3 => ?_))
        exact Vw.iret (de_ireturn (B 136 _ rfl)) rfl ⟨_, rfl, (by rw [e2]; exact qv (ofP_y (W := W) (by omega) c_5) (h _ (f2.trans f3)))⟩
      by_cases e_60_6 : x = (6 : Int32)
      · subst e_60_6
        refine Vw.tsIn (n := 137) hts_60 (by decide) (by decide) rfl rfl ?_
        refine Vw.iload_n (de_iload_3 (B 137 _ rfl)) 3 rfl (n := 138) rfl ?_
        exact Vw.iret (de_ireturn (B 138 _ rfl)) rfl ⟨_, rfl, (qv (ofP_y (W := W) (by omega) c_5) (h _ f2))⟩
      refine Vw.tsOut (n := 139) hts_60 (by have q0 := ne_ti e_60_0 0 rfl ; have q1 := ne_ti e_60_1 1 rfl ; have q2 := ne_ti e_60_2 2 rfl ; have q3 := ne_ti e_60_3 3 rfl ; have q4 := ne_ti e_60_4 4 rfl ; have q5 := ne_ti e_60_5 5 rfl ; have q6 := ne_ti e_60_6 6 rfl; omega) rfl ?_
      refine Vw.sipush (v := -1000) (de_sipush (B 139 _ rfl) (B 140 _ rfl) (B 141 _ rfl)) rfl (n := 142) rfl ?_
      exact Vw.iret (de_ireturn (B 142 _ rfl)) rfl ⟨_, rfl, (qv ((ofP_y (W := W) (by omega) c_5).trans (by rw [if_neg e_60_0, if_neg e_60_1, if_neg e_60_2, if_neg e_60_3, if_neg e_60_4, if_neg e_60_5, if_neg e_60_6])) (h _ f2))⟩
    have z_26 : c < nc := by rcases Nat.lt_or_ge c nc with z | z; exact z; exact absurd ((nI_leI (a := nc) (b := c) (by omega) (by omega)).mpr z) c_26
    refine Vw.iload_n (de_iload_3 (B 29 _ rfl)) 3 rfl (n := 30) rfl ?_
    refine Vw.aload_n (de_aload_0 (B 30 _ rfl)) 0 rfl (n := 31) rfl ?_
    refine Vw.iload (de_iload (B 31 _ rfl) (B 32 _ rfl)) 4 rfl (n := 33) rfl ?_
    refine Vw.iconst (v := 4) (de_iconst_4 (B 33 _ rfl)) rfl (n := 34) rfl ?_
    refine Vw.ivi2 (mi' := mX12_part) (de_invokevirtual (B 34 _ rfl) (B 35 _ rfl) (B 36 _ rfl)) ml_X12_136 mv_X12_part hM.k (Nat.le_of_ble_eq_true rfl) (n := 37) rfl (c_X12_part hM (vIx_n (k := 32 + 8 * c + 4) (by simp only [nI_A, nI_M, Int32.zero_add, Int32.add_zero] <;> rfl) (by omega)) ?_)
    refine Vw.iload_n (de_iload_1 (B 37 _ rfl)) 1 rfl (n := 38) rfl ?_
    refine Vw.icmp_ne (tgt := 45) (n := 41) (de_icmp_ne (B 38 _ rfl) (B 39 _ rfl) (B 40 _ rfl)) rfl rfl (fun c_38 => ?_) (fun c_38 => ?_)
    · refine Vw.iconst (v := 0) (de_iconst_0 (B 45 _ rfl)) rfl (n := 46) rfl ?_
      refine Vw.iadd (de_iadd (B 46 _ rfl)) (n := 47) rfl ?_
      refine Vw.istore_n (lv2 := [(0, _), (1, _), (2, _), (3, _), (4, _)]) (de_istore_3 (B 47 _ rfl)) rfl (by decide) [1, 2, 3, 0, 4] rfl (n := 48) rfl ?_
      refine Vw.iinc (v := nI (c + 1)) (lv2 := [(0, _), (1, _), (2, _), (3, _), (4, _)]) (de_iinc (B 48 _ rfl) (B 49 _ rfl) (B 50 _ rfl)) 4 rfl (nI_1 c) (by decide) [1, 2, 3, 4, 0] rfl (n := 51) rfl ?_
      refine Vw.goto_ (n := 17) (de_goto_ (B 51 _ rfl) (B 52 _ rfl) (B 53 _ rfl)) rfl ?_
      first
      | (have g := ih z_26; rw [wornK, if_neg c_38] at g; exact g)
      | (have g := ih z_26; rw [wornK, if_pos c_38] at g; exact g)
    refine Vw.iconst (v := 1) (de_iconst_1 (B 41 _ rfl)) rfl (n := 42) rfl ?_
    refine Vw.goto_ (n := 46) (de_goto_ (B 42 _ rfl) (B 43 _ rfl) (B 44 _ rfl)) rfl ?_
    refine Vw.iadd (de_iadd (B 46 _ rfl)) (n := 47) rfl ?_
    refine Vw.istore_n (lv2 := [(0, _), (1, _), (2, _), (3, _), (4, _)]) (de_istore_3 (B 47 _ rfl)) rfl (by decide) [1, 2, 3, 0, 4] rfl (n := 48) rfl ?_
    refine Vw.iinc (v := nI (c + 1)) (lv2 := [(0, _), (1, _), (2, _), (3, _), (4, _)]) (de_iinc (B 48 _ rfl) (B 49 _ rfl) (B 50 _ rfl)) 4 rfl (nI_1 c) (by decide) [1, 2, 3, 4, 0] rfl (n := 51) rfl ?_
    refine Vw.goto_ (n := 17) (de_goto_ (B 51 _ rfl) (B 52 _ rfl) (B 53 _ rfl)) rfl ?_
    first
    | (have g := ih z_26; rw [wornK, if_neg c_38] at g; exact g)
    | (have g := ih z_26; rw [wornK, if_pos c_38] at g; exact g)
  refine Vw.aload_n (de_aload_0 (B 0 _ rfl)) 0 rfl (n := 1) rfl ?_
  refine Vw.iload_n (de_iload_1 (B 1 _ rfl)) 1 rfl (n := 2) rfl ?_
  refine Vw.ivi1 (mi' := mX12_isPerson) (de_invokevirtual (B 2 _ rfl) (B 3 _ rfl) (B 4 _ rfl)) ml_X12_132 mv_X12_isPerson hM.k (Nat.le_of_ble_eq_true rfl) (n := 5) rfl (c_X12_isPerson hM ?_)
  rw [e142]
  refine Vw.if_ne (tgt := 12) (n := 8) (de_if_ne (B 5 _ rfl) (B 6 _ rfl) (B 7 _ rfl)) rfl rfl (fun c_5 => ?_) (fun c_5 => ?_)
  · obtain ⟨q, hq, eq⟩ := lie_ex (by omega) c_5
    subst eq
    refine Vw.iconst (v := 0) (de_iconst_0 (B 12 _ rfl)) rfl (n := 13) rfl ?_
    refine Vw.istore_n (lv2 := [(0, _), (1, _), (2, _), (3, _)]) (de_istore_3 (B 13 _ rfl)) rfl (by decide) [1, 2, 3, 0] rfl (n := 14) rfl ?_
    refine Vw.iconst (v := 0) (de_iconst_0 (B 14 _ rfl)) rfl (n := 15) rfl ?_
    refine Vw.istore (lv2 := [(0, _), (1, _), (2, _), (3, _), (4, _)]) (de_istore (B 15 _ rfl) (B 16 _ rfl)) (by decide) [1, 2, 3, 4, 0] rfl (n := 17) rfl ?_
    exact loop q hq c_5 rfl 0 (Nat.zero_le _)
  refine Vw.sipush (v := -1000) (de_sipush (B 8 _ rfl) (B 9 _ rfl) (B 10 _ rfl)) rfl (n := 11) rfl ?_
  exact Vw.iret (de_ireturn (B 11 _ rfl)) rfl ⟨_, rfl, (qv (ofP_n c_5) (h I Fr.rfl))⟩
def wouldK (W : tW) (K : Nat → Int32) (t : Int32) : Nat → Int32
  | 0 => 0
  | c + 1 => wouldK W K t c + (if K (32 + 8 * c + 4) = -1 then 0 else shareT t (K (32 + 8 * c + 2)) (K (32 + 8 * c + 3)) (payAt W K c))
def tailorP (W : tW) (K : Nat → Int32) (nc : Nat) (t x : Int32) : Int32 := if zLie t 0 3 = 0 ∨ zLie x 0 2 = 0 then -1 else if x = 0 then K (113 + 2 * t.toNatClampNeg) else if x = 1 then K (113 + 2 * t.toNatClampNeg + 1) else wouldK W K t nc
theorem tailorP_n {W : tW} {K : Nat → Int32} {nc : Nat} {t x : Int32} (h : zLie t 0 3 = 0 ∨ zLie x 0 2 = 0) : tailorP W K nc t x = -1 := by unfold tailorP; rw [if_pos h]
theorem tailorP_x {W : tW} {K : Nat → Int32} {nc i j : Nat} (hi : i ≤ 3) (hj : j < 2) (h1 : ¬ zLie (nI i) 0 3 = 0) (h2 : ¬ zLie (nI j) 0 2 = 0) : tailorP W K nc (nI i) (nI j) = K (113 + 2 * i + j) := by
  unfold tailorP; rw [if_neg (fun z => z.elim h1 h2), nI_cl (by omega)]
  have h : j = 0 ∨ j = 1 := by omega
  rcases h with rfl | rfl <;> rfl
theorem tailorP_2 {W : tW} {K : Nat → Int32} {nc i : Nat} {x : Int32} (h1 : ¬ zLie (nI i) 0 3 = 0) (h2 : ¬ zLie x 0 2 = 0) (h3 : 2 ≤ x) : tailorP W K nc (nI i) x = wouldK W K (nI i) nc := by
  unfold tailorP; rw [if_neg (fun z => z.elim h1 h2), if_neg (fun z => by rw [z] at h3; exact absurd h3 (by decide)), if_neg (fun z => by rw [z] at h3; exact absurd h3 (by decide))]
theorem c_X12_tailor {d : Nat} {S : vS} {I : vI} {L : vL} {Q : Int32 → vS → vI → vL → Prop} {r : Nat} {t x : Int32} {np nc : Nat} {W : tW} (hM : MS S r) (hW : WD (I (r + 2)) W) (hT : TN (I (r + 2)) np nc) (h : ∀ I2, Fr r I I2 → Q (tailorP W (I (r + 2)) nc t x) S I2 L) : Vc mX12_tailor (d + 45) 0 0 [.ref r, .int t, .int x] S I L (ViQ Q) := by
  refine Vc.of rfl (Nat.le_of_ble_eq_true rfl) ?_
  have B := bs_X12_tailor
  show Vw mX12_tailor (d + 45) 0 0 0 0 (ViQ Q) 0 [(0, .ref r), (1, .int t), (2, .int x)] [] S I L
  have hnp := hT.1
  have hnc := hT.2.1
  have e142 := hT.2.2.1
  have e112 := hT.2.2.2.1
  have loop : (∀ I2, Fr r I I2 → Q (wouldK W (I (r + 2)) t nc) S I2 L) → ∀ c, c ≤ nc → ∀ J, Fr r I J → Vw mX12_tailor (d + 45) 0 0 0 0 (ViQ Q) 42 [(0, .ref r), (1, .int t), (2, .int x), (3, .int (wouldK W (I (r + 2)) t c)), (4, .int (nI c))] [] S J L := by
    intro fin
    refine loop_up (fun c hc ih => ?_)
    intro J fJ
    have kJ := fJ.k
    refine Vw.iload (de_iload (B 42 _ rfl) (B 43 _ rfl)) 4 rfl (n := 44) rfl ?_
    refine Vw.aload_n (de_aload_0 (B 44 _ rfl)) 0 rfl (n := 45) rfl ?_
    refine Vw.getR (de_getfield (B 45 _ rfl) (B 46 _ rfl) (B 47 _ rfl)) fl_X12_24 rfl hM.k (MS_kept hM).1 (n := 48) rfl ?_
    refine Vw.bipush (v := 112) (de_bipush (B 48 _ rfl) (B 49 _ rfl)) rfl (n := 50) rfl ?_
    refine Vw.iald (de_iaload (B 50 _ rfl)) (MS_kept hM).2 (j := 112) ⟨rfl, by decide, by decide⟩ (n := 51) rfl ?_
    rw [kJ, e112]
    refine Vw.icmp_ge (tgt := 91) (n := 54) (de_icmp_ge (B 51 _ rfl) (B 52 _ rfl) (B 53 _ rfl)) rfl rfl (fun c_51 => ?_) (fun c_51 => ?_)
    · have z_51 : nc ≤ c := ((nI_leI (a := nc) (b := c) (by omega) (by omega)).mp c_51)
      obtain rfl : c = nc := by omega
      refine Vw.iload_n (de_iload_3 (B 91 _ rfl)) 3 rfl (n := 92) rfl ?_
      exact Vw.iret (de_ireturn (B 92 _ rfl)) rfl ⟨_, rfl, (fin J fJ)⟩
    have z_51 : c < nc := by rcases Nat.lt_or_ge c nc with z | z; exact z; exact absurd ((nI_leI (a := nc) (b := c) (by omega) (by omega)).mpr z) c_51
    refine Vw.iload_n (de_iload_3 (B 54 _ rfl)) 3 rfl (n := 55) rfl ?_
    refine Vw.aload_n (de_aload_0 (B 55 _ rfl)) 0 rfl (n := 56) rfl ?_
    refine Vw.iload (de_iload (B 56 _ rfl) (B 57 _ rfl)) 4 rfl (n := 58) rfl ?_
    refine Vw.iconst (v := 4) (de_iconst_4 (B 58 _ rfl)) rfl (n := 59) rfl ?_
    refine Vw.ivi2 (mi' := mX12_part) (de_invokevirtual (B 59 _ rfl) (B 60 _ rfl) (B 61 _ rfl)) ml_X12_136 mv_X12_part hM.k (Nat.le_of_ble_eq_true rfl) (n := 62) rfl (c_X12_part hM (vIx_n (k := 32 + 8 * c + 4) (by simp only [nI_A, nI_M, Int32.zero_add, Int32.add_zero] <;> rfl) (by omega)) ?_)
    rw [kJ]
    refine Vw.iconst (v := -1) (de_iconst_m1 (B 62 _ rfl)) rfl (n := 63) rfl ?_
    refine Vw.icmp_ne (tgt := 70) (n := 66) (de_icmp_ne (B 63 _ rfl) (B 64 _ rfl) (B 65 _ rfl)) rfl rfl (fun c_63 => ?_) (fun c_63 => ?_)
    · obtain ⟨q, hq, eq⟩ := hT.at z_51 c_63
      refine Vw.aload_n (de_aload_0 (B 70 _ rfl)) 0 rfl (n := 71) rfl ?_
      refine Vw.iload_n (de_iload_1 (B 71 _ rfl)) 1 rfl (n := 72) rfl ?_
      refine Vw.iload (de_iload (B 72 _ rfl) (B 73 _ rfl)) 4 rfl (n := 74) rfl ?_
      refine Vw.aload_n (de_aload_0 (B 74 _ rfl)) 0 rfl (n := 75) rfl ?_
      refine Vw.iload (de_iload (B 75 _ rfl) (B 76 _ rfl)) 4 rfl (n := 77) rfl ?_
      refine Vw.ivi1 (mi' := mX12_paysNow) (de_invokevirtual (B 77 _ rfl) (B 78 _ rfl) (B 79 _ rfl)) ml_X12_162 mv_X12_paysNow hM.k (Nat.le_of_ble_eq_true rfl) (n := 80) rfl (c_X12_paysNow (W := W) (q := q) hM (by rw [kJ]; exact hW) (by omega) (by omega) (by rw [kJ]; exact eq) (fun I3 f3 => ?_))
      refine Vw.ivi3 (mi' := mX12_shareOf) (de_invokevirtual (B 80 _ rfl) (B 81 _ rfl) (B 82 _ rfl)) ml_X12_165 mv_X12_shareOf hM.k (Nat.le_of_ble_eq_true rfl) (n := 83) rfl (c_X12_shareOf hM (by omega) ?_)
      refine Vw.iadd (de_iadd (B 83 _ rfl)) (n := 84) rfl ?_
      refine Vw.istore_n (lv2 := [(0, _), (1, _), (2, _), (3, _), (4, _)]) (de_istore_3 (B 84 _ rfl)) rfl (by decide) [1, 2, 3, 0, 4] rfl (n := 85) rfl ?_
      refine Vw.iinc (v := nI (c + 1)) (lv2 := [(0, _), (1, _), (2, _), (3, _), (4, _)]) (de_iinc (B 85 _ rfl) (B 86 _ rfl) (B 87 _ rfl)) 4 rfl (nI_1 c) (by decide) [1, 2, 3, 4, 0] rfl (n := 88) rfl ?_
      refine Vw.goto_ (n := 42) (de_goto_ (B 88 _ rfl) (B 89 _ rfl) (B 90 _ rfl)) rfl ?_
      first
      | (have g := ih z_51 J fJ; rw [wouldK, if_pos c_63] at g; exact g)
      | (have g := ih z_51 I3 (fJ.trans f3); rw [wouldK, if_neg c_63, payAt_q (by omega) eq] at g; rw [f3.k, kJ]; exact g)
    refine Vw.iconst (v := 0) (de_iconst_0 (B 66 _ rfl)) rfl (n := 67) rfl ?_
    refine Vw.goto_ (n := 83) (de_goto_ (B 67 _ rfl) (B 68 _ rfl) (B 69 _ rfl)) rfl ?_
    refine Vw.iadd (de_iadd (B 83 _ rfl)) (n := 84) rfl ?_
    refine Vw.istore_n (lv2 := [(0, _), (1, _), (2, _), (3, _), (4, _)]) (de_istore_3 (B 84 _ rfl)) rfl (by decide) [1, 2, 3, 0, 4] rfl (n := 85) rfl ?_
    refine Vw.iinc (v := nI (c + 1)) (lv2 := [(0, _), (1, _), (2, _), (3, _), (4, _)]) (de_iinc (B 85 _ rfl) (B 86 _ rfl) (B 87 _ rfl)) 4 rfl (nI_1 c) (by decide) [1, 2, 3, 4, 0] rfl (n := 88) rfl ?_
    refine Vw.goto_ (n := 42) (de_goto_ (B 88 _ rfl) (B 89 _ rfl) (B 90 _ rfl)) rfl ?_
    first
    | (have g := ih z_51 J fJ; rw [wouldK, if_pos c_63] at g; exact g)
    | (have g := ih z_51 I3 (fJ.trans f3); rw [wouldK, if_neg c_63, payAt_q (by omega) eq] at g; rw [f3.k, kJ]; exact g)
  refine Vw.iload_n (de_iload_1 (B 0 _ rfl)) 1 rfl (n := 1) rfl ?_
  refine Vw.isi1 (mi' := mX12_isTailor) (de_invokestatic (B 1 _ rfl) (B 2 _ rfl) (B 3 _ rfl)) ml_X12_159 ms_X12_isTailor (Nat.le_of_ble_eq_true rfl) (n := 4) rfl (c_X12_isTailor ?_)
  refine Vw.if_eq (tgt := 16) (n := 7) (de_if_eq (B 4 _ rfl) (B 5 _ rfl) (B 6 _ rfl)) rfl rfl (fun c_4 => ?_) (fun c_4 => ?_)
  · refine Vw.iconst (v := -1) (de_iconst_m1 (B 16 _ rfl)) rfl (n := 17) rfl ?_
    exact Vw.iret (de_ireturn (B 17 _ rfl)) rfl ⟨_, rfl, (qv (tailorP_n (by first | exact Or.inl c_4 | exact Or.inr c_13)) (h I Fr.rfl))⟩
  refine Vw.iload_n (de_iload_2 (B 7 _ rfl)) 2 rfl (n := 8) rfl ?_
  refine Vw.iconst (v := 0) (de_iconst_0 (B 8 _ rfl)) rfl (n := 9) rfl ?_
  refine Vw.iconst (v := 2) (de_iconst_2 (B 9 _ rfl)) rfl (n := 10) rfl ?_
  refine Vw.isi3 (mi' := mX12_lies) (de_invokestatic (B 10 _ rfl) (B 11 _ rfl) (B 12 _ rfl)) ml_X12_111 ms_X12_lies (Nat.le_of_ble_eq_true rfl) (n := 13) rfl (c_X12_lies ?_)
  refine Vw.if_ne (tgt := 18) (n := 16) (de_if_ne (B 13 _ rfl) (B 14 _ rfl) (B 15 _ rfl)) rfl rfl (fun c_13 => ?_) (fun c_13 => ?_)
  · obtain ⟨i, hi, ei⟩ := lie_n (N := 3) (by decide) c_4
    subst ei
    refine Vw.iload_n (de_iload_2 (B 18 _ rfl)) 2 rfl (n := 19) rfl ?_
    refine Vw.iconst (v := 2) (de_iconst_2 (B 19 _ rfl)) rfl (n := 20) rfl ?_
    refine Vw.icmp_ge (tgt := 37) (n := 23) (de_icmp_ge (B 20 _ rfl) (B 21 _ rfl) (B 22 _ rfl)) rfl rfl (fun c_20 => ?_) (fun c_20 => ?_)
    · refine Vw.iconst (v := 0) (de_iconst_0 (B 37 _ rfl)) rfl (n := 38) rfl ?_
      refine Vw.istore_n (lv2 := [(0, _), (1, _), (2, _), (3, _)]) (de_istore_3 (B 38 _ rfl)) rfl (by decide) [1, 2, 3, 0] rfl (n := 39) rfl ?_
      refine Vw.iconst (v := 0) (de_iconst_0 (B 39 _ rfl)) rfl (n := 40) rfl ?_
      refine Vw.istore (lv2 := [(0, _), (1, _), (2, _), (3, _), (4, _)]) (de_istore (B 40 _ rfl) (B 41 _ rfl)) (by decide) [1, 2, 3, 4, 0] rfl (n := 42) rfl ?_
      exact loop (fun J fJ => qv (tailorP_2 c_4 c_13 c_20) (h J fJ)) 0 (Nat.zero_le _) I Fr.rfl
    obtain ⟨j, hj, ej⟩ := lie_n (N := 2) (by decide) c_13
    subst ej
    have hj2 : j < 2 := by rcases Nat.lt_or_ge j 2 with z | z; exact z; exact absurd ((nI_leI (a := 2) (b := j) (by omega) (by omega)).mpr z) c_20
    refine Vw.aload_n (de_aload_0 (B 23 _ rfl)) 0 rfl (n := 24) rfl ?_
    refine Vw.getR (de_getfield (B 24 _ rfl) (B 25 _ rfl) (B 26 _ rfl)) fl_X12_24 rfl hM.k (MS_kept hM).1 (n := 27) rfl ?_
    refine Vw.bipush (v := 113) (de_bipush (B 27 _ rfl) (B 28 _ rfl)) rfl (n := 29) rfl ?_
    refine Vw.iconst (v := 2) (de_iconst_2 (B 29 _ rfl)) rfl (n := 30) rfl ?_
    refine Vw.iload_n (de_iload_1 (B 30 _ rfl)) 1 rfl (n := 31) rfl ?_
    refine Vw.imul (de_imul (B 31 _ rfl)) (n := 32) rfl ?_
    refine Vw.iadd (de_iadd (B 32 _ rfl)) (n := 33) rfl ?_
    refine Vw.iload_n (de_iload_2 (B 33 _ rfl)) 2 rfl (n := 34) rfl ?_
    refine Vw.iadd (de_iadd (B 34 _ rfl)) (n := 35) rfl ?_
    refine Vw.iald (de_iaload (B 35 _ rfl)) (MS_kept hM).2 (vIx_n (k := 113 + 2 * i + j) (by simp only [nI_A, nI_M, Int32.zero_add, Int32.add_zero] <;> rfl) (by omega)) (n := 36) rfl ?_
    exact Vw.iret (de_ireturn (B 36 _ rfl)) rfl ⟨_, rfl, (qv (tailorP_x hi hj2 c_4 c_13) (h I Fr.rfl))⟩
  refine Vw.iconst (v := -1) (de_iconst_m1 (B 16 _ rfl)) rfl (n := 17) rfl ?_
  exact Vw.iret (de_ireturn (B 17 _ rfl)) rfl ⟨_, rfl, (qv (tailorP_n (by first | exact Or.inl c_4 | exact Or.inr c_13)) (h I Fr.rfl))⟩
def willP (W : tW) (K : Nat → Int32) (np : Nat) (p n x : Int32) : Int32 := if zLie p 0 (nI np - 1) = 0 ∨ zLie n 0 80 = 0 ∨ zLie x 0 2 = 0 then -1 else
  if x = 0 then (walkP W p (K 121) (perP K p.toNatClampNeg) n.toNatClampNeg).1 else if x = 1 then (walkP W p (K 121) (perP K p.toNatClampNeg) n.toNatClampNeg).2.1 else (walkP W p (K 121) (perP K p.toNatClampNeg) n.toNatClampNeg).2.2.1
theorem willP_n {W : tW} {K : Nat → Int32} {np : Nat} {p n x : Int32} (h : zLie p 0 (nI np - 1) = 0 ∨ zLie n 0 80 = 0 ∨ zLie x 0 2 = 0) : willP W K np p n x = -1 := by unfold willP; rw [if_pos h]
theorem willP_y {W : tW} {K : Nat → Int32} {np q m : Nat} {x : Int32} (hq : q < 8) (hm : m ≤ 80) (h1 : ¬ zLie (nI q) 0 (nI np - 1) = 0) (h2 : ¬ zLie (nI m) 0 80 = 0) (h3 : ¬ zLie x 0 2 = 0) : willP W K np (nI q) (nI m) x = if x = 0 then (walkP W (nI q) (K 121) (perP K q) m).1 else if x = 1 then (walkP W (nI q) (K 121) (perP K q) m).2.1 else (walkP W (nI q) (K 121) (perP K q) m).2.2.1 := by
  unfold willP; rw [if_neg (fun z => z.elim h1 (fun z => z.elim h2 h3)), nI_cl (by omega), nI_cl (by omega)]
theorem c_X12_will {d : Nat} {S : vS} {I : vI} {L : vL} {Q : Int32 → vS → vI → vL → Prop} {r : Nat} {p n x : Int32} {np nc : Nat} {W : tW} (hM : MS S r) (hW : WD (I (r + 2)) W) (hT : TN (I (r + 2)) np nc) (h : ∀ I2, Fr r I I2 → Q (willP W (I (r + 2)) np p n x) S I2 L) : Vc mX12_will (d + 45) 0 0 [.ref r, .int p, .int n, .int x] S I L (ViQ Q) := by
  refine Vc.of rfl (Nat.le_of_ble_eq_true rfl) ?_
  have B := bs_X12_will
  show Vw mX12_will (d + 45) 0 0 0 0 (ViQ Q) 0 [(0, .ref r), (1, .int p), (2, .int n), (3, .int x)] [] S I L
  have hnp := hT.1
  have hnc := hT.2.1
  have e142 := hT.2.2.1
  have e112 := hT.2.2.2.1
  have loop : ∀ q m, q < np → m ≤ 80 → (∀ I2, Fr r I I2 → Q (if x = 0 then (walkP W (nI q) (I (r + 2) 121) (perP (I (r + 2)) q) m).1 else if x = 1 then (walkP W (nI q) (I (r + 2) 121) (perP (I (r + 2)) q) m).2.1 else (walkP W (nI q) (I (r + 2) 121) (perP (I (r + 2)) q) m).2.2.1) S I2 L) → ∀ k, k ≤ m → ∀ J, Fr r I J → PP J r = walkP W (nI q) (I (r + 2) 121) (perP (I (r + 2)) q) k → Vw mX12_will (d + 45) 0 0 0 0 (ViQ Q) 37 [(0, .ref r), (1, .int (nI q)), (2, .int (nI m)), (3, .int x), (4, .int (nI k))] [] S J L := by
    intro q m hq hm fin
    refine loop_up (fun k hk ih => ?_)
    intro J fJ eJ
    have kJ := fJ.k
    refine Vw.iload (de_iload (B 37 _ rfl) (B 38 _ rfl)) 4 rfl (n := 39) rfl ?_
    refine Vw.iload_n (de_iload_2 (B 39 _ rfl)) 2 rfl (n := 40) rfl ?_
    refine Vw.icmp_ge (tgt := 64) (n := 43) (de_icmp_ge (B 40 _ rfl) (B 41 _ rfl) (B 42 _ rfl)) rfl rfl (fun c_40 => ?_) (fun c_40 => ?_)
    · have z_40 : m ≤ k := ((nI_leI (a := m) (b := k) (by omega) (by omega)).mp c_40)
      obtain rfl : k = m := by omega
      have fJ2 := fin J fJ
      refine Vw.iload_n (de_iload_3 (B 64 _ rfl)) 3 rfl (n := 65) rfl ?_
      refine Vw.if_ne (tgt := 75) (n := 68) (de_if_ne (B 65 _ rfl) (B 66 _ rfl) (B 67 _ rfl)) rfl rfl (fun c_65 => ?_) (fun c_65 => ?_)
      · refine Vw.iload_n (de_iload_3 (B 75 _ rfl)) 3 rfl (n := 76) rfl ?_
        refine Vw.iconst (v := 1) (de_iconst_1 (B 76 _ rfl)) rfl (n := 77) rfl ?_
        refine Vw.icmp_ne (tgt := 87) (n := 80) (de_icmp_ne (B 77 _ rfl) (B 78 _ rfl) (B 79 _ rfl)) rfl rfl (fun c_77 => ?_) (fun c_77 => ?_)
        · refine Vw.aload_n (de_aload_0 (B 87 _ rfl)) 0 rfl (n := 88) rfl ?_
          refine Vw.getI (de_getfield (B 88 _ rfl) (B 89 _ rfl) (B 90 _ rfl)) fl_X12_324 rfl hM.k (n := 91) rfl ?_
          skip
          exact Vw.iret (de_ireturn (B 91 _ rfl)) rfl ⟨_, rfl, (by first | exact qv (if_pos c_65) fJ2 | exact qv ((if_neg c_65).trans (if_pos c_77)) fJ2 | exact qv ((if_neg c_65).trans ((if_neg c_77).trans (PPe eJ).2.2.1.symm)) fJ2)⟩
        refine Vw.aload_n (de_aload_0 (B 80 _ rfl)) 0 rfl (n := 81) rfl ?_
        refine Vw.getI (de_getfield (B 81 _ rfl) (B 82 _ rfl) (B 83 _ rfl)) fl_X12_321 rfl hM.k (n := 84) rfl ?_
        rw [(PPe eJ).2.1]
        refine Vw.goto_ (n := 91) (de_goto_ (B 84 _ rfl) (B 85 _ rfl) (B 86 _ rfl)) rfl ?_
        skip
        exact Vw.iret (de_ireturn (B 91 _ rfl)) rfl ⟨_, rfl, (by first | exact qv (if_pos c_65) fJ2 | exact qv ((if_neg c_65).trans (if_pos c_77)) fJ2 | exact qv ((if_neg c_65).trans ((if_neg c_77).trans (PPe eJ).2.2.1.symm)) fJ2)⟩
      refine Vw.aload_n (de_aload_0 (B 68 _ rfl)) 0 rfl (n := 69) rfl ?_
      refine Vw.getI (de_getfield (B 69 _ rfl) (B 70 _ rfl) (B 71 _ rfl)) fl_X12_318 rfl hM.k (n := 72) rfl ?_
      rw [(PPe eJ).1]
      refine Vw.goto_ (n := 91) (de_goto_ (B 72 _ rfl) (B 73 _ rfl) (B 74 _ rfl)) rfl ?_
      skip
      exact Vw.iret (de_ireturn (B 91 _ rfl)) rfl ⟨_, rfl, (by first | exact qv (if_pos c_65) fJ2 | exact qv ((if_neg c_65).trans (if_pos c_77)) fJ2 | exact qv ((if_neg c_65).trans ((if_neg c_77).trans (PPe eJ).2.2.1.symm)) fJ2)⟩
    have z_40 : k < m := by rcases Nat.lt_or_ge k m with z | z; exact z; exact absurd ((nI_leI (a := m) (b := k) (by omega) (by omega)).mpr z) c_40
    refine Vw.aload_n (de_aload_0 (B 43 _ rfl)) 0 rfl (n := 44) rfl ?_
    refine Vw.iload_n (de_iload_1 (B 44 _ rfl)) 1 rfl (n := 45) rfl ?_
    refine Vw.aload_n (de_aload_0 (B 45 _ rfl)) 0 rfl (n := 46) rfl ?_
    refine Vw.getR (de_getfield (B 46 _ rfl) (B 47 _ rfl) (B 48 _ rfl)) fl_X12_24 rfl hM.k (MS_kept hM).1 (n := 49) rfl ?_
    refine Vw.bipush (v := 121) (de_bipush (B 49 _ rfl) (B 50 _ rfl)) rfl (n := 51) rfl ?_
    refine Vw.iald (de_iaload (B 51 _ rfl)) (MS_kept hM).2 (j := 121) ⟨rfl, by decide, by decide⟩ (n := 52) rfl ?_
    rw [kJ]
    refine Vw.iload (de_iload (B 52 _ rfl) (B 53 _ rfl)) 4 rfl (n := 54) rfl ?_
    refine Vw.iadd (de_iadd (B 54 _ rfl)) (n := 55) rfl ?_
    refine Vw.ivv2 (mi' := mX12_goesOn) (de_invokevirtual (B 55 _ rfl) (B 56 _ rfl) (B 57 _ rfl)) ml_X12_375 mv_X12_goesOn hM.k (Nat.le_of_ble_eq_true rfl) (n := 58) rfl (c_X12_goesOn (W := W) hM (by rw [kJ]; exact hW) (fun I3 f3 e3 => ?_))
    refine Vw.iinc (v := nI (k + 1)) (lv2 := [(0, _), (1, _), (2, _), (3, _), (4, _)]) (de_iinc (B 58 _ rfl) (B 59 _ rfl) (B 60 _ rfl)) 4 rfl (nI_1 k) (by decide) [1, 2, 3, 4, 0] rfl (n := 61) rfl ?_
    refine Vw.goto_ (n := 37) (de_goto_ (B 61 _ rfl) (B 62 _ rfl) (B 63 _ rfl)) rfl ?_
    exact ih z_40 I3 (fJ.trans f3) (by rw [e3, eJ, walkP])
  refine Vw.aload_n (de_aload_0 (B 0 _ rfl)) 0 rfl (n := 1) rfl ?_
  refine Vw.iload_n (de_iload_1 (B 1 _ rfl)) 1 rfl (n := 2) rfl ?_
  refine Vw.ivi1 (mi' := mX12_isPerson) (de_invokevirtual (B 2 _ rfl) (B 3 _ rfl) (B 4 _ rfl)) ml_X12_132 mv_X12_isPerson hM.k (Nat.le_of_ble_eq_true rfl) (n := 5) rfl (c_X12_isPerson hM ?_)
  rw [e142]
  refine Vw.if_eq (tgt := 27) (n := 8) (de_if_eq (B 5 _ rfl) (B 6 _ rfl) (B 7 _ rfl)) rfl rfl (fun c_5 => ?_) (fun c_5 => ?_)
  · refine Vw.iconst (v := -1) (de_iconst_m1 (B 27 _ rfl)) rfl (n := 28) rfl ?_
    exact Vw.iret (de_ireturn (B 28 _ rfl)) rfl ⟨_, rfl, (qv (willP_n (by first | exact Or.inl c_5 | exact Or.inr (Or.inl c_15) | exact Or.inr (Or.inr c_24))) (h I Fr.rfl))⟩
  refine Vw.iload_n (de_iload_2 (B 8 _ rfl)) 2 rfl (n := 9) rfl ?_
  refine Vw.iconst (v := 0) (de_iconst_0 (B 9 _ rfl)) rfl (n := 10) rfl ?_
  refine Vw.bipush (v := 80) (de_bipush (B 10 _ rfl) (B 11 _ rfl)) rfl (n := 12) rfl ?_
  refine Vw.isi3 (mi' := mX12_lies) (de_invokestatic (B 12 _ rfl) (B 13 _ rfl) (B 14 _ rfl)) ml_X12_111 ms_X12_lies (Nat.le_of_ble_eq_true rfl) (n := 15) rfl (c_X12_lies ?_)
  refine Vw.if_eq (tgt := 27) (n := 18) (de_if_eq (B 15 _ rfl) (B 16 _ rfl) (B 17 _ rfl)) rfl rfl (fun c_15 => ?_) (fun c_15 => ?_)
  · refine Vw.iconst (v := -1) (de_iconst_m1 (B 27 _ rfl)) rfl (n := 28) rfl ?_
    exact Vw.iret (de_ireturn (B 28 _ rfl)) rfl ⟨_, rfl, (qv (willP_n (by first | exact Or.inl c_5 | exact Or.inr (Or.inl c_15) | exact Or.inr (Or.inr c_24))) (h I Fr.rfl))⟩
  refine Vw.iload_n (de_iload_3 (B 18 _ rfl)) 3 rfl (n := 19) rfl ?_
  refine Vw.iconst (v := 0) (de_iconst_0 (B 19 _ rfl)) rfl (n := 20) rfl ?_
  refine Vw.iconst (v := 2) (de_iconst_2 (B 20 _ rfl)) rfl (n := 21) rfl ?_
  refine Vw.isi3 (mi' := mX12_lies) (de_invokestatic (B 21 _ rfl) (B 22 _ rfl) (B 23 _ rfl)) ml_X12_111 ms_X12_lies (Nat.le_of_ble_eq_true rfl) (n := 24) rfl (c_X12_lies ?_)
  refine Vw.if_ne (tgt := 29) (n := 27) (de_if_ne (B 24 _ rfl) (B 25 _ rfl) (B 26 _ rfl)) rfl rfl (fun c_24 => ?_) (fun c_24 => ?_)
  · obtain ⟨q, hq, eq⟩ := lie_ex (by omega) c_5
    subst eq
    obtain ⟨m, hm, em⟩ := lie_n (N := 80) (by decide) c_15
    subst em
    refine Vw.aload_n (de_aload_0 (B 29 _ rfl)) 0 rfl (n := 30) rfl ?_
    refine Vw.iload_n (de_iload_1 (B 30 _ rfl)) 1 rfl (n := 31) rfl ?_
    refine Vw.ivv1 (mi' := mX12_takes) (de_invokevirtual (B 31 _ rfl) (B 32 _ rfl) (B 33 _ rfl)) ml_X12_140 mv_X12_takes hM.k (Nat.le_of_ble_eq_true rfl) (n := 34) rfl (c_X12_takes hM (by omega) (fun I2 f2 e2 => ?_))
    refine Vw.iconst (v := 0) (de_iconst_0 (B 34 _ rfl)) rfl (n := 35) rfl ?_
    refine Vw.istore (lv2 := [(0, _), (1, _), (2, _), (3, _), (4, _)]) (de_istore (B 35 _ rfl) (B 36 _ rfl)) (by decide) [1, 2, 3, 4, 0] rfl (n := 37) rfl ?_
    exact loop q m hq hm (fun J fJ => qv (willP_y (by omega) hm c_5 c_15 c_24) (h J fJ)) 0 (Nat.zero_le _) I2 f2 e2
  refine Vw.iconst (v := -1) (de_iconst_m1 (B 27 _ rfl)) rfl (n := 28) rfl ?_
  exact Vw.iret (de_ireturn (B 28 _ rfl)) rfl ⟨_, rfl, (qv (willP_n (by first | exact Or.inl c_5 | exact Or.inr (Or.inl c_15) | exact Or.inr (Or.inr c_24))) (h I Fr.rfl))⟩
/-- the first end from k on, of m, at which a coat is too small -/
def dueP (f : Nat → tP) (a b : Int32) : Nat → Nat → Int32
  | 0, _ => -1
  | m + 1, k => if a < (f k).2.1 ∨ b < (f k).2.2.1 then nI k else dueP f a b m (k + 1)
theorem c_X12_dueIn {d : Nat} {S : vS} {I : vI} {L : vL} {Q : Int32 → vS → vI → vL → Prop} {r : Nat} {a b : Int32} {q n : Nat} {W : tW} (hM : MS S r) (hW : WD (I (r + 2)) W) (hq : q < 8) (hn : n ≤ 80) (h1 : ∀ k I2, 1 ≤ k → k ≤ n → Fr r I I2 → dueP (walkP W (nI q) (I (r + 2) 121) (perP (I (r + 2)) q)) a b n 1 = nI k → PP I2 r = walkP W (nI q) (I (r + 2) 121) (perP (I (r + 2)) q) k → Q (nI k) S I2 L) (h2 : ∀ I2, Fr r I I2 → dueP (walkP W (nI q) (I (r + 2) 121) (perP (I (r + 2)) q)) a b n 1 = -1 → Q (-1) S I2 L) : Vc mX12_dueIn (d + 45) 0 0 [.ref r, .int (nI q), .int a, .int b, .int (nI n)] S I L (ViQ Q) := by
  refine Vc.of rfl (Nat.le_of_ble_eq_true rfl) ?_
  have B := bs_X12_dueIn
  show Vw mX12_dueIn (d + 45) 0 0 0 0 (ViQ Q) 0 [(0, .ref r), (1, .int (nI q)), (2, .int a), (3, .int b), (4, .int (nI n))] [] S I L
  have loop : ∀ k, k ≤ n → ∀ J, Fr r I J → PP J r = walkP W (nI q) (I (r + 2) 121) (perP (I (r + 2)) q) k → dueP (walkP W (nI q) (I (r + 2) 121) (perP (I (r + 2)) q)) a b n 1 = dueP (walkP W (nI q) (I (r + 2) 121) (perP (I (r + 2)) q)) a b (n - k) (k + 1) → Vw mX12_dueIn (d + 45) 0 0 0 0 (ViQ Q) 8 [(0, .ref r), (1, .int (nI q)), (2, .int a), (3, .int b), (4, .int (nI n)), (5, .int (nI (k + 1)))] [] S J L := by
    refine loop_up (fun k hk ih => ?_)
    intro J fJ eJ eD
    have kJ := fJ.k
    refine Vw.iload (de_iload (B 8 _ rfl) (B 9 _ rfl)) 5 rfl (n := 10) rfl ?_
    refine Vw.iload (de_iload (B 10 _ rfl) (B 11 _ rfl)) 4 rfl (n := 12) rfl ?_
    refine Vw.icmp_gt (tgt := 57) (n := 15) (de_icmp_gt (B 12 _ rfl) (B 13 _ rfl) (B 14 _ rfl)) rfl rfl (fun c_12 => ?_) (fun c_12 => ?_)
    · have z_12 : ¬ k + 1 ≤ n := fun z => absurd c_12 (Int32.not_lt.mpr ((nI_leI (a := k + 1) (b := n) (by omega) (by omega)).mpr z))
      obtain rfl : k = n := by omega
      rw [Nat.sub_self, dueP] at eD
      refine Vw.iconst (v := -1) (de_iconst_m1 (B 57 _ rfl)) rfl (n := 58) rfl ?_
      exact Vw.iret (de_ireturn (B 58 _ rfl)) rfl ⟨_, rfl, (h2 J fJ eD)⟩
    have z_12 : k < n := (nI_leI (a := k + 1) (b := n) (by omega) (by omega)).mp (Int32.not_lt.mp c_12)
    rw [show n - k = (n - (k + 1)) + 1 by omega, dueP] at eD
    refine Vw.aload_n (de_aload_0 (B 15 _ rfl)) 0 rfl (n := 16) rfl ?_
    refine Vw.iload_n (de_iload_1 (B 16 _ rfl)) 1 rfl (n := 17) rfl ?_
    refine Vw.aload_n (de_aload_0 (B 17 _ rfl)) 0 rfl (n := 18) rfl ?_
    refine Vw.getR (de_getfield (B 18 _ rfl) (B 19 _ rfl) (B 20 _ rfl)) fl_X12_24 rfl hM.k (MS_kept hM).1 (n := 21) rfl ?_
    refine Vw.bipush (v := 121) (de_bipush (B 21 _ rfl) (B 22 _ rfl)) rfl (n := 23) rfl ?_
    refine Vw.iald (de_iaload (B 23 _ rfl)) (MS_kept hM).2 (j := 121) ⟨rfl, by decide, by decide⟩ (n := 24) rfl ?_
    rw [kJ]
    refine Vw.iload (de_iload (B 24 _ rfl) (B 25 _ rfl)) 5 rfl (n := 26) rfl ?_
    refine Vw.iadd (de_iadd (B 26 _ rfl)) (n := 27) rfl ?_
    refine Vw.iconst (v := 1) (de_iconst_1 (B 27 _ rfl)) rfl (n := 28) rfl ?_
    refine Vw.isub (de_isub (B 28 _ rfl)) (n := 29) rfl ?_
    rw [nw_m1]
    refine Vw.ivv2 (mi' := mX12_goesOn) (de_invokevirtual (B 29 _ rfl) (B 30 _ rfl) (B 31 _ rfl)) ml_X12_375 mv_X12_goesOn hM.k (Nat.le_of_ble_eq_true rfl) (n := 32) rfl (c_X12_goesOn (W := W) hM (by rw [kJ]; exact hW) (fun I3 f3 e3 => ?_))
    have e3b : PP I3 r = walkP W (nI q) (I (r + 2) 121) (perP (I (r + 2)) q) (k + 1) := by rw [e3, eJ, walkP]
    refine Vw.aload_n (de_aload_0 (B 32 _ rfl)) 0 rfl (n := 33) rfl ?_
    refine Vw.getI (de_getfield (B 33 _ rfl) (B 34 _ rfl) (B 35 _ rfl)) fl_X12_321 rfl hM.k (n := 36) rfl ?_
    rw [(PPe e3b).2.1]
    refine Vw.iload_n (de_iload_2 (B 36 _ rfl)) 2 rfl (n := 37) rfl ?_
    refine Vw.icmp_gt (tgt := 48) (n := 40) (de_icmp_gt (B 37 _ rfl) (B 38 _ rfl) (B 39 _ rfl)) rfl rfl (fun c_37 => ?_) (fun c_37 => ?_)
    · refine Vw.iload (de_iload (B 48 _ rfl) (B 49 _ rfl)) 5 rfl (n := 50) rfl ?_
      exact Vw.iret (de_ireturn (B 50 _ rfl)) rfl ⟨_, rfl, (h1 (k + 1) I3 (by omega) z_12 (fJ.trans f3) (by rw [eD, if_pos (by first | exact Or.inl c_37 | exact Or.inr (Int32.not_le.mp c_45))]) e3b)⟩
    refine Vw.aload_n (de_aload_0 (B 40 _ rfl)) 0 rfl (n := 41) rfl ?_
    refine Vw.getI (de_getfield (B 41 _ rfl) (B 42 _ rfl) (B 43 _ rfl)) fl_X12_324 rfl hM.k (n := 44) rfl ?_
    rw [(PPe e3b).2.2.1]
    refine Vw.iload_n (de_iload_3 (B 44 _ rfl)) 3 rfl (n := 45) rfl ?_
    refine Vw.icmp_le (tgt := 51) (n := 48) (de_icmp_le (B 45 _ rfl) (B 46 _ rfl) (B 47 _ rfl)) rfl rfl (fun c_45 => ?_) (fun c_45 => ?_)
    · refine Vw.iinc (v := nI (k + 1 + 1)) (lv2 := [(0, _), (1, _), (2, _), (3, _), (4, _), (5, _)]) (de_iinc (B 51 _ rfl) (B 52 _ rfl) (B 53 _ rfl)) 5 rfl (nI_1 (k + 1)) (by decide) [1, 2, 3, 4, 5, 0] rfl (n := 54) rfl ?_
      refine Vw.goto_ (n := 8) (de_goto_ (B 54 _ rfl) (B 55 _ rfl) (B 56 _ rfl)) rfl ?_
      exact ih z_12 I3 (fJ.trans f3) e3b (by rw [eD, if_neg (fun z => z.elim c_37 (Int32.not_lt.mpr c_45))])
    refine Vw.iload (de_iload (B 48 _ rfl) (B 49 _ rfl)) 5 rfl (n := 50) rfl ?_
    exact Vw.iret (de_ireturn (B 50 _ rfl)) rfl ⟨_, rfl, (h1 (k + 1) I3 (by omega) z_12 (fJ.trans f3) (by rw [eD, if_pos (by first | exact Or.inl c_37 | exact Or.inr (Int32.not_le.mp c_45))]) e3b)⟩
  refine Vw.aload_n (de_aload_0 (B 0 _ rfl)) 0 rfl (n := 1) rfl ?_
  refine Vw.iload_n (de_iload_1 (B 1 _ rfl)) 1 rfl (n := 2) rfl ?_
  refine Vw.ivv1 (mi' := mX12_takes) (de_invokevirtual (B 2 _ rfl) (B 3 _ rfl) (B 4 _ rfl)) ml_X12_140 mv_X12_takes hM.k (Nat.le_of_ble_eq_true rfl) (n := 5) rfl (c_X12_takes hM hq (fun I2 f2 e2 => ?_))
  refine Vw.iconst (v := 1) (de_iconst_1 (B 5 _ rfl)) rfl (n := 6) rfl ?_
  refine Vw.istore (lv2 := [(0, _), (1, _), (2, _), (3, _), (4, _), (5, _)]) (de_istore (B 6 _ rfl) (B 7 _ rfl)) (by decide) [1, 2, 3, 4, 5, 0] rfl (n := 8) rfl ?_
  exact loop 0 (Nat.zero_le _) I2 f2 e2 rfl
def dueK (W : tW) (K : Nat → Int32) (c n : Nat) : Int32 := dueP (walkP W (K (32 + 8 * c + 4)) (K 121) (perP K (wrN K c))) (K (32 + 8 * c)) (K (32 + 8 * c + 1)) n 1
def dueC (W : tW) (K : Nat → Int32) (nc : Nat) (c : Int32) : Int32 := if zLie c 0 (nI nc - 1) = 0 ∨ K (32 + 8 * c.toNatClampNeg + 4) = -1 then -1 else dueK W K c.toNatClampNeg 80
theorem dueC_n {W : tW} {K : Nat → Int32} {nc : Nat} {c : Int32} (h : zLie c 0 (nI nc - 1) = 0 ∨ K (32 + 8 * c.toNatClampNeg + 4) = -1) : dueC W K nc c = -1 := by unfold dueC; rw [if_pos h]
theorem dueC_y {W : tW} {K : Nat → Int32} {nc i q : Nat} (hi : i < 10) (hq : q < 8) (h1 : ¬ zLie (nI i) 0 (nI nc - 1) = 0) (h2 : ¬ K (32 + 8 * i + 4) = -1) (h3 : K (32 + 8 * i + 4) = nI q) : dueC W K nc (nI i) = dueP (walkP W (nI q) (K 121) (perP K q)) (K (32 + 8 * i)) (K (32 + 8 * i + 1)) 80 1 := by
  unfold dueC; rw [nI_cl (by omega), if_neg (fun z => z.elim h1 h2)]; unfold dueK wrN; rw [h3, nI_cl (by omega)]
theorem c_X12_due {d : Nat} {S : vS} {I : vI} {L : vL} {Q : Int32 → vS → vI → vL → Prop} {r : Nat} {c : Int32} {np nc : Nat} {W : tW}  (hM : MS S r) (hW : WD (I (r + 2)) W) (hT : TN (I (r + 2)) np nc) (h : ∀ I2, Fr r I I2 → Q (dueC W (I (r + 2)) nc c) S I2 L) : Vc mX12_due (d + 46) 0 0 [.ref r, .int c] S I L (ViQ Q) := by
  refine Vc.of rfl (Nat.le_of_ble_eq_true rfl) ?_
  have B := bs_X12_due
  show Vw mX12_due (d + 46) 0 0 0 0 (ViQ Q) 0 [(0, .ref r), (1, .int c)] [] S I L
  have hnp := hT.1
  have hnc := hT.2.1
  have e142 := hT.2.2.1
  have e112 := hT.2.2.2.1
  refine Vw.aload_n (de_aload_0 (B 0 _ rfl)) 0 rfl (n := 1) rfl ?_
  refine Vw.iload_n (de_iload_1 (B 1 _ rfl)) 1 rfl (n := 2) rfl ?_
  refine Vw.ivi1 (mi' := mX12_isCoat) (de_invokevirtual (B 2 _ rfl) (B 3 _ rfl) (B 4 _ rfl)) ml_X12_366 mv_X12_isCoat hM.k (Nat.le_of_ble_eq_true rfl) (n := 5) rfl (c_X12_isCoat hM ?_)
  rw [e112]
  refine Vw.if_eq (tgt := 18) (n := 8) (de_if_eq (B 5 _ rfl) (B 6 _ rfl) (B 7 _ rfl)) rfl rfl (fun c_5 => ?_) (fun c_5 => ?_)
  · refine Vw.iconst (v := -1) (de_iconst_m1 (B 18 _ rfl)) rfl (n := 19) rfl ?_
    refine Vw.goto_ (n := 46) (de_goto_ (B 19 _ rfl) (B 20 _ rfl) (B 21 _ rfl)) rfl ?_
    exact Vw.iret (de_ireturn (B 46 _ rfl)) rfl ⟨_, rfl, (qv (dueC_n (by first | exact Or.inl c_5 | (rw [nI_cl (by omega)]; exact Or.inr c_15))) (h I Fr.rfl))⟩
  obtain ⟨i, hi, ei⟩ := lie_ex (by omega) c_5
  subst ei
  refine Vw.aload_n (de_aload_0 (B 8 _ rfl)) 0 rfl (n := 9) rfl ?_
  refine Vw.iload_n (de_iload_1 (B 9 _ rfl)) 1 rfl (n := 10) rfl ?_
  refine Vw.iconst (v := 4) (de_iconst_4 (B 10 _ rfl)) rfl (n := 11) rfl ?_
  refine Vw.ivi2 (mi' := mX12_part) (de_invokevirtual (B 11 _ rfl) (B 12 _ rfl) (B 13 _ rfl)) ml_X12_136 mv_X12_part hM.k (Nat.le_of_ble_eq_true rfl) (n := 14) rfl (c_X12_part hM (vIx_n (k := 32 + 8 * i + 4) (by simp only [nI_A, nI_M, Int32.zero_add, Int32.add_zero] <;> rfl) (by omega)) ?_)
  refine Vw.iconst (v := -1) (de_iconst_m1 (B 14 _ rfl)) rfl (n := 15) rfl ?_
  refine Vw.icmp_ne (tgt := 22) (n := 18) (de_icmp_ne (B 15 _ rfl) (B 16 _ rfl) (B 17 _ rfl)) rfl rfl (fun c_15 => ?_) (fun c_15 => ?_)
  · obtain ⟨q, hq, eq⟩ := hT.at hi c_15
    have eD := dueC_y (W := W) (by omega) (by omega) c_5 c_15 eq
    refine Vw.aload_n (de_aload_0 (B 22 _ rfl)) 0 rfl (n := 23) rfl ?_
    refine Vw.aload_n (de_aload_0 (B 23 _ rfl)) 0 rfl (n := 24) rfl ?_
    refine Vw.iload_n (de_iload_1 (B 24 _ rfl)) 1 rfl (n := 25) rfl ?_
    refine Vw.iconst (v := 4) (de_iconst_4 (B 25 _ rfl)) rfl (n := 26) rfl ?_
    refine Vw.ivi2 (mi' := mX12_part) (de_invokevirtual (B 26 _ rfl) (B 27 _ rfl) (B 28 _ rfl)) ml_X12_136 mv_X12_part hM.k (Nat.le_of_ble_eq_true rfl) (n := 29) rfl (c_X12_part hM (vIx_n (k := 32 + 8 * i + 4) (by simp only [nI_A, nI_M, Int32.zero_add, Int32.add_zero] <;> rfl) (by omega)) ?_)
    rw [eq]
    refine Vw.aload_n (de_aload_0 (B 29 _ rfl)) 0 rfl (n := 30) rfl ?_
    refine Vw.iload_n (de_iload_1 (B 30 _ rfl)) 1 rfl (n := 31) rfl ?_
    refine Vw.iconst (v := 0) (de_iconst_0 (B 31 _ rfl)) rfl (n := 32) rfl ?_
    refine Vw.ivi2 (mi' := mX12_part) (de_invokevirtual (B 32 _ rfl) (B 33 _ rfl) (B 34 _ rfl)) ml_X12_136 mv_X12_part hM.k (Nat.le_of_ble_eq_true rfl) (n := 35) rfl (c_X12_part hM (vIx_n (k := 32 + 8 * i) (by simp only [nI_A, nI_M, Int32.zero_add, Int32.add_zero] <;> rfl) (by omega)) ?_)
    refine Vw.aload_n (de_aload_0 (B 35 _ rfl)) 0 rfl (n := 36) rfl ?_
    refine Vw.iload_n (de_iload_1 (B 36 _ rfl)) 1 rfl (n := 37) rfl ?_
    refine Vw.iconst (v := 1) (de_iconst_1 (B 37 _ rfl)) rfl (n := 38) rfl ?_
    refine Vw.ivi2 (mi' := mX12_part) (de_invokevirtual (B 38 _ rfl) (B 39 _ rfl) (B 40 _ rfl)) ml_X12_136 mv_X12_part hM.k (Nat.le_of_ble_eq_true rfl) (n := 41) rfl (c_X12_part hM (vIx_n (k := 32 + 8 * i + 1) (by simp only [nI_A, nI_M, Int32.zero_add, Int32.add_zero] <;> rfl) (by omega)) ?_)
    refine Vw.bipush (v := 80) (de_bipush (B 41 _ rfl) (B 42 _ rfl)) rfl (n := 43) rfl ?_
    rw [show (80 : Int32) = nI 80 from rfl]
    refine Vw.ivi4 (mi' := mX12_dueIn) (de_invokevirtual (B 43 _ rfl) (B 44 _ rfl) (B 45 _ rfl)) ml_X12_403 mv_X12_dueIn hM.k (Nat.le_of_ble_eq_true rfl) (n := 46) rfl (c_X12_dueIn hM hW (by omega) (Nat.le_refl 80) (fun k I2 h1 h2 f2 e2 p2 => ?_) (fun I2 f2 e2 => ?_))
    · exact Vw.iret (de_ireturn (B 46 _ rfl)) rfl ⟨_, rfl, (qv (eD.trans e2) (h _ f2))⟩
    · exact Vw.iret (de_ireturn (B 46 _ rfl)) rfl ⟨_, rfl, (qv (eD.trans e2) (h _ f2))⟩
  refine Vw.iconst (v := -1) (de_iconst_m1 (B 18 _ rfl)) rfl (n := 19) rfl ?_
  refine Vw.goto_ (n := 46) (de_goto_ (B 19 _ rfl) (B 20 _ rfl) (B 21 _ rfl)) rfl ?_
  exact Vw.iret (de_ireturn (B 46 _ rfl)) rfl ⟨_, rfl, (qv (dueC_n (by first | exact Or.inl c_5 | (rw [nI_cl (by omega)]; exact Or.inr c_15))) (h I Fr.rfl))⟩
def fallK (W : tW) (K : Nat → Int32) (t : Int32) (n : Nat) : Nat → Int32
  | 0 => 0
  | c + 1 => if K (32 + 8 * c + 4) = -1 then fallK W K t n c else fallK W K t n c + (if dueK W K c n = -1 then 0 else shareT t (K (32 + 8 * c + 2)) (K (32 + 8 * c + 3)) (payP W (K (32 + 8 * c + 4)) (K (32 + 8 * c + 2)) (K (32 + 8 * c)) (K (32 + 8 * c + 1)) (K 121 + dueK W K c n) (walkP W (K (32 + 8 * c + 4)) (K 121) (perP K (wrN K c)) (dueK W K c n).toNatClampNeg)))
def fallsP (W : tW) (K : Nat → Int32) (nc : Nat) (t n : Int32) : Int32 := if zLie t 0 3 = 0 ∨ zLie n 0 80 = 0 then -1 else fallK W K t n.toNatClampNeg nc
theorem dueK_q {W : tW} {K : Nat → Int32} {c q n : Nat} (hq : q < 8) (h : K (32 + 8 * c + 4) = nI q) : dueK W K c n = dueP (walkP W (nI q) (K 121) (perP K q)) (K (32 + 8 * c)) (K (32 + 8 * c + 1)) n 1 := by
  unfold dueK wrN; rw [h, nI_cl (by omega)]
theorem c_X12_falls {d : Nat} {S : vS} {I : vI} {L : vL} {Q : Int32 → vS → vI → vL → Prop} {r : Nat} {t x : Int32} {np nc : Nat} {W : tW} (hM : MS S r) (hW : WD (I (r + 2)) W) (hT : TN (I (r + 2)) np nc) (h : ∀ I2, Fr r I I2 → Q (fallsP W (I (r + 2)) nc t x) S I2 L) : Vc mX12_falls (d + 46) 0 0 [.ref r, .int t, .int x] S I L (ViQ Q) := by
  refine Vc.of rfl (Nat.le_of_ble_eq_true rfl) ?_
  have B := bs_X12_falls
  show Vw mX12_falls (d + 46) 0 0 0 0 (ViQ Q) 0 [(0, .ref r), (1, .int t), (2, .int x)] [] S I L
  have hnp := hT.1
  have hnc := hT.2.1
  have e142 := hT.2.2.1
  have e112 := hT.2.2.2.1
  have loop : ∀ n, n ≤ 80 → (∀ I2, Fr r I I2 → Q (fallK W (I (r + 2)) t n nc) S I2 L) → ∀ c, c ≤ nc → ∀ J, Fr r I J → Vw mX12_falls (d + 46) 0 0 0 0 (ViQ Q) 24 [(0, .ref r), (1, .int t), (2, .int (nI n)), (3, .int (fallK W (I (r + 2)) t n c)), (4, .int (nI c))] [] S J L := by
    intro n hn fin
    refine loop_up (fun c hc ih => ?_)
    intro J fJ
    have kJ := fJ.k
    refine Vw.iload (de_iload (B 24 _ rfl) (B 25 _ rfl)) 4 rfl (n := 26) rfl ?_
    refine Vw.aload_n (de_aload_0 (B 26 _ rfl)) 0 rfl (n := 27) rfl ?_
    refine Vw.getR (de_getfield (B 27 _ rfl) (B 28 _ rfl) (B 29 _ rfl)) fl_X12_24 rfl hM.k (MS_kept hM).1 (n := 30) rfl ?_
    refine Vw.bipush (v := 112) (de_bipush (B 30 _ rfl) (B 31 _ rfl)) rfl (n := 32) rfl ?_
    refine Vw.iald (de_iaload (B 32 _ rfl)) (MS_kept hM).2 (j := 112) ⟨rfl, by decide, by decide⟩ (n := 33) rfl ?_
    rw [kJ, e112]
    refine Vw.icmp_ge (tgt := 140) (n := 36) (de_icmp_ge (B 33 _ rfl) (B 34 _ rfl) (B 35 _ rfl)) rfl rfl (fun c_33 => ?_) (fun c_33 => ?_)
    · have z_33 : nc ≤ c := ((nI_leI (a := nc) (b := c) (by omega) (by omega)).mp c_33)
      obtain rfl : c = nc := by omega
      refine Vw.iload_n (de_iload_3 (B 140 _ rfl)) 3 rfl (n := 141) rfl ?_
      exact Vw.iret (de_ireturn (B 141 _ rfl)) rfl ⟨_, rfl, (fin J fJ)⟩
    have z_33 : c < nc := by rcases Nat.lt_or_ge c nc with z | z; exact z; exact absurd ((nI_leI (a := nc) (b := c) (by omega) (by omega)).mpr z) c_33
    refine Vw.aload_n (de_aload_0 (B 36 _ rfl)) 0 rfl (n := 37) rfl ?_
    refine Vw.iload (de_iload (B 37 _ rfl) (B 38 _ rfl)) 4 rfl (n := 39) rfl ?_
    refine Vw.iconst (v := 4) (de_iconst_4 (B 39 _ rfl)) rfl (n := 40) rfl ?_
    refine Vw.ivi2 (mi' := mX12_part) (de_invokevirtual (B 40 _ rfl) (B 41 _ rfl) (B 42 _ rfl)) ml_X12_136 mv_X12_part hM.k (Nat.le_of_ble_eq_true rfl) (n := 43) rfl (c_X12_part hM (vIx_n (k := 32 + 8 * c + 4) (by simp only [nI_A, nI_M, Int32.zero_add, Int32.add_zero] <;> rfl) (by omega)) ?_)
    rw [kJ]
    refine Vw.istore (lv2 := [(0, _), (1, _), (2, _), (3, _), (4, _), (5, _)]) (de_istore (B 43 _ rfl) (B 44 _ rfl)) (by decide) [1, 2, 3, 4, 5, 0] rfl (n := 45) rfl ?_
    refine Vw.iload (de_iload (B 45 _ rfl) (B 46 _ rfl)) 5 rfl (n := 47) rfl ?_
    refine Vw.iconst (v := -1) (de_iconst_m1 (B 47 _ rfl)) rfl (n := 48) rfl ?_
    refine Vw.icmp_ne (tgt := 54) (n := 51) (de_icmp_ne (B 48 _ rfl) (B 49 _ rfl) (B 50 _ rfl)) rfl rfl (fun c_48 => ?_) (fun c_48 => ?_)
    · obtain ⟨q, hq, eq⟩ := hT.at z_33 c_48
      have eD := dueK_q (W := W) (n := n) (by omega) eq
      rw [eq]
      refine Vw.aload_n (de_aload_0 (B 54 _ rfl)) 0 rfl (n := 55) rfl ?_
      refine Vw.iload (de_iload (B 55 _ rfl) (B 56 _ rfl)) 5 rfl (n := 57) rfl ?_
      refine Vw.aload_n (de_aload_0 (B 57 _ rfl)) 0 rfl (n := 58) rfl ?_
      refine Vw.iload (de_iload (B 58 _ rfl) (B 59 _ rfl)) 4 rfl (n := 60) rfl ?_
      refine Vw.iconst (v := 0) (de_iconst_0 (B 60 _ rfl)) rfl (n := 61) rfl ?_
      refine Vw.ivi2 (mi' := mX12_part) (de_invokevirtual (B 61 _ rfl) (B 62 _ rfl) (B 63 _ rfl)) ml_X12_136 mv_X12_part hM.k (Nat.le_of_ble_eq_true rfl) (n := 64) rfl (c_X12_part hM (vIx_n (k := 32 + 8 * c) (by simp only [nI_A, nI_M, Int32.zero_add, Int32.add_zero] <;> rfl) (by omega)) ?_)
      refine Vw.aload_n (de_aload_0 (B 64 _ rfl)) 0 rfl (n := 65) rfl ?_
      refine Vw.iload (de_iload (B 65 _ rfl) (B 66 _ rfl)) 4 rfl (n := 67) rfl ?_
      refine Vw.iconst (v := 1) (de_iconst_1 (B 67 _ rfl)) rfl (n := 68) rfl ?_
      refine Vw.ivi2 (mi' := mX12_part) (de_invokevirtual (B 68 _ rfl) (B 69 _ rfl) (B 70 _ rfl)) ml_X12_136 mv_X12_part hM.k (Nat.le_of_ble_eq_true rfl) (n := 71) rfl (c_X12_part hM (vIx_n (k := 32 + 8 * c + 1) (by simp only [nI_A, nI_M, Int32.zero_add, Int32.add_zero] <;> rfl) (by omega)) ?_)
      rw [kJ]
      refine Vw.iload_n (de_iload_2 (B 71 _ rfl)) 2 rfl (n := 72) rfl ?_
      refine Vw.ivi4 (mi' := mX12_dueIn) (de_invokevirtual (B 72 _ rfl) (B 73 _ rfl) (B 74 _ rfl)) ml_X12_403 mv_X12_dueIn hM.k (Nat.le_of_ble_eq_true rfl) (n := 75) rfl (c_X12_dueIn (W := W) hM (by rw [kJ]; exact hW) (by omega) hn (fun k I2 h1 h2 f2 e2 p2 => ?_) (fun I2 f2 e2 => ?_))
      · rw [kJ] at e2 p2
        refine Vw.istore (lv2 := [(0, _), (1, _), (2, _), (3, _), (4, _), (5, _), (6, _)]) (de_istore (B 75 _ rfl) (B 76 _ rfl)) (by decide) [1, 2, 3, 4, 5, 6, 0] rfl (n := 77) rfl ?_
        refine Vw.iload_n (de_iload_3 (B 77 _ rfl)) 3 rfl (n := 78) rfl ?_
        refine Vw.iload (de_iload (B 78 _ rfl) (B 79 _ rfl)) 6 rfl (n := 80) rfl ?_
        refine Vw.iconst (v := -1) (de_iconst_m1 (B 80 _ rfl)) rfl (n := 81) rfl ?_
        refine Vw.icmp_ne (tgt := 88) (n := 84) (de_icmp_ne (B 81 _ rfl) (B 82 _ rfl) (B 83 _ rfl)) rfl rfl (fun c_81 => ?_) (fun c_81 => ?_)
        · refine Vw.aload_n (de_aload_0 (B 88 _ rfl)) 0 rfl (n := 89) rfl ?_
          refine Vw.iload_n (de_iload_1 (B 89 _ rfl)) 1 rfl (n := 90) rfl ?_
          refine Vw.iload (de_iload (B 90 _ rfl) (B 91 _ rfl)) 4 rfl (n := 92) rfl ?_
          refine Vw.aload_n (de_aload_0 (B 92 _ rfl)) 0 rfl (n := 93) rfl ?_
          refine Vw.iload (de_iload (B 93 _ rfl) (B 94 _ rfl)) 5 rfl (n := 95) rfl ?_
          refine Vw.aload_n (de_aload_0 (B 95 _ rfl)) 0 rfl (n := 96) rfl ?_
          refine Vw.iload (de_iload (B 96 _ rfl) (B 97 _ rfl)) 4 rfl (n := 98) rfl ?_
          refine Vw.iconst (v := 2) (de_iconst_2 (B 98 _ rfl)) rfl (n := 99) rfl ?_
          refine Vw.ivi2 (mi' := mX12_part) (de_invokevirtual (B 99 _ rfl) (B 100 _ rfl) (B 101 _ rfl)) ml_X12_136 mv_X12_part hM.k (Nat.le_of_ble_eq_true rfl) (n := 102) rfl (c_X12_part hM (vIx_n (k := 32 + 8 * c + 2) (by simp only [nI_A, nI_M, Int32.zero_add, Int32.add_zero] <;> rfl) (by omega)) ?_)
          refine Vw.aload_n (de_aload_0 (B 102 _ rfl)) 0 rfl (n := 103) rfl ?_
          refine Vw.iload (de_iload (B 103 _ rfl) (B 104 _ rfl)) 4 rfl (n := 105) rfl ?_
          refine Vw.iconst (v := 0) (de_iconst_0 (B 105 _ rfl)) rfl (n := 106) rfl ?_
          refine Vw.ivi2 (mi' := mX12_part) (de_invokevirtual (B 106 _ rfl) (B 107 _ rfl) (B 108 _ rfl)) ml_X12_136 mv_X12_part hM.k (Nat.le_of_ble_eq_true rfl) (n := 109) rfl (c_X12_part hM (vIx_n (k := 32 + 8 * c) (by simp only [nI_A, nI_M, Int32.zero_add, Int32.add_zero] <;> rfl) (by omega)) ?_)
          refine Vw.aload_n (de_aload_0 (B 109 _ rfl)) 0 rfl (n := 110) rfl ?_
          refine Vw.iload (de_iload (B 110 _ rfl) (B 111 _ rfl)) 4 rfl (n := 112) rfl ?_
          refine Vw.iconst (v := 1) (de_iconst_1 (B 112 _ rfl)) rfl (n := 113) rfl ?_
          refine Vw.ivi2 (mi' := mX12_part) (de_invokevirtual (B 113 _ rfl) (B 114 _ rfl) (B 115 _ rfl)) ml_X12_136 mv_X12_part hM.k (Nat.le_of_ble_eq_true rfl) (n := 116) rfl (c_X12_part hM (vIx_n (k := 32 + 8 * c + 1) (by simp only [nI_A, nI_M, Int32.zero_add, Int32.add_zero] <;> rfl) (by omega)) ?_)
          refine Vw.aload_n (de_aload_0 (B 116 _ rfl)) 0 rfl (n := 117) rfl ?_
          refine Vw.getR (de_getfield (B 117 _ rfl) (B 118 _ rfl) (B 119 _ rfl)) fl_X12_24 rfl hM.k (MS_kept hM).1 (n := 120) rfl ?_
          refine Vw.bipush (v := 121) (de_bipush (B 120 _ rfl) (B 121 _ rfl)) rfl (n := 122) rfl ?_
          refine Vw.iald (de_iaload (B 122 _ rfl)) (MS_kept hM).2 (j := 121) ⟨rfl, by decide, by decide⟩ (n := 123) rfl ?_
          rw [f2.k, kJ]
          refine Vw.iload (de_iload (B 123 _ rfl) (B 124 _ rfl)) 6 rfl (n := 125) rfl ?_
          refine Vw.iadd (de_iadd (B 125 _ rfl)) (n := 126) rfl ?_
          refine Vw.ivi5 (mi' := mX12_paysOf) (de_invokevirtual (B 126 _ rfl) (B 127 _ rfl) (B 128 _ rfl)) ml_X12_348 mv_X12_paysOf hM.k (Nat.le_of_ble_eq_true rfl) (n := 129) rfl (c_X12_paysOf (W := W) hM (by rw [f2.k, kJ]; exact hW) (fun I3 f3 e3 => ?_))
          refine Vw.ivi3 (mi' := mX12_shareOf) (de_invokevirtual (B 129 _ rfl) (B 130 _ rfl) (B 131 _ rfl)) ml_X12_165 mv_X12_shareOf hM.k (Nat.le_of_ble_eq_true rfl) (n := 132) rfl (c_X12_shareOf hM (by omega) ?_)
          refine Vw.iadd (de_iadd (B 132 _ rfl)) (n := 133) rfl ?_
          refine Vw.istore_n (lv2 := [(0, _), (1, _), (2, _), (3, _), (4, _), (5, _), (6, _)]) (de_istore_3 (B 133 _ rfl)) rfl (by decide) [1, 2, 3, 0, 4, 5, 6] rfl (n := 134) rfl ?_
          refine Vw.iinc (v := nI (c + 1)) (lv2 := [(0, _), (1, _), (2, _), (3, _), (4, _), (5, _), (6, _)]) (de_iinc (B 134 _ rfl) (B 135 _ rfl) (B 136 _ rfl)) 4 rfl (nI_1 c) (by decide) [1, 2, 3, 4, 0, 5, 6] rfl (n := 137) rfl ?_
          refine Vw.goto_ (n := 24) (de_goto_ (B 137 _ rfl) (B 138 _ rfl) (B 139 _ rfl)) rfl ?_
          refine Vw.lvs (lv2 := [(0, _), (1, _), (2, _), (3, _), (4, _)]) [0, 1, 2, 3, 4] rfl ?_
          have g := ih z_33 I3 ((fJ.trans f2).trans f3)
          rw [fallK, if_neg c_48, eD, e2, if_neg (nI_m1 (by omega)), nI_cl (by omega), eq] at g
          unfold wrN at g
          rw [eq, nI_cl (by omega), ← p2] at g
          rw [f3.k, f2.k, kJ]
          exact g
        exact absurd c_81 (nI_m1 (by omega))
      · rw [kJ] at e2
        refine Vw.istore (lv2 := [(0, _), (1, _), (2, _), (3, _), (4, _), (5, _), (6, _)]) (de_istore (B 75 _ rfl) (B 76 _ rfl)) (by decide) [1, 2, 3, 4, 5, 6, 0] rfl (n := 77) rfl ?_
        refine Vw.iload_n (de_iload_3 (B 77 _ rfl)) 3 rfl (n := 78) rfl ?_
        refine Vw.iload (de_iload (B 78 _ rfl) (B 79 _ rfl)) 6 rfl (n := 80) rfl ?_
        refine Vw.iconst (v := -1) (de_iconst_m1 (B 80 _ rfl)) rfl (n := 81) rfl ?_
        refine Vw.icmp_ne (tgt := 88) (n := 84) (de_icmp_ne (B 81 _ rfl) (B 82 _ rfl) (B 83 _ rfl)) rfl rfl (fun c_81 => ?_) (fun c_81 => ?_)
        · exact absurd rfl c_81
        refine Vw.iconst (v := 0) (de_iconst_0 (B 84 _ rfl)) rfl (n := 85) rfl ?_
        refine Vw.goto_ (n := 132) (de_goto_ (B 85 _ rfl) (B 86 _ rfl) (B 87 _ rfl)) rfl ?_
        refine Vw.iadd (de_iadd (B 132 _ rfl)) (n := 133) rfl ?_
        refine Vw.istore_n (lv2 := [(0, _), (1, _), (2, _), (3, _), (4, _), (5, _), (6, _)]) (de_istore_3 (B 133 _ rfl)) rfl (by decide) [1, 2, 3, 0, 4, 5, 6] rfl (n := 134) rfl ?_
        refine Vw.iinc (v := nI (c + 1)) (lv2 := [(0, _), (1, _), (2, _), (3, _), (4, _), (5, _), (6, _)]) (de_iinc (B 134 _ rfl) (B 135 _ rfl) (B 136 _ rfl)) 4 rfl (nI_1 c) (by decide) [1, 2, 3, 4, 0, 5, 6] rfl (n := 137) rfl ?_
        refine Vw.goto_ (n := 24) (de_goto_ (B 137 _ rfl) (B 138 _ rfl) (B 139 _ rfl)) rfl ?_
        refine Vw.lvs (lv2 := [(0, _), (1, _), (2, _), (3, _), (4, _)]) [0, 1, 2, 3, 4] rfl ?_
        have g := ih z_33 I2 (fJ.trans f2)
        rw [fallK, if_neg c_48, eD, e2, if_pos rfl] at g
        exact g
    refine Vw.goto_ (n := 134) (de_goto_ (B 51 _ rfl) (B 52 _ rfl) (B 53 _ rfl)) rfl ?_
    refine Vw.iinc (v := nI (c + 1)) (lv2 := [(0, _), (1, _), (2, _), (3, _), (4, _), (5, _)]) (de_iinc (B 134 _ rfl) (B 135 _ rfl) (B 136 _ rfl)) 4 rfl (nI_1 c) (by decide) [1, 2, 3, 4, 0, 5] rfl (n := 137) rfl ?_
    refine Vw.goto_ (n := 24) (de_goto_ (B 137 _ rfl) (B 138 _ rfl) (B 139 _ rfl)) rfl ?_
    refine Vw.lvs (lv2 := [(0, _), (1, _), (2, _), (3, _), (4, _)]) [0, 1, 2, 3, 4] rfl ?_
    have g := ih z_33 J fJ
    rw [fallK, if_pos c_48] at g
    exact g
  refine Vw.iload_n (de_iload_1 (B 0 _ rfl)) 1 rfl (n := 1) rfl ?_
  refine Vw.isi1 (mi' := mX12_isTailor) (de_invokestatic (B 1 _ rfl) (B 2 _ rfl) (B 3 _ rfl)) ml_X12_159 ms_X12_isTailor (Nat.le_of_ble_eq_true rfl) (n := 4) rfl (c_X12_isTailor ?_)
  refine Vw.if_eq (tgt := 17) (n := 7) (de_if_eq (B 4 _ rfl) (B 5 _ rfl) (B 6 _ rfl)) rfl rfl (fun c_4 => ?_) (fun c_4 => ?_)
  · refine Vw.iconst (v := -1) (de_iconst_m1 (B 17 _ rfl)) rfl (n := 18) rfl ?_
    exact Vw.iret (de_ireturn (B 18 _ rfl)) rfl ⟨_, rfl, (qv (by unfold fallsP; rw [if_pos (by first | exact Or.inl c_4 | exact Or.inr c_14)]) (h I Fr.rfl))⟩
  refine Vw.iload_n (de_iload_2 (B 7 _ rfl)) 2 rfl (n := 8) rfl ?_
  refine Vw.iconst (v := 0) (de_iconst_0 (B 8 _ rfl)) rfl (n := 9) rfl ?_
  refine Vw.bipush (v := 80) (de_bipush (B 9 _ rfl) (B 10 _ rfl)) rfl (n := 11) rfl ?_
  refine Vw.isi3 (mi' := mX12_lies) (de_invokestatic (B 11 _ rfl) (B 12 _ rfl) (B 13 _ rfl)) ml_X12_111 ms_X12_lies (Nat.le_of_ble_eq_true rfl) (n := 14) rfl (c_X12_lies ?_)
  refine Vw.if_ne (tgt := 19) (n := 17) (de_if_ne (B 14 _ rfl) (B 15 _ rfl) (B 16 _ rfl)) rfl rfl (fun c_14 => ?_) (fun c_14 => ?_)
  · obtain ⟨n, hn, en⟩ := lie_n (N := 80) (by decide) c_14
    subst en
    refine Vw.iconst (v := 0) (de_iconst_0 (B 19 _ rfl)) rfl (n := 20) rfl ?_
    refine Vw.istore_n (lv2 := [(0, _), (1, _), (2, _), (3, _)]) (de_istore_3 (B 20 _ rfl)) rfl (by decide) [1, 2, 3, 0] rfl (n := 21) rfl ?_
    refine Vw.iconst (v := 0) (de_iconst_0 (B 21 _ rfl)) rfl (n := 22) rfl ?_
    refine Vw.istore (lv2 := [(0, _), (1, _), (2, _), (3, _), (4, _)]) (de_istore (B 22 _ rfl) (B 23 _ rfl)) (by decide) [1, 2, 3, 4, 0] rfl (n := 24) rfl ?_
    exact loop n hn (fun J fJ => qv (by unfold fallsP; rw [if_neg (fun z => z.elim c_4 c_14), nI_cl (by omega)]) (h J fJ)) 0 (Nat.zero_le _) I Fr.rfl
  refine Vw.iconst (v := -1) (de_iconst_m1 (B 17 _ rfl)) rfl (n := 18) rfl ?_
  exact Vw.iret (de_ireturn (B 18 _ rfl)) rfl ⟨_, rfl, (qv (by unfold fallsP; rw [if_pos (by first | exact Or.inl c_4 | exact Or.inr c_14)]) (h I Fr.rfl))⟩
