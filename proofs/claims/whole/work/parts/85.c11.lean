/-! ORDERS run in the class -/
theorem quarterP_121 {W : tW} {K : Nat → Int32} {np nc : Nat} (hN : TN K np nc) : (quarterP W K np nc).1 121 = K 121 + 1 := by
  have h8 := hN.1
  have n4 : TN (nowK (growK W K np)) np nc := hN.of (fun x h1 h2 => by unfold nowK; rw [upK_n (by omega), growK_o (by omega)])
  unfold quarterP
  rw [(setlK_ok (W := W) n4 nc (Nat.le_refl _)).2 121 (Nat.le_refl _)]
  unfold nowK
  rw [upK_s, growK_o (by omega)]
def NB (K : Nat → Int32) : Prop := 0 ≤ (K 121).toInt ∧ (K 121).toInt ≤ 999
def OkL (np nc : Nat) (K : Nat → Int32) : Prop := TN K np nc ∧ NB K
theorem feedL_ok {K : Nat → Int32} {l : List tH} {np nc : Nat} {a b : Int32} (h : OkL np nc K) : OkL np nc (feedL K l np a b).2.1 := by
  have h8 := h.1.1
  unfold feedL
  split
  · exact h
  · split
    · exact h
    · rename_i g
      have := zl_j (by omega) g
      exact ⟨h.1.of (fun x h1 h2 => upK_n (by omega)), by show NB (upK K _ b); unfold NB; rw [upK_n (by omega)]; exact h.2⟩
theorem letL_ok {K : Nat → Int32} {l : List tH} {np nc j : Nat} {c : Int32} (h : OkL np nc K) (hj : j ≤ 1) : OkL np nc (letL K l nc c j).2.1 := by
  have h8 := h.1.2.1
  unfold letL
  split
  · exact h
  · split
    · exact h
    · rename_i g _
      have := zl_j (by omega) g
      exact ⟨h.1.lt this.1 hj, by show NB (letK K _ j); unfold NB; rw [letK_o (by omega) (by omega)]; exact h.2⟩
theorem handL_ok {W : tW} {K : Nat → Int32} {l : List tH} {np nc : Nat} {c p : Int32} (h : OkL np nc K) : OkL np nc (handL W K l np nc c p).2.1 := by
  have h8 := h.1.2.1
  have h81 := h.1.1
  unfold handL
  split
  · exact h
  · rename_i g
    have g1 := zl_j (c := c) (by omega) (fun z => g (Or.inl z))
    have g2 := zl_j (c := p) (by omega) (fun z => g (Or.inr z))
    split
    · exact h
    · have hT2 := handK_T h.1 g1.1 g2.1
      have o2 : handK K c.toNatClampNeg p.toNatClampNeg 121 = K 121 := upK_n (by omega)
      split
      · refine ⟨hT2.pay g1.1, ?_⟩
        show NB (payK W (handK K c.toNatClampNeg p.toNatClampNeg) c.toNatClampNeg)
        unfold NB
        rw [payK_o (hT2.2.2.2.2 _ g1.1) (by omega) (by omega) (by omega), o2]; exact h.2
      · exact ⟨hT2, by show NB (handK K _ _); unfold NB; rw [o2]; exact h.2⟩
theorem quarL_ok {W : tW} {K : Nat → Int32} {l : List tH} {np nc : Nat} (h : OkL np nc K) : OkL np nc (quarL W K l np nc).2.1 := by
  unfold quarL
  split
  · exact h
  · rename_i g
    refine ⟨(quarterP_ok h.1).1, ?_⟩
    show NB (quarterP W K np nc).1
    have n9 := ne_ti g 999 rfl
    have b := h.2
    unfold NB at b ⊢
    rw [quarterP_121 h.1, i32_add (by show _ ≤ _ + (1 : Int); omega) (by show _ + (1 : Int) < _; omega), show (1 : Int32).toInt = 1 from rfl]
    omega
theorem obeyL_ok {W : tW} {K : Nat → Int32} {l : List tH} {np nc : Nat} {v a b : Int32} (h : OkL np nc K) : OkL np nc (obeyL W np nc K l v a b).2.1 := by
  unfold obeyL
  split
  · exact feedL_ok h
  · split
    · exact letL_ok h (by omega)
    · split
      · exact letL_ok h (by omega)
      · split
        · exact handL_ok h
        · exact quarL_ok h
def FX (s a : Nat) (I I2 : vI) : Prop := ∀ b, ¬ (s + 1 ≤ b ∧ b ≤ s + 23) → b ≠ s + 28 → b ≠ s + 29 → b ≠ s + 31 → b ≠ s + 32 → ¬ (a ≤ b ∧ b ≤ a + 370) → I2 b = I b
theorem FX.rfl {s a : Nat} {I : vI} : FX s a I I := fun _ _ _ _ _ _ _ => Eq.refl _
theorem FX.trans {s a : Nat} {I I2 I3 : vI} (h : FX s a I I2) (g : FX s a I2 I3) : FX s a I I3 := fun b h1 h2 h3 h4 h5 h6 => (g b h1 h2 h3 h4 h5 h6).trans (h b h1 h2 h3 h4 h5 h6)
theorem FW.fx {s a : Nat} {I I2 : vI} (h : FW s a I I2) : FX s a I I2 := fun b h1 h2 h3 _ _ h6 => h b h1 h2 h3 h6
theorem c_X10_counted {d : Nat} {S : vS} {I : vI} {L : vL} {Q : Int32 → vS → vI → vL → Prop} {s : Nat} {v : Int32} (hw : WorksS S (s + 31) s (s + 28)) (h : Q v S (up2 I (s + 31) 4 (I (s + 31) 4 + (if 0 ≤ v then v else 0))) L) : Vc mX10_counted (d + 1) 0 0 [.ref (s + 31), .int v] S I L (ViQ Q) := by
  refine Vc.of rfl (Nat.le_of_ble_eq_true rfl) ?_
  have B := bs_X10_counted
  show Vw mX10_counted (d + 1) 0 0 0 0 (ViQ Q) 0 [(0, .ref (s + 31)), (1, .int v)] [] S I L
  refine Vw.aload_n (de_aload_0 (B 0 _ rfl)) 0 rfl (n := 1) rfl ?_
  refine Vw.dup (de_dup (B 1 _ rfl)) rfl (n := 2) rfl ?_
  refine Vw.getI (de_getfield (B 2 _ rfl) (B 3 _ rfl) (B 4 _ rfl)) fl_X10_122 rfl hw.k (n := 5) rfl ?_
  refine Vw.iload_n (de_iload_1 (B 5 _ rfl)) 1 rfl (n := 6) rfl ?_
  refine Vw.iconst (v := 0) (de_iconst_0 (B 6 _ rfl)) rfl (n := 7) rfl ?_
  refine Vw.mmaxI (de_invokestatic (B 7 _ rfl) (B 8 _ rfl) (B 9 _ rfl)) ml_X10_209 (Nat.le_of_ble_eq_true rfl) (n := 10) rfl ?_
  refine Vw.iadd (de_iadd (B 10 _ rfl)) (n := 11) rfl ?_
  refine Vw.putI (de_putfield (B 11 _ rfl) (B 12 _ rfl) (B 13 _ rfl)) fl_X10_122 hw.k rfl rfl (n := 14) rfl ?_
  refine Vw.iload_n (de_iload_1 (B 14 _ rfl)) 1 rfl (n := 15) rfl ?_
  exact Vw.iret (de_ireturn (B 15 _ rfl)) rfl ⟨_, rfl, h⟩
theorem c_X10_run {d : Nat} {S : vS} {I : vI} {L : vL} {Q : Int32 → vS → vI → vL → Prop} {s a lb np nc : Nat} {v : Int32} {K : Nat → Int32} {l : List tH} {W : tW} (hw : WorksS S (s + 31) s (s + 28)) (hK : TR I (s + 1) K np nc) (hO : OkL np nc K) (hW : WC S I s lb W) (hlb : s + 30 ≤ lb) (hH : HistS S a) (hC : HC I a l np) (ha : s + 64 ≤ a) (hal : a + 371 ≤ lb) (hv : v = 21 ∨ v = 23 ∨ v = 25 ∨ v = 26 ∨ v = 16) (h : ∀ ob I2 M, obeyL W np nc K l v (I (s + 31) 5) (I (s + 31) 6) = ob → FX s a I I2 → (∀ k, k ≠ 4 → I2 (s + 31) k = I (s + 31) k) → I2 (s + 31) 4 = paidO v ob.1 (I (s + 31) 4) → Lev (s + 28) L M → TR I2 (s + 1) ob.2.1 np nc → HC I2 a ob.2.2 np → Q ob.1 S I2 M) : Vc mX10_run (d + 6) 0 0 [.ref (s + 31), .int (vbO v), .ref a] S I L (ViQ Q) := by
  refine Vc.of rfl (Nat.le_of_ble_eq_true rfl) ?_
  have B := bs_X10_run
  show Vw mX10_run (d + 6) 0 0 0 0 (ViQ Q) 0 [(0, .ref (s + 31)), (1, .int (vbO v)), (2, .ref a)] [] S I L
  have hN := hO.1
  rcases hv with rfl | rfl | rfl | rfl | rfl
  · skip
    show Vw mX10_run (d + 6) 0 0 0 0 (ViQ Q) 0 [(0, .ref (s + 31)), (1, .int 0), (2, .ref a)] [] S I L
    refine Vw.iload_n (de_iload_1 (B 0 _ rfl)) 1 rfl (n := 1) rfl ?_
    have hts_1 : decode mX10_run.2.1 1 = .ok (.tableswitch 84 0 3 #[31, 44, 62, 73], 31) := by decide +kernel
    refine Vw.tsIn (n := 32) hts_1 (by decide) (by decide) rfl rfl ?_
    refine Vw.aload_n (de_aload_0 (B 32 _ rfl)) 0 rfl (n := 33) rfl ?_
    refine Vw.aload_n (de_aload_0 (B 33 _ rfl)) 0 rfl (n := 34) rfl ?_
    refine Vw.getI (de_getfield (B 34 _ rfl) (B 35 _ rfl) (B 36 _ rfl)) fl_X10_181 rfl hw.k (n := 37) rfl ?_
    refine Vw.aload_n (de_aload_0 (B 37 _ rfl)) 0 rfl (n := 38) rfl ?_
    refine Vw.getI (de_getfield (B 38 _ rfl) (B 39 _ rfl) (B 40 _ rfl)) fl_X10_187 rfl hw.k (n := 41) rfl ?_
    refine Vw.ivi2 (mi' := mX10_feedOne) (de_invokevirtual (B 41 _ rfl) (B 42 _ rfl) (B 43 _ rfl)) ml_X10_190 mv_X10_feedOne hw.k (Nat.le_of_ble_eq_true rfl) (n := 44) rfl (c_X10_feedOne hw hK hN hC ha (fun I3 M3 f3 m3 k3 c3 => ?_))
    exact Vw.iret (de_ireturn (B 44 _ rfl)) rfl ⟨_, rfl, (h _ I3 M3 (by unfold obeyL; rw [if_pos rfl]) f3.fx (fun k _ => congrFun (f3 (s + 31) (by omega) (by omega) (by omega) (by omega)) k) (by rw [congrFun (f3 (s + 31) (by omega) (by omega) (by omega) (by omega)) 4]; unfold paidO; rw [if_pos (by decide)]) m3 k3 c3)⟩
  · skip
    show Vw mX10_run (d + 6) 0 0 0 0 (ViQ Q) 0 [(0, .ref (s + 31)), (1, .int 1), (2, .ref a)] [] S I L
    refine Vw.iload_n (de_iload_1 (B 0 _ rfl)) 1 rfl (n := 1) rfl ?_
    have hts_1 : decode mX10_run.2.1 1 = .ok (.tableswitch 84 0 3 #[31, 44, 62, 73], 31) := by decide +kernel
    refine Vw.tsIn (n := 45) hts_1 (by decide) (by decide) rfl rfl ?_
    refine Vw.aload_n (de_aload_0 (B 45 _ rfl)) 0 rfl (n := 46) rfl ?_
    refine Vw.aload_n (de_aload_0 (B 46 _ rfl)) 0 rfl (n := 47) rfl ?_
    refine Vw.aload_n (de_aload_0 (B 47 _ rfl)) 0 rfl (n := 48) rfl ?_
    refine Vw.getI (de_getfield (B 48 _ rfl) (B 49 _ rfl) (B 50 _ rfl)) fl_X10_181 rfl hw.k (n := 51) rfl ?_
    refine Vw.aload_n (de_aload_0 (B 51 _ rfl)) 0 rfl (n := 52) rfl ?_
    refine Vw.getI (de_getfield (B 52 _ rfl) (B 53 _ rfl) (B 54 _ rfl)) fl_X10_187 rfl hw.k (n := 55) rfl ?_
    refine Vw.aload_n (de_aload_2 (B 55 _ rfl)) 2 rfl (n := 56) rfl ?_
    refine Vw.ivi3 (mi' := mX10_handOver) (de_invokevirtual (B 56 _ rfl) (B 57 _ rfl) (B 58 _ rfl)) ml_X10_194 mv_X10_handOver hw.k (Nat.le_of_ble_eq_true rfl) (n := 59) rfl (c_X10_handOver hw hK hN hW hlb hH hC ha hal (fun I3 M3 f3 m3 k3 c3 => ?_))
    refine Vw.ivi1 (mi' := mX10_counted) (de_invokevirtual (B 59 _ rfl) (B 60 _ rfl) (B 61 _ rfl)) ml_X10_198 mv_X10_counted hw.k (Nat.le_of_ble_eq_true rfl) (n := 62) rfl (c_X10_counted hw ?_)
    exact Vw.iret (de_ireturn (B 62 _ rfl)) rfl ⟨_, rfl, (h _ _ M3 (by unfold obeyL; rw [if_neg (show ¬ (23 : Int32) = 21 by decide), if_neg (show ¬ (23 : Int32) = 25 by decide), if_neg (show ¬ (23 : Int32) = 26 by decide), if_pos rfl]) (f3.fx.trans (fun b _ _ _ g _ _ => up2_row g)) (fun k g => by rw [up2_k g]; exact congrFun (f3 (s + 31) (by omega) (by omega) (by omega) (by omega)) k) (by rw [up2_s, congrFun (f3 (s + 31) (by omega) (by omega) (by omega) (by omega)) 4]; unfold paidO; rw [if_neg (show ¬ ((23 : Int32) = 21 ∨ (23 : Int32) = 25 ∨ (23 : Int32) = 26) by decide)]) m3 (k3.of (fun b g1 g2 => up2_row (by omega)) hN.1 hN.2.1) (c3.of hN.1 (fun b g1 g2 => up2_row (by omega))))⟩
  · skip
    show Vw mX10_run (d + 6) 0 0 0 0 (ViQ Q) 0 [(0, .ref (s + 31)), (1, .int 2), (2, .ref a)] [] S I L
    refine Vw.iload_n (de_iload_1 (B 0 _ rfl)) 1 rfl (n := 1) rfl ?_
    have hts_1 : decode mX10_run.2.1 1 = .ok (.tableswitch 84 0 3 #[31, 44, 62, 73], 31) := by decide +kernel
    refine Vw.tsIn (n := 63) hts_1 (by decide) (by decide) rfl rfl ?_
    refine Vw.aload_n (de_aload_0 (B 63 _ rfl)) 0 rfl (n := 64) rfl ?_
    refine Vw.aload_n (de_aload_0 (B 64 _ rfl)) 0 rfl (n := 65) rfl ?_
    refine Vw.getI (de_getfield (B 65 _ rfl) (B 66 _ rfl) (B 67 _ rfl)) fl_X10_181 rfl hw.k (n := 68) rfl ?_
    refine Vw.iconst (v := 0) (de_iconst_0 (B 68 _ rfl)) rfl (n := 69) rfl ?_
    refine Vw.aload_n (de_aload_2 (B 69 _ rfl)) 2 rfl (n := 70) rfl ?_
    refine Vw.ivi3 (mi' := mX10_letOut) (de_invokevirtual (B 70 _ rfl) (B 71 _ rfl) (B 72 _ rfl)) ml_X10_202 mv_X10_letOut hw.k (Nat.le_of_ble_eq_true rfl) (n := 73) rfl (c_X10_letOut hw hK hN hH hC ha (fun z => absurd z (by decide)) (fun j hj ej I3 M3 f3 m3 k3 c3 => ?_))
    obtain rfl := nI_is0 hj ej
    exact Vw.iret (de_ireturn (B 73 _ rfl)) rfl ⟨_, rfl, (h _ I3 M3 (by unfold obeyL; rw [if_neg (show ¬ (25 : Int32) = 21 by decide), if_pos rfl]) f3.fx (fun k _ => congrFun (f3 (s + 31) (by omega) (by omega) (by omega) (by omega)) k) (by rw [congrFun (f3 (s + 31) (by omega) (by omega) (by omega) (by omega)) 4]; unfold paidO; rw [if_pos (by decide)]) m3 k3 c3)⟩
  · skip
    show Vw mX10_run (d + 6) 0 0 0 0 (ViQ Q) 0 [(0, .ref (s + 31)), (1, .int 3), (2, .ref a)] [] S I L
    refine Vw.iload_n (de_iload_1 (B 0 _ rfl)) 1 rfl (n := 1) rfl ?_
    have hts_1 : decode mX10_run.2.1 1 = .ok (.tableswitch 84 0 3 #[31, 44, 62, 73], 31) := by decide +kernel
    refine Vw.tsIn (n := 74) hts_1 (by decide) (by decide) rfl rfl ?_
    refine Vw.aload_n (de_aload_0 (B 74 _ rfl)) 0 rfl (n := 75) rfl ?_
    refine Vw.aload_n (de_aload_0 (B 75 _ rfl)) 0 rfl (n := 76) rfl ?_
    refine Vw.getI (de_getfield (B 76 _ rfl) (B 77 _ rfl) (B 78 _ rfl)) fl_X10_181 rfl hw.k (n := 79) rfl ?_
    refine Vw.iconst (v := 1) (de_iconst_1 (B 79 _ rfl)) rfl (n := 80) rfl ?_
    refine Vw.aload_n (de_aload_2 (B 80 _ rfl)) 2 rfl (n := 81) rfl ?_
    refine Vw.ivi3 (mi' := mX10_letOut) (de_invokevirtual (B 81 _ rfl) (B 82 _ rfl) (B 83 _ rfl)) ml_X10_202 mv_X10_letOut hw.k (Nat.le_of_ble_eq_true rfl) (n := 84) rfl (c_X10_letOut hw hK hN hH hC ha (fun z => absurd z (by decide)) (fun j hj ej I3 M3 f3 m3 k3 c3 => ?_))
    obtain rfl := nI_is1 hj ej
    exact Vw.iret (de_ireturn (B 84 _ rfl)) rfl ⟨_, rfl, (h _ I3 M3 (by unfold obeyL; rw [if_neg (show ¬ (26 : Int32) = 21 by decide), if_neg (show ¬ (26 : Int32) = 25 by decide), if_pos rfl]) f3.fx (fun k _ => congrFun (f3 (s + 31) (by omega) (by omega) (by omega) (by omega)) k) (by rw [congrFun (f3 (s + 31) (by omega) (by omega) (by omega) (by omega)) 4]; unfold paidO; rw [if_pos (by decide)]) m3 k3 c3)⟩
  · skip
    show Vw mX10_run (d + 6) 0 0 0 0 (ViQ Q) 0 [(0, .ref (s + 31)), (1, .int 4), (2, .ref a)] [] S I L
    refine Vw.iload_n (de_iload_1 (B 0 _ rfl)) 1 rfl (n := 1) rfl ?_
    have hts_1 : decode mX10_run.2.1 1 = .ok (.tableswitch 84 0 3 #[31, 44, 62, 73], 31) := by decide +kernel
    refine Vw.tsOut (n := 85) hts_1 (by decide) rfl ?_
    refine Vw.aload_n (de_aload_0 (B 85 _ rfl)) 0 rfl (n := 86) rfl ?_
    refine Vw.aload_n (de_aload_0 (B 86 _ rfl)) 0 rfl (n := 87) rfl ?_
    refine Vw.aload_n (de_aload_2 (B 87 _ rfl)) 2 rfl (n := 88) rfl ?_
    refine Vw.ivi1 (mi' := mX10_passQuarter) (de_invokevirtual (B 88 _ rfl) (B 89 _ rfl) (B 90 _ rfl)) ml_X10_205 mv_X10_passQuarter hw.k (Nat.le_of_ble_eq_true rfl) (n := 91) rfl (c_X10_passQuarter hw hK hN hW hlb hH hC ha hal hO.2.2 (fun I3 M3 f3 m3 k3 c3 => ?_))
    refine Vw.ivi1 (mi' := mX10_counted) (de_invokevirtual (B 91 _ rfl) (B 92 _ rfl) (B 93 _ rfl)) ml_X10_198 mv_X10_counted hw.k (Nat.le_of_ble_eq_true rfl) (n := 94) rfl (c_X10_counted hw ?_)
    exact Vw.iret (de_ireturn (B 94 _ rfl)) rfl ⟨_, rfl, (h _ _ M3 (by unfold obeyL; rw [if_neg (show ¬ (16 : Int32) = 21 by decide), if_neg (show ¬ (16 : Int32) = 25 by decide), if_neg (show ¬ (16 : Int32) = 26 by decide), if_neg (show ¬ (16 : Int32) = 23 by decide)]) (f3.fx.trans (fun b _ _ _ g _ _ => up2_row g)) (fun k g => by rw [up2_k g]; exact congrFun (f3 (s + 31) (by omega) (by omega) (by omega) (by omega)) k) (by rw [up2_s, congrFun (f3 (s + 31) (by omega) (by omega) (by omega) (by omega)) 4]; unfold paidO; rw [if_neg (show ¬ ((16 : Int32) = 21 ∨ (16 : Int32) = 25 ∨ (16 : Int32) = 26) by decide)]) m3 (k3.of (fun b g1 g2 => up2_row (by omega)) hN.1 hN.2.1) (c3.of hN.1 (fun b g1 g2 => up2_row (by omega))))⟩
