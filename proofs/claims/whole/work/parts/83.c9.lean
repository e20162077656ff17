theorem c_X10_passQuarter {d : Nat} {S : vS} {I : vI} {L : vL} {Q : Int32 → vS → vI → vL → Prop} {s a lb np nc : Nat} {K : Nat → Int32} {l : List tH} {W : tW} (hw : WorksS S (s + 31) s (s + 28)) (hK : TR I (s + 1) K np nc) (hN : TN K np nc) (hW : WC S I s lb W) (hlb : s + 30 ≤ lb) (hH : HistS S a) (hC : HC I a l np) (ha : s + 64 ≤ a) (hal : a + 371 ≤ lb) (hnow : (K 121).toInt ≤ 999) (h : ∀ I2 M, FW s a I I2 → Lev (s + 28) L M → TR I2 (s + 1) (quarL W K l np nc).2.1 np nc → HC I2 a (quarL W K l np nc).2.2 np → Q (quarL W K l np nc).1 S I2 M) : Vc mX10_passQuarter (d + 4) 0 0 [.ref (s + 31), .ref a] S I L (ViQ Q) := by
  refine Vc.of rfl (Nat.le_of_ble_eq_true rfl) ?_
  have B := bs_X10_passQuarter
  show Vw mX10_passQuarter (d + 4) 0 0 0 0 (ViQ Q) 0 [(0, .ref (s + 31)), (1, .ref a)] [] S I L
  have h8 := hN.1
  have h10 := hN.2.1
  have hT := hw.p0.p0
  have hR := hw.p1
  have hDj : Dj (s + 1) s (s + 28) lb := ⟨by omega, by omega, by omega, by omega⟩
  refine Vw.aload_n (de_aload_0 (B 0 _ rfl)) 0 rfl (n := 1) rfl ?_
  refine Vw.getR (de_getfield (B 1 _ rfl) (B 2 _ rfl) (B 3 _ rfl)) fl_X10_15 rfl hw.k hw.f0 (n := 4) rfl ?_
  refine Vw.getR (de_getfield (B 4 _ rfl) (B 5 _ rfl) (B 6 _ rfl)) fl_X10_23 rfl hw.p0.k hw.p0.f0 (n := 7) rfl ?_
  refine Vw.getI (de_getfield (B 7 _ rfl) (B 8 _ rfl) (B 9 _ rfl)) fl_X10_55 rfl hw.p0.p0.k (n := 10) rfl ?_
  rw [hK.2.2.1]
  refine Vw.sipush (v := 999) (de_sipush (B 10 _ rfl) (B 11 _ rfl) (B 12 _ rfl)) rfl (n := 13) rfl ?_
  refine Vw.icmp_lt (tgt := 19) (n := 16) (de_icmp_lt (B 13 _ rfl) (B 14 _ rfl) (B 15 _ rfl)) rfl rfl (fun c_13 => ?_) (fun c_13 => ?_)
  · have h9 : ¬ K 121 = 999 := fun z => absurd (i32_lt.mp c_13) (by rw [z]; decide)
    refine Vw.aload_n (de_aload_1 (B 19 _ rfl)) 1 rfl (n := 20) rfl ?_
    refine Vw.iconst (v := 2) (de_iconst_2 (B 20 _ rfl)) rfl (n := 21) rfl ?_
    refine Vw.aload_n (de_aload_0 (B 21 _ rfl)) 0 rfl (n := 22) rfl ?_
    refine Vw.getR (de_getfield (B 22 _ rfl) (B 23 _ rfl) (B 24 _ rfl)) fl_X10_15 rfl hw.k hw.f0 (n := 25) rfl ?_
    refine Vw.getR (de_getfield (B 25 _ rfl) (B 26 _ rfl) (B 27 _ rfl)) fl_X10_23 rfl hw.p0.k hw.p0.f0 (n := 28) rfl ?_
    refine Vw.ivv2 (mi' := mX2_push) (de_invokevirtual (B 28 _ rfl) (B 29 _ rfl) (B 30 _ rfl)) ml_X10_84 mv_X2_push hH.k (Nat.le_of_ble_eq_true rfl) (n := 31) rfl (c_X2_push hH hT hC hK h8 h10 hN.2.2.2.1 (by omega) (fun I3 f3 c3 => ?_))
    have k3 : TR I3 (s + 1) K np nc := hK.of (fun b g1 g2 => f3 b (by omega)) h8 h10
    have w3 : WC S I3 s lb W := hW.of (f3 s (by omega)) (fun b hb => f3 b (by omega))
    refine Vw.aload_n (de_aload_0 (B 31 _ rfl)) 0 rfl (n := 32) rfl ?_
    refine Vw.getR (de_getfield (B 32 _ rfl) (B 33 _ rfl) (B 34 _ rfl)) fl_X10_15 rfl hw.k hw.f0 (n := 35) rfl ?_
    refine Vw.getR (de_getfield (B 35 _ rfl) (B 36 _ rfl) (B 37 _ rfl)) fl_X10_23 rfl hw.p0.k hw.p0.f0 (n := 38) rfl ?_
    refine Vw.aload_n (de_aload_0 (B 38 _ rfl)) 0 rfl (n := 39) rfl ?_
    refine Vw.getR (de_getfield (B 39 _ rfl) (B 40 _ rfl) (B 41 _ rfl)) fl_X10_19 rfl hw.k hw.f1 (n := 42) rfl ?_
    refine Vw.ivv1 (mi' := mX9_growAll) (de_invokevirtual (B 42 _ rfl) (B 43 _ rfl) (B 44 _ rfl)) ml_X10_96 mv_X9_growAll hw.p0.p0.k (Nat.le_of_ble_eq_true rfl) (n := 45) rfl (c_X9_growAll hT k3 h8 h10 hR w3 hDj (fun I4 M4 f4 m4 k4 => ?_))
    have w4 : WC S I4 s lb W := w3.of (f4 s (by omega) (by omega) (by omega)) (fun b hb => f4 b (by omega) (by omega) (by omega))
    have n4 : TN (nowK (growK W K np)) np nc := hN.of (fun x h1 h2 => by unfold nowK; rw [upK_n (by omega), growK_o (by omega)])
    refine Vw.aload_n (de_aload_0 (B 45 _ rfl)) 0 rfl (n := 46) rfl ?_
    refine Vw.getR (de_getfield (B 46 _ rfl) (B 47 _ rfl) (B 48 _ rfl)) fl_X10_15 rfl hw.k hw.f0 (n := 49) rfl ?_
    refine Vw.getR (de_getfield (B 49 _ rfl) (B 50 _ rfl) (B 51 _ rfl)) fl_X10_23 rfl hw.p0.k hw.p0.f0 (n := 52) rfl ?_
    refine Vw.aload_n (de_aload_0 (B 52 _ rfl)) 0 rfl (n := 53) rfl ?_
    refine Vw.getR (de_getfield (B 53 _ rfl) (B 54 _ rfl) (B 55 _ rfl)) fl_X10_19 rfl hw.k hw.f1 (n := 56) rfl ?_
    refine Vw.ivi1 (mi' := mX9_settle) (de_invokevirtual (B 56 _ rfl) (B 57 _ rfl) (B 58 _ rfl)) ml_X10_100 mv_X9_settle hw.p0.p0.k (Nat.le_of_ble_eq_true rfl) (n := 59) rfl (c_X9_settle hT k4 n4 hR w4 hDj (fun I5 M5 f5 m5 k5 => ?_))
    exact Vw.iret (de_ireturn (B 59 _ rfl)) rfl ⟨_, rfl, (by have e := h I5 M5 ((show FW s a I I3 from fun b g1 g2 g3 g4 => f3 b g4).trans (f4.trans f5).fw) (m4.trans m5); unfold quarL at e; rw [if_neg h9] at e; exact e k5 (c3.of h8 (fun b g1 g2 => (f4.trans f5) b (by omega) (by omega) (by omega))))⟩
  have h9 : K 121 = 999 := i32_eq (by have := i32_le.mp (Int32.not_lt.mp c_13); rw [show (999 : Int32).toInt = 999 from rfl] at this ⊢; omega)
  refine Vw.bipush (v := -3) (de_bipush (B 16 _ rfl) (B 17 _ rfl)) rfl (n := 18) rfl ?_
  exact Vw.iret (de_ireturn (B 18 _ rfl)) rfl ⟨_, rfl, (by have e := h I L FW.rfl Lev.rfl; unfold quarL at e; rw [if_pos h9] at e; exact e hK hC)⟩
theorem c_X10_handOver {d : Nat} {S : vS} {I : vI} {L : vL} {Q : Int32 → vS → vI → vL → Prop} {s a lb np nc : Nat} {c q : Int32} {K : Nat → Int32} {l : List tH} {W : tW} (hw : WorksS S (s + 31) s (s + 28)) (hK : TR I (s + 1) K np nc) (hN : TN K np nc) (hW : WC S I s lb W) (hlb : s + 30 ≤ lb) (hH : HistS S a) (hC : HC I a l np) (ha : s + 64 ≤ a) (hal : a + 371 ≤ lb) (h : ∀ I2 M, FW s a I I2 → Lev (s + 28) L M → TR I2 (s + 1) (handL W K l np nc c q).2.1 np nc → HC I2 a (handL W K l np nc c q).2.2 np → Q (handL W K l np nc c q).1 S I2 M) : Vc mX10_handOver (d + 5) 0 0 [.ref (s + 31), .int c, .int q, .ref a] S I L (ViQ Q) := by
  refine Vc.of rfl (Nat.le_of_ble_eq_true rfl) ?_
  have B := bs_X10_handOver
  show Vw mX10_handOver (d + 5) 0 0 0 0 (ViQ Q) 0 [(0, .ref (s + 31)), (1, .int c), (2, .int q), (3, .ref a)] [] S I L
  have h8 := hN.1
  have h10 := hN.2.1
  have hT := hw.p0.p0
  have hR := hw.p1
  have hDj : Dj (s + 1) s (s + 28) lb := ⟨by omega, by omega, by omega, by omega⟩
  refine Vw.aload_n (de_aload_0 (B 0 _ rfl)) 0 rfl (n := 1) rfl ?_
  refine Vw.getR (de_getfield (B 1 _ rfl) (B 2 _ rfl) (B 3 _ rfl)) fl_X10_15 rfl hw.k hw.f0 (n := 4) rfl ?_
  refine Vw.getR (de_getfield (B 4 _ rfl) (B 5 _ rfl) (B 6 _ rfl)) fl_X10_23 rfl hw.p0.k hw.p0.f0 (n := 7) rfl ?_
  refine Vw.astore (lv2 := [(0, _), (1, _), (2, _), (3, _), (4, _)]) (de_astore (B 7 _ rfl) (B 8 _ rfl)) (by decide) [1, 2, 3, 4, 0] rfl (n := 9) rfl ?_
  refine Vw.aload (de_aload (B 9 _ rfl) (B 10 _ rfl)) 4 rfl (n := 11) rfl ?_
  refine Vw.iload_n (de_iload_1 (B 11 _ rfl)) 1 rfl (n := 12) rfl ?_
  refine Vw.ivi1 (mi' := mX9_hasCoat) (de_invokevirtual (B 12 _ rfl) (B 13 _ rfl) (B 14 _ rfl)) ml_X10_69 mv_X9_hasCoat hw.p0.p0.k (Nat.le_of_ble_eq_true rfl) (n := 15) rfl (c_X9_hasCoat hT hK.2.1 (by omega) ?_)
  refine Vw.if_eq (tgt := 27) (n := 18) (de_if_eq (B 15 _ rfl) (B 16 _ rfl) (B 17 _ rfl)) rfl rfl (fun c_15 => ?_) (fun c_15 => ?_)
  · refine Vw.bipush (v := -2) (de_bipush (B 27 _ rfl) (B 28 _ rfl)) rfl (n := 29) rfl ?_
    exact Vw.iret (de_ireturn (B 29 _ rfl)) rfl ⟨_, rfl, (by have e := h I L FW.rfl Lev.rfl; unfold handL at e; rw [if_pos (by first | exact Or.inl c_15 | exact Or.inr c_24)] at e; exact e hK hC)⟩
  refine Vw.aload (de_aload (B 18 _ rfl) (B 19 _ rfl)) 4 rfl (n := 20) rfl ?_
  refine Vw.iload_n (de_iload_2 (B 20 _ rfl)) 2 rfl (n := 21) rfl ?_
  refine Vw.ivi1 (mi' := mX9_hasPerson) (de_invokevirtual (B 21 _ rfl) (B 22 _ rfl) (B 23 _ rfl)) ml_X10_29 mv_X9_hasPerson hw.p0.p0.k (Nat.le_of_ble_eq_true rfl) (n := 24) rfl (c_X9_hasPerson hT hK.1 (by omega) ?_)
  refine Vw.if_ne (tgt := 30) (n := 27) (de_if_ne (B 24 _ rfl) (B 25 _ rfl) (B 26 _ rfl)) rfl rfl (fun c_24 => ?_) (fun c_24 => ?_)
  · obtain ⟨i, hi, ei⟩ := lie_ex (by omega) c_15
    subst ei
    obtain ⟨j, hj, ej⟩ := lie_ex (by omega) c_24
    subst ej
    refine Vw.aload (de_aload (B 30 _ rfl) (B 31 _ rfl)) 4 rfl (n := 32) rfl ?_
    refine Vw.getR (de_getfield (B 32 _ rfl) (B 33 _ rfl) (B 34 _ rfl)) fl_X10_72 rfl hw.p0.p0.k hw.p0.p0.f1 (n := 35) rfl ?_
    refine Vw.iload_n (de_iload_1 (B 35 _ rfl)) 1 rfl (n := 36) rfl ?_
    refine Vw.aald0 (b := 0) (de_aaload (B 36 _ rfl)) hw.p0.p0.r1 (vIx_n (k := i) rfl (by omega)) (hT.cr (show i < 10 by omega)) (n := 37) rfl ?_
    refine Vw.astore (lv2 := [(0, _), (1, _), (2, _), (3, _), (4, _), (5, _)]) (de_astore (B 37 _ rfl) (B 38 _ rfl)) (by decide) [1, 2, 3, 4, 5, 0] rfl (n := 39) rfl ?_
    refine Vw.aload (de_aload (B 39 _ rfl) (B 40 _ rfl)) 5 rfl (n := 41) rfl ?_
    refine Vw.getI (de_getfield (B 41 _ rfl) (B 42 _ rfl) (B 43 _ rfl)) fl_X10_104 rfl (hT.ck (show i < 10 by omega)) (n := 44) rfl ?_
    rw [hK.co hi (by decide)]
    refine Vw.iconst (v := -1) (de_iconst_m1 (B 44 _ rfl)) rfl (n := 45) rfl ?_
    refine Vw.icmp_eq (tgt := 51) (n := 48) (de_icmp_eq (B 45 _ rfl) (B 46 _ rfl) (B 47 _ rfl)) rfl rfl (fun c_45 => ?_) (fun c_45 => ?_)
    · refine Vw.aload_n (de_aload_3 (B 51 _ rfl)) 3 rfl (n := 52) rfl ?_
      refine Vw.iconst (v := 3) (de_iconst_3 (B 52 _ rfl)) rfl (n := 53) rfl ?_
      refine Vw.aload (de_aload (B 53 _ rfl) (B 54 _ rfl)) 4 rfl (n := 55) rfl ?_
      refine Vw.ivv2 (mi' := mX2_push) (de_invokevirtual (B 55 _ rfl) (B 56 _ rfl) (B 57 _ rfl)) ml_X10_84 mv_X2_push hH.k (Nat.le_of_ble_eq_true rfl) (n := 58) rfl (c_X2_push hH hT hC hK h8 h10 hN.2.2.2.1 (by omega) (fun I3 f3 c3 => ?_))
      refine Vw.aload (de_aload (B 58 _ rfl) (B 59 _ rfl)) 5 rfl (n := 60) rfl ?_
      refine Vw.iload_n (de_iload_2 (B 60 _ rfl)) 2 rfl (n := 61) rfl ?_
      refine Vw.putI (de_putfield (B 61 _ rfl) (B 62 _ rfl) (B 63 _ rfl)) fl_X10_104 (hT.ck (show i < 10 by omega)) rfl rfl (n := 64) rfl ?_
      have f5 : FW s a I (up2 I3 (s + 1 + 13 + i) 4 (nI j)) := fun b g1 g2 g3 g4 => by rw [up2_row (by omega)]; exact f3 b g4
      have k5 : TR (up2 I3 (s + 1 + 13 + i) 4 (nI j)) (s + 1) (handK K i j) np nc := by
        refine hK.coat hi h8 h10 (fun b g1 g2 g3 => by rw [up2_row g3]; exact f3 b (by omega)) (fun k hk => ?_) (fun x hx => upK_n (by omega))
        unfold handK
        by_cases z : k = 4
        · subst z; rw [up2_s, upK_s]
        · rw [up2_k z, upK_n (by omega), f3 _ (by omega)]; exact hK.co hi hk
      have c5 : HC (up2 I3 (s + 1 + 13 + i) 4 (nI j)) a (psh l (K, 3)) np := c3.of h8 (fun b g1 g2 => by rw [up2_row (by omega)])
      have n5 : TN (handK K i j) np nc := handK_T hN hi hj
      have w5 : WC S (up2 I3 (s + 1 + 13 + i) 4 (nI j)) s lb W := hW.of (by rw [up2_row (by omega)]; exact f3 s (by omega)) (fun b hb => by rw [up2_row (by omega)]; exact f3 b (by omega))
      have hwj : handK K i j (32 + 8 * i + 4) = nI j := upK_s _ _ _
      have nm : ¬ handK K i j (32 + 8 * i + 4) = -1 := by rw [hwj]; exact nI_m1 (by omega)
      refine Vw.aload (de_aload (B 64 _ rfl) (B 65 _ rfl)) 4 rfl (n := 66) rfl ?_
      refine Vw.aload (de_aload (B 66 _ rfl) (B 67 _ rfl)) 5 rfl (n := 68) rfl ?_
      refine Vw.ivi1 (mi' := mX9_isOutgrown) (de_invokevirtual (B 68 _ rfl) (B 69 _ rfl) (B 70 _ rfl)) ml_X10_107 mv_X9_isOutgrown hw.p0.p0.k (Nat.le_of_ble_eq_true rfl) (n := 71) rfl (c_X9_isOutgrown hT k5 n5 hi ?_)
      refine Vw.if_ne (tgt := 76) (n := 74) (de_if_ne (B 71 _ rfl) (B 72 _ rfl) (B 73 _ rfl)) rfl rfl (fun c_71 => ?_) (fun c_71 => ?_)
      · have hfit : fitAt (handK K i j) i = 0 := Classical.byContradiction fun z => c_71 (outK_f z)
        refine Vw.aload (de_aload (B 76 _ rfl) (B 77 _ rfl)) 4 rfl (n := 78) rfl ?_
        refine Vw.aload (de_aload (B 78 _ rfl) (B 79 _ rfl)) 5 rfl (n := 80) rfl ?_
        refine Vw.aload_n (de_aload_0 (B 80 _ rfl)) 0 rfl (n := 81) rfl ?_
        refine Vw.getR (de_getfield (B 81 _ rfl) (B 82 _ rfl) (B 83 _ rfl)) fl_X10_19 rfl hw.k hw.f1 (n := 84) rfl ?_
        refine Vw.ivi2 (mi' := mX9_payOf) (de_invokevirtual (B 84 _ rfl) (B 85 _ rfl) (B 86 _ rfl)) ml_X10_111 mv_X9_payOf hw.p0.p0.k (Nat.le_of_ble_eq_true rfl) (n := 87) rfl (c_X9_payOf hT k5 n5 hi hR w5 hDj (fun g => absurd g nm) (fun g I6 M6 f6 m6 => ?_))
        · have k6 : TR I6 (s + 1) (handK K i j) np nc := k5.of (fun b g1 g2 => f6 b (by omega) (by omega)) h8 h10
          refine Vw.istore (lv2 := [(0, _), (1, _), (2, _), (3, _), (4, _), (5, _), (6, _)]) (de_istore (B 87 _ rfl) (B 88 _ rfl)) (by decide) [1, 2, 3, 4, 5, 6, 0] rfl (n := 89) rfl ?_
          refine Vw.aload (de_aload (B 89 _ rfl) (B 90 _ rfl)) 4 rfl (n := 91) rfl ?_
          refine Vw.aload (de_aload (B 91 _ rfl) (B 92 _ rfl)) 5 rfl (n := 93) rfl ?_
          refine Vw.iload (de_iload (B 93 _ rfl) (B 94 _ rfl)) 6 rfl (n := 95) rfl ?_
          refine Vw.ivv2 (mi' := mX9_takeOff) (de_invokevirtual (B 95 _ rfl) (B 96 _ rfl) (B 97 _ rfl)) ml_X10_115 mv_X9_takeOff hw.p0.p0.k (Nat.le_of_ble_eq_true rfl) (n := 98) rfl (c_X9_takeOff hT k6 n5 hi (fun I7 f7 k7 => ?_))
          refine Vw.iload (de_iload (B 98 _ rfl) (B 99 _ rfl)) 6 rfl (n := 100) rfl ?_
          exact Vw.iret (de_ireturn (B 100 _ rfl)) rfl ⟨_, rfl, (by have e := h I7 M6 (f5.trans (fun b g1 g2 g3 g4 => (f7 b (by omega)).trans (f6 b g2 g3))) m6; unfold handL at e; rw [if_neg (fun z => z.elim c_15 c_24), nI_cl (by omega), nI_cl (by omega), if_neg (fun z => z c_45), if_pos hfit] at e; exact e k7 (c5.of h8 (fun b g1 g2 => (f7 b (by omega)).trans (f6 b (by omega) (by omega)))))⟩
      have hfit : ¬ fitAt (handK K i j) i = 0 := fun z => absurd c_71 (by rw [outK_y nm z]; decide)
      refine Vw.iconst (v := 0) (de_iconst_0 (B 74 _ rfl)) rfl (n := 75) rfl ?_
      exact Vw.iret (de_ireturn (B 75 _ rfl)) rfl ⟨_, rfl, (by have e := h _ L f5 Lev.rfl; unfold handL at e; rw [if_neg (fun z => z.elim c_15 c_24), nI_cl (by omega), nI_cl (by omega), if_neg (fun z => z c_45), if_neg hfit] at e; exact e k5 c5)⟩
    refine Vw.bipush (v := -3) (de_bipush (B 48 _ rfl) (B 49 _ rfl)) rfl (n := 50) rfl ?_
    exact Vw.iret (de_ireturn (B 50 _ rfl)) rfl ⟨_, rfl, (by have e := h I L FW.rfl Lev.rfl; unfold handL at e; rw [if_neg (fun z => z.elim c_15 c_24), nI_cl (by omega), if_pos c_45] at e; exact e hK hC)⟩
  refine Vw.bipush (v := -2) (de_bipush (B 27 _ rfl) (B 28 _ rfl)) rfl (n := 29) rfl ?_
  exact Vw.iret (de_ireturn (B 29 _ rfl)) rfl ⟨_, rfl, (by have e := h I L FW.rfl Lev.rfl; unfold handL at e; rw [if_pos (by first | exact Or.inl c_15 | exact Or.inr c_24)] at e; exact e hK hC)⟩
theorem c_X10_clothToSew {d : Nat} {S : vS} {I : vI} {L : vL} {Q : Int32 → vS → vI → vL → Prop} {s lb np nc f q : Nat} {sz wd : Int32} {K : Nat → Int32} {W : tW} (hw : WorksS S (s + 31) s (s + 28)) (hK : TR I (s + 1) K np nc) (hN : TN K np nc) (hW : WC S I s lb W) (hlb : s + 30 ≤ lb) (hf : f < 4) (hq : q < np) (h0 : ∀ I2 M, Fr2 (s + 28) I I2 → Lev (s + 28) L M → ¬ canSew W K f q sz wd → Q (-1) S I2 M) (h : ∀ I2 M, Fr2 (s + 28) I I2 → Lev (s + 28) L M → canSew W K f q sz wd → Q (clothP W (nI q) (nI f) sz wd (K 121) (perP K q)) S I2 M) : Vc mX10_clothToSew (d + 3) 0 0 [.ref (s + 31), .int (nI f), .int (nI q), .int sz, .int wd] S I L (ViQ Q) := by
  refine Vc.of rfl (Nat.le_of_ble_eq_true rfl) ?_
  have B := bs_X10_clothToSew
  show Vw mX10_clothToSew (d + 3) 0 0 0 0 (ViQ Q) 0 [(0, .ref (s + 31)), (1, .int (nI f)), (2, .int (nI q)), (3, .int sz), (4, .int wd)] [] S I L
  have h8 := hN.1
  have h10 := hN.2.1
  have hT := hw.p0.p0
  have hR := hw.p1
  have hDj : Dj (s + 1) s (s + 28) lb := ⟨by omega, by omega, by omega, by omega⟩
  refine Vw.aload_n (de_aload_0 (B 0 _ rfl)) 0 rfl (n := 1) rfl ?_
  refine Vw.getR (de_getfield (B 1 _ rfl) (B 2 _ rfl) (B 3 _ rfl)) fl_X10_15 rfl hw.k hw.f0 (n := 4) rfl ?_
  refine Vw.getR (de_getfield (B 4 _ rfl) (B 5 _ rfl) (B 6 _ rfl)) fl_X10_23 rfl hw.p0.k hw.p0.f0 (n := 7) rfl ?_
  refine Vw.astore (lv2 := [(0, _), (1, _), (2, _), (3, _), (4, _), (5, _)]) (de_astore (B 7 _ rfl) (B 8 _ rfl)) (by decide) [1, 2, 3, 4, 5, 0] rfl (n := 9) rfl ?_
  refine Vw.aload (de_aload (B 9 _ rfl) (B 10 _ rfl)) 5 rfl (n := 11) rfl ?_
  refine Vw.getR (de_getfield (B 11 _ rfl) (B 12 _ rfl) (B 13 _ rfl)) fl_X10_35 rfl hw.p0.p0.k hw.p0.p0.f0 (n := 14) rfl ?_
  refine Vw.iload_n (de_iload_2 (B 14 _ rfl)) 2 rfl (n := 15) rfl ?_
  refine Vw.aald3 (b := 0) (de_aaload (B 15 _ rfl)) hw.p0.p0.r0 (vIx_n (k := q) rfl (by omega)) (hT.pr (show q < 8 by omega)) (n := 16) rfl ?_
  refine Vw.astore (lv2 := [(0, _), (1, _), (2, _), (3, _), (4, _), (5, _), (6, _)]) (de_astore (B 16 _ rfl) (B 17 _ rfl)) (by decide) [1, 2, 3, 4, 5, 6, 0] rfl (n := 18) rfl ?_
  refine Vw.aload_n (de_aload_0 (B 18 _ rfl)) 0 rfl (n := 19) rfl ?_
  refine Vw.getR (de_getfield (B 19 _ rfl) (B 20 _ rfl) (B 21 _ rfl)) fl_X10_19 rfl hw.k hw.f1 (n := 22) rfl ?_
  refine Vw.iload_n (de_iload_1 (B 22 _ rfl)) 1 rfl (n := 23) rfl ?_
  refine Vw.iload_n (de_iload_3 (B 23 _ rfl)) 3 rfl (n := 24) rfl ?_
  refine Vw.iload (de_iload (B 24 _ rfl) (B 25 _ rfl)) 4 rfl (n := 26) rfl ?_
  refine Vw.ivv3 (mi' := mX6_lookAtCoat) (de_invokevirtual (B 26 _ rfl) (B 27 _ rfl) (B 28 _ rfl)) ml_X10_45 mv_X6_lookAtCoat hw.p1.k (Nat.le_of_ble_eq_true rfl) (n := 29) rfl (c_X6_lookAtCoat hR (fun I2 f2 a4 a5 a6 => ?_))
  have k2 : TR I2 (s + 1) K np nc := hK.of (fun b g1 g2 => f2 b (by omega)) h8 h10
  have w2 : WC S I2 s lb W := hW.of (f2 s (by omega)) (fun b hb => f2 b (by omega))
  have r2 : Fr2 (s + 28) I I2 := fun b g1 g2 => f2 b g1
  refine Vw.aload (de_aload (B 29 _ rfl) (B 30 _ rfl)) 6 rfl (n := 31) rfl ?_
  refine Vw.iload_n (de_iload_3 (B 31 _ rfl)) 3 rfl (n := 32) rfl ?_
  refine Vw.iload (de_iload (B 32 _ rfl) (B 33 _ rfl)) 4 rfl (n := 34) rfl ?_
  refine Vw.ivi2 (mi' := mX3_fitsInto) (de_invokevirtual (B 34 _ rfl) (B 35 _ rfl) (B 36 _ rfl)) ml_X10_51 mv_X3_fitsInto (hT.pk (show q < 8 by omega)) (Nat.le_of_ble_eq_true rfl) (n := 37) rfl (c_X3_fitsInto (hT.pk (show q < 8 by omega)) ?_)
  rw [k2.per hq]
  refine Vw.if_eq (tgt := 58) (n := 40) (de_if_eq (B 37 _ rfl) (B 38 _ rfl) (B 39 _ rfl)) rfl rfl (fun c_37 => ?_) (fun c_37 => ?_)
  · refine Vw.iconst (v := -1) (de_iconst_m1 (B 58 _ rfl)) rfl (n := 59) rfl ?_
    exact Vw.iret (de_ireturn (B 59 _ rfl)) rfl ⟨_, rfl, (by first | exact h0 I2 L r2 Lev.rfl (fun z => absurd c_37 (by rw [fitP_1 z.1 z.2.1]; decide)) | exact h0 I3 M3 r3 m3 (fun z => c_55 z.2.2.1))⟩
  refine Vw.aload_n (de_aload_0 (B 40 _ rfl)) 0 rfl (n := 41) rfl ?_
  refine Vw.getR (de_getfield (B 41 _ rfl) (B 42 _ rfl) (B 43 _ rfl)) fl_X10_19 rfl hw.k hw.f1 (n := 44) rfl ?_
  refine Vw.aload (de_aload (B 44 _ rfl) (B 45 _ rfl)) 6 rfl (n := 46) rfl ?_
  refine Vw.iload_n (de_iload_2 (B 46 _ rfl)) 2 rfl (n := 47) rfl ?_
  refine Vw.aload (de_aload (B 47 _ rfl) (B 48 _ rfl)) 5 rfl (n := 49) rfl ?_
  refine Vw.getI (de_getfield (B 49 _ rfl) (B 50 _ rfl) (B 51 _ rfl)) fl_X10_55 rfl hw.p0.p0.k (n := 52) rfl ?_
  rw [k2.2.2.1]
  refine Vw.ivi3 (mi' := mX6_isBarred) (de_invokevirtual (B 52 _ rfl) (B 53 _ rfl) (B 54 _ rfl)) ml_X10_58 mv_X6_isBarred hw.p1.k (Nat.le_of_ble_eq_true rfl) (n := 55) rfl (c_X6_isBarred hR (hT.pk (show q < 8 by omega)) w2 (by omega) (fun I3 M3 f3 m3 => ?_))
  rw [k2.per hq, a4, a5, a6]
  have k3 : TR I3 (s + 1) K np nc := k2.of (fun b g1 g2 => f3 b (by omega)) h8 h10
  have w3 : WC S I3 s lb W := w2.of (f3 s (by omega)) (fun b hb => f3 b (by omega))
  have r3 : Fr2 (s + 28) I I3 := fun b g1 g2 => (f3 b g2).trans (f2 b g1)
  refine Vw.if_eq (tgt := 60) (n := 58) (de_if_eq (B 55 _ rfl) (B 56 _ rfl) (B 57 _ rfl)) rfl rfl (fun c_55 => ?_) (fun c_55 => ?_)
  · refine Vw.aload_n (de_aload_0 (B 60 _ rfl)) 0 rfl (n := 61) rfl ?_
    refine Vw.getR (de_getfield (B 61 _ rfl) (B 62 _ rfl) (B 63 _ rfl)) fl_X10_19 rfl hw.k hw.f1 (n := 64) rfl ?_
    refine Vw.aload (de_aload (B 64 _ rfl) (B 65 _ rfl)) 6 rfl (n := 66) rfl ?_
    refine Vw.iload_n (de_iload_2 (B 66 _ rfl)) 2 rfl (n := 67) rfl ?_
    refine Vw.aload (de_aload (B 67 _ rfl) (B 68 _ rfl)) 5 rfl (n := 69) rfl ?_
    refine Vw.getI (de_getfield (B 69 _ rfl) (B 70 _ rfl) (B 71 _ rfl)) fl_X10_55 rfl hw.p0.p0.k (n := 72) rfl ?_
    rw [k3.2.2.1]
    refine Vw.ivi3 (mi' := mX6_clothFor) (de_invokevirtual (B 72 _ rfl) (B 73 _ rfl) (B 74 _ rfl)) ml_X10_62 mv_X6_clothFor hw.p1.k (Nat.le_of_ble_eq_true rfl) (n := 75) rfl (c_X6_clothFor hR (hT.pk (show q < 8 by omega)) w3 (by omega) (fun I4 M4 f4 m4 => ?_))
    rw [k3.per hq, f3 (s + 28) (by omega), a4, a5, a6]
    have k4 : TR I4 (s + 1) K np nc := k3.of (fun b g1 g2 => f4 b (by omega)) h8 h10
    have r4 : Fr2 (s + 28) I I4 := fun b g1 g2 => (f4 b g2).trans (r3 b g1 g2)
    refine Vw.istore (lv2 := [(0, _), (1, _), (2, _), (3, _), (4, _), (5, _), (6, _), (7, _)]) (de_istore (B 75 _ rfl) (B 76 _ rfl)) (by decide) [1, 2, 3, 4, 5, 6, 7, 0] rfl (n := 77) rfl ?_
    refine Vw.iload (de_iload (B 77 _ rfl) (B 78 _ rfl)) 7 rfl (n := 79) rfl ?_
    refine Vw.aload (de_aload (B 79 _ rfl) (B 80 _ rfl)) 5 rfl (n := 81) rfl ?_
    refine Vw.getR (de_getfield (B 81 _ rfl) (B 82 _ rfl) (B 83 _ rfl)) fl_X10_66 rfl hw.p0.p0.k hw.p0.p0.f2 (n := 84) rfl ?_
    refine Vw.iload_n (de_iload_1 (B 84 _ rfl)) 1 rfl (n := 85) rfl ?_
    refine Vw.iald (de_iaload (B 85 _ rfl)) hw.p0.p0.r2 (vIx_n (k := f) rfl (by omega)) (n := 86) rfl ?_
    rw [(k4.2.2.2.2.2 f hf).1]
    refine Vw.icmp_le (tgt := 93) (n := 89) (de_icmp_le (B 86 _ rfl) (B 87 _ rfl) (B 88 _ rfl)) rfl rfl (fun c_86 => ?_) (fun c_86 => ?_)
    · refine Vw.iload (de_iload (B 93 _ rfl) (B 94 _ rfl)) 7 rfl (n := 95) rfl ?_
      exact Vw.iret (de_ireturn (B 95 _ rfl)) rfl ⟨_, rfl, (by first | exact h0 I4 M4 r4 (m3.trans m4) (fun z => c_86 z.2.2.2) | exact h I4 M4 r4 (m3.trans m4) ⟨fun z => c_37 (fitP_a z), fun z => c_37 (by by_cases y : sz < (perP K q).2.1; exact fitP_a y; exact fitP_b y z), c_55, c_86⟩)⟩
    skip
    refine Vw.iconst (v := -1) (de_iconst_m1 (B 89 _ rfl)) rfl (n := 90) rfl ?_
    refine Vw.goto_ (n := 95) (de_goto_ (B 90 _ rfl) (B 91 _ rfl) (B 92 _ rfl)) rfl ?_
    exact Vw.iret (de_ireturn (B 95 _ rfl)) rfl ⟨_, rfl, (by first | exact h0 I4 M4 r4 (m3.trans m4) (fun z => c_86 z.2.2.2) | exact h I4 M4 r4 (m3.trans m4) ⟨fun z => c_37 (fitP_a z), fun z => c_37 (by by_cases y : sz < (perP K q).2.1; exact fitP_a y; exact fitP_b y z), c_55, c_86⟩)⟩
  refine Vw.iconst (v := -1) (de_iconst_m1 (B 58 _ rfl)) rfl (n := 59) rfl ?_
  exact Vw.iret (de_ireturn (B 59 _ rfl)) rfl ⟨_, rfl, (by first | exact h0 I2 L r2 Lev.rfl (fun z => absurd c_37 (by rw [fitP_1 z.1 z.2.1]; decide)) | exact h0 I3 M3 r3 m3 (fun z => c_55 z.2.2.1))⟩
