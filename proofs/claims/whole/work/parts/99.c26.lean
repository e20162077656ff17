/-! The cutter: price, fillBest -/
def oCc (W : tW) (K : Nat → Int32) (t : Int32) (q k : Nat) : Int32 := if barP W (nI q) t (oSz K q k) (oWd K q k) (K 121) (perP K q) = 0 then clothP W (nI q) t (oSz K q k) (oWd K q k) (K 121) (perP K q) else -1
theorem c_X1_price {d : Nat} {S : vS} {I : vI} {L : vL} {Q : vS → vI → vL → Prop} {s lb np nc : Nat} {K : Nat → Int32} {W : tW} {q k n : Nat} {tl : Int32} (hc : CutS S (s + 65) s (s + 28) (s + 33)) (hK : TR I (s + 1) K np nc) (hN : TN K np nc) (hW : WC S I s lb W) (hlb : s + 75 ≤ lb) (hq : q < np) (hk : k < 16) (hn : n ≤ 80) (hP : PW I s (walkP W (nI q) (K 121) (perP K q)) n) (h : ∀ I2 M, (∀ b i, b ≠ s + 28 → b ≠ s + 29 → b ≠ s + 34 → ¬ (b = s + 66 ∧ i = 16 * q + k) → ¬ (b = s + 67 ∧ i = 16 * q + k) → I2 b i = I b i) → Lev (s + 28) L M → I2 (s + 66) (16 * q + k) = oCc W K tl q k → I2 (s + 67) (16 * q + k) = oPay W K tl n q k → Q S I2 M) : Vc mX1_price (d + 4) 0 0 [.ref (s + 65), .int (nI q), .int (nI k), .int tl, .int (nI n)] S I L (VvQ Q) := by
  refine Vc.of rfl (Nat.le_of_ble_eq_true rfl) ?_
  have B := bs_X1_price
  show Vw mX1_price (d + 4) 0 0 0 0 (VvQ Q) 0 [(0, .ref (s + 65)), (1, .int (nI q)), (2, .int (nI k)), (3, .int tl), (4, .int (nI n))] [] S I L
  have h8 := hN.1
  have h10 := hN.2.1
  have hp := hc.p2
  have hT := hc.p0.p0
  have hR := hc.p1
  have fin : ∀ v J M b9, (∀ b, b ≠ s + 28 → b ≠ s + 29 → J b = I b) → Lev (s + 28) L M → J (s + 28) 4 = tl → J (s + 28) 5 = oSz K q k → J (s + 28) 6 = oWd K q k → v = oCc W K tl q k → Vw mX1_price (d + 4) 0 0 0 0 (VvQ Q) 113 [(0, .ref (s + 65)), (1, .int (nI q)), (2, .int (nI k)), (3, .int tl), (4, .int (nI n)), (5, .ref (s + 1 + 5 + q)), (6, .int (oSz K q k)), (7, .int (oWd K q k)), (8, .int (nI (16 * q + k))), (9, .int b9)] [.int v, .int (nI (16 * q + k)), .ref (s + 65 + 1)] S J M := by
    intro v J M b9 fJ fM a4 a5 a6 ev
    have k2 : TR (up2 J (s + 65 + 1) (16 * q + k) v) (s + 1) K np nc := hK.of (fun b g1 g2 => by rw [up2_row (by omega)]; exact fJ b (by omega) (by omega)) h8 h10
    have w2 : WC S (up2 J (s + 65 + 1) (16 * q + k) v) s lb W := hW.of (by rw [up2_row (by omega)]; exact fJ s (by omega) (by omega)) (fun b hb => by rw [up2_row (by omega)]; exact fJ b (by omega) (by omega))
    have p2 : PW (up2 J (s + 65 + 1) (16 * q + k) v) s (walkP W (nI q) (K 121) (perP K q)) n := hP.of (fun b g1 g2 => by rw [up2_row (by omega)]; exact fJ b (by omega) (by omega))
    refine Vw.iast (de_iastore (B 113 _ rfl)) hc.r3 (vIx_n (k := 16 * q + k) rfl (by omega)) (n := 114) rfl ?_
    refine Vw.aload_n (de_aload_0 (B 114 _ rfl)) 0 rfl (n := 115) rfl ?_
    refine Vw.getR (de_getfield (B 115 _ rfl) (B 116 _ rfl) (B 117 _ rfl)) fl_X1_44 rfl hc.k hc.f2 (n := 118) rfl ?_
    refine Vw.iload (de_iload (B 118 _ rfl) (B 119 _ rfl)) 6 rfl (n := 120) rfl ?_
    refine Vw.iload (de_iload (B 120 _ rfl) (B 121 _ rfl)) 7 rfl (n := 122) rfl ?_
    refine Vw.iload (de_iload (B 122 _ rfl) (B 123 _ rfl)) 4 rfl (n := 124) rfl ?_
    refine Vw.ivi3 (mi' := mX4_firstTooSmall) (de_invokevirtual (B 124 _ rfl) (B 125 _ rfl) (B 126 _ rfl)) ml_X1_125 mv_X4_firstTooSmall hc.p2.k (Nat.le_of_ble_eq_true rfl) (n := 127) rfl (c_X4_firstTooSmall hp p2 (Nat.le_refl n) hn ?_)
    rw [show dueP (walkP W (nI q) (K 121) (perP K q)) (oSz K q k) (oWd K q k) n 1 = oDue W K n q k from rfl]
    refine Vw.istore (lv2 := [(0, _), (1, _), (2, _), (3, _), (4, _), (5, _), (6, _), (7, _), (8, _), (9, _), (10, _)]) (de_istore (B 127 _ rfl) (B 128 _ rfl)) (by decide) [1, 2, 3, 4, 5, 6, 7, 8, 9, 10, 0] rfl (n := 129) rfl ?_
    refine Vw.aload_n (de_aload_0 (B 129 _ rfl)) 0 rfl (n := 130) rfl ?_
    refine Vw.getR (de_getfield (B 130 _ rfl) (B 131 _ rfl) (B 132 _ rfl)) fl_X1_15 rfl hc.k hc.f4 (n := 133) rfl ?_
    refine Vw.iload (de_iload (B 133 _ rfl) (B 134 _ rfl)) 8 rfl (n := 135) rfl ?_
    refine Vw.iload (de_iload (B 135 _ rfl) (B 136 _ rfl)) 10 rfl (n := 137) rfl ?_
    refine Vw.iconst (v := -1) (de_iconst_m1 (B 137 _ rfl)) rfl (n := 138) rfl ?_
    refine Vw.icmp_ne (tgt := 145) (n := 141) (de_icmp_ne (B 138 _ rfl) (B 139 _ rfl) (B 140 _ rfl)) rfl rfl (fun c_138 => ?_) (fun c_138 => ?_)
    · obtain ⟨j, j1, j2, ej⟩ := (dueP_ex (f := walkP W (nI q) (K 121) (perP K q)) (a := oSz K q k) (b := oWd K q k) (m := n) (k := 1)).resolve_left c_138
      change oDue W K n q k = nI j at ej
      rw [ej]
      refine Vw.aload_n (de_aload_0 (B 145 _ rfl)) 0 rfl (n := 146) rfl ?_
      refine Vw.getR (de_getfield (B 146 _ rfl) (B 147 _ rfl) (B 148 _ rfl)) fl_X1_44 rfl hc.k hc.f2 (n := 149) rfl ?_
      refine Vw.iload (de_iload (B 149 _ rfl) (B 150 _ rfl)) 10 rfl (n := 151) rfl ?_
      refine Vw.iload_n (de_iload_1 (B 151 _ rfl)) 1 rfl (n := 152) rfl ?_
      refine Vw.ivi2 (mi' := mX4_payAt) (de_invokevirtual (B 152 _ rfl) (B 153 _ rfl) (B 154 _ rfl)) ml_X1_128 mv_X4_payAt hc.p2.k (Nat.le_of_ble_eq_true rfl) (n := 155) rfl (c_X4_payAt hp k2 hN w2 (by omega) hq p2 (show j ≤ n by omega) (by omega) (fun I4 M4 f4 m4 => ?_))
      skip
      refine Vw.iast (de_iastore (B 155 _ rfl)) hc.r4 (vIx_n (k := 16 * q + k) rfl (by omega)) (n := 156) rfl ?_
      exact Vw.vret (de_return_ (B 156 _ rfl)) rfl ⟨rfl, (by
    first
    | (have ep : oPay W K tl n q k = 0 := by unfold oPay; rw [if_pos (by first | exact c_138 | exact Classical.not_not.mp c_138)]
       exact h _ M (fun b i h1 h2 h3 h4 h5 => by rw [up2_ne (by omega), up2_ne (by omega)]; exact congrFun (fJ b h1 h2) i) fM (by rw [up2_a (by omega), show s + 66 = s + 65 + 1 from rfl, up2_s, ev]) (by rw [show s + 67 = s + 65 + 2 from rfl, up2_s, ep]))
    | (have ep : oPay W K tl n q k = payP W (nI q) tl (oSz K q k) (oWd K q k) (K 121 + nI j) (walkP W (nI q) (K 121) (perP K q) j) := by unfold oPay; rw [if_neg c_138, ej, nI_cl (by omega)]
       rw [up2_a (show s + 28 ≠ s + 65 + 1 by omega), up2_a (show s + 28 ≠ s + 65 + 1 by omega), up2_a (show s + 28 ≠ s + 65 + 1 by omega), a4, a5, a6]
       exact h _ M4 (fun b i h1 h2 h3 h4 h5 => by rw [up2_ne (by omega), f4 b h2 h3, up2_ne (by omega)]; exact congrFun (fJ b h1 h2) i) (fM.trans m4) (by rw [up2_a (by omega), f4 _ (by omega) (by omega), show s + 66 = s + 65 + 1 from rfl, up2_s, ev]) (by rw [show s + 67 = s + 65 + 2 from rfl, up2_s, ep])))⟩
    refine Vw.iconst (v := 0) (de_iconst_0 (B 141 _ rfl)) rfl (n := 142) rfl ?_
    refine Vw.goto_ (n := 155) (de_goto_ (B 142 _ rfl) (B 143 _ rfl) (B 144 _ rfl)) rfl ?_
    skip
    refine Vw.iast (de_iastore (B 155 _ rfl)) hc.r4 (vIx_n (k := 16 * q + k) rfl (by omega)) (n := 156) rfl ?_
    exact Vw.vret (de_return_ (B 156 _ rfl)) rfl ⟨rfl, (by
    first
    | (have ep : oPay W K tl n q k = 0 := by unfold oPay; rw [if_pos (by first | exact c_138 | exact Classical.not_not.mp c_138)]
       exact h _ M (fun b i h1 h2 h3 h4 h5 => by rw [up2_ne (by omega), up2_ne (by omega)]; exact congrFun (fJ b h1 h2) i) fM (by rw [up2_a (by omega), show s + 66 = s + 65 + 1 from rfl, up2_s, ev]) (by rw [show s + 67 = s + 65 + 2 from rfl, up2_s, ep]))
    | (have ep : oPay W K tl n q k = payP W (nI q) tl (oSz K q k) (oWd K q k) (K 121 + nI j) (walkP W (nI q) (K 121) (perP K q) j) := by unfold oPay; rw [if_neg c_138, ej, nI_cl (by omega)]
       rw [up2_a (show s + 28 ≠ s + 65 + 1 by omega), up2_a (show s + 28 ≠ s + 65 + 1 by omega), up2_a (show s + 28 ≠ s + 65 + 1 by omega), a4, a5, a6]
       exact h _ M4 (fun b i h1 h2 h3 h4 h5 => by rw [up2_ne (by omega), f4 b h2 h3, up2_ne (by omega)]; exact congrFun (fJ b h1 h2) i) (fM.trans m4) (by rw [up2_a (by omega), f4 _ (by omega) (by omega), show s + 66 = s + 65 + 1 from rfl, up2_s, ev]) (by rw [show s + 67 = s + 65 + 2 from rfl, up2_s, ep])))⟩
  refine Vw.aload_n (de_aload_0 (B 0 _ rfl)) 0 rfl (n := 1) rfl ?_
  refine Vw.getR (de_getfield (B 1 _ rfl) (B 2 _ rfl) (B 3 _ rfl)) fl_X1_36 rfl hc.k hc.f0 (n := 4) rfl ?_
  refine Vw.getR (de_getfield (B 4 _ rfl) (B 5 _ rfl) (B 6 _ rfl)) fl_X1_48 rfl hc.p0.k hc.p0.f0 (n := 7) rfl ?_
  refine Vw.getR (de_getfield (B 7 _ rfl) (B 8 _ rfl) (B 9 _ rfl)) fl_X1_96 rfl hc.p0.p0.k hc.p0.p0.f0 (n := 10) rfl ?_
  refine Vw.iload_n (de_iload_1 (B 10 _ rfl)) 1 rfl (n := 11) rfl ?_
  refine Vw.aald3 (b := 0) (de_aaload (B 11 _ rfl)) hc.p0.p0.r0 (vIx_n (k := q) rfl (by omega)) (hT.pr (show q < 8 by omega)) (n := 12) rfl ?_
  refine Vw.astore (lv2 := [(0, _), (1, _), (2, _), (3, _), (4, _), (5, _)]) (de_astore (B 12 _ rfl) (B 13 _ rfl)) (by decide) [1, 2, 3, 4, 5, 0] rfl (n := 14) rfl ?_
  refine Vw.aload (de_aload (B 14 _ rfl) (B 15 _ rfl)) 5 rfl (n := 16) rfl ?_
  refine Vw.getI (de_getfield (B 16 _ rfl) (B 17 _ rfl) (B 18 _ rfl)) fl_X1_100 rfl (hT.pk (show q < 8 by omega)) (n := 19) rfl ?_
  rw [hK.2.2.2.1 q 1 hq (by decide)]
  refine Vw.iload_n (de_iload_2 (B 19 _ rfl)) 2 rfl (n := 20) rfl ?_
  refine Vw.iconst (v := 4) (de_iconst_4 (B 20 _ rfl)) rfl (n := 21) rfl ?_
  refine Vw.idiv (de_idiv (B 21 _ rfl)) (by decide) (n := 22) rfl ?_
  rw [show nI k / 4 = nI (k / 4) from nI_div (a := k) (b := 4) (by omega) (by decide)]
  refine Vw.iadd (de_iadd (B 22 _ rfl)) (n := 23) rfl ?_
  rw [show K (4 * q + 1) + nI (k / 4) = oSz K q k from rfl]
  refine Vw.istore (lv2 := [(0, _), (1, _), (2, _), (3, _), (4, _), (5, _), (6, _)]) (de_istore (B 23 _ rfl) (B 24 _ rfl)) (by decide) [1, 2, 3, 4, 5, 6, 0] rfl (n := 25) rfl ?_
  refine Vw.aload (de_aload (B 25 _ rfl) (B 26 _ rfl)) 5 rfl (n := 27) rfl ?_
  refine Vw.getI (de_getfield (B 27 _ rfl) (B 28 _ rfl) (B 29 _ rfl)) fl_X1_105 rfl (hT.pk (show q < 8 by omega)) (n := 30) rfl ?_
  rw [hK.2.2.2.1 q 2 hq (by decide)]
  refine Vw.iload_n (de_iload_2 (B 30 _ rfl)) 2 rfl (n := 31) rfl ?_
  refine Vw.iconst (v := 4) (de_iconst_4 (B 31 _ rfl)) rfl (n := 32) rfl ?_
  refine Vw.irem (de_irem (B 32 _ rfl)) (by decide) (n := 33) rfl ?_
  rw [show nI k - nI k / 4 * 4 = nI (k % 4) from nI_rem (a := k) (b := 4) (by omega) (by decide)]
  refine Vw.iadd (de_iadd (B 33 _ rfl)) (n := 34) rfl ?_
  rw [show K (4 * q + 2) + nI (k % 4) = oWd K q k from rfl]
  refine Vw.istore (lv2 := [(0, _), (1, _), (2, _), (3, _), (4, _), (5, _), (6, _), (7, _)]) (de_istore (B 34 _ rfl) (B 35 _ rfl)) (by decide) [1, 2, 3, 4, 5, 6, 7, 0] rfl (n := 36) rfl ?_
  refine Vw.iload_n (de_iload_1 (B 36 _ rfl)) 1 rfl (n := 37) rfl ?_
  refine Vw.bipush (v := 16) (de_bipush (B 37 _ rfl) (B 38 _ rfl)) rfl (n := 39) rfl ?_
  refine Vw.imul (de_imul (B 39 _ rfl)) (n := 40) rfl ?_
  refine Vw.iload_n (de_iload_2 (B 40 _ rfl)) 2 rfl (n := 41) rfl ?_
  refine Vw.iadd (de_iadd (B 41 _ rfl)) (n := 42) rfl ?_
  rw [n16]
  refine Vw.istore (lv2 := [(0, _), (1, _), (2, _), (3, _), (4, _), (5, _), (6, _), (7, _), (8, _)]) (de_istore (B 42 _ rfl) (B 43 _ rfl)) (by decide) [1, 2, 3, 4, 5, 6, 7, 8, 0] rfl (n := 44) rfl ?_
  refine Vw.aload_n (de_aload_0 (B 44 _ rfl)) 0 rfl (n := 45) rfl ?_
  refine Vw.getR (de_getfield (B 45 _ rfl) (B 46 _ rfl) (B 47 _ rfl)) fl_X1_40 rfl hc.k hc.f1 (n := 48) rfl ?_
  refine Vw.iload_n (de_iload_3 (B 48 _ rfl)) 3 rfl (n := 49) rfl ?_
  refine Vw.iload (de_iload (B 49 _ rfl) (B 50 _ rfl)) 6 rfl (n := 51) rfl ?_
  refine Vw.iload (de_iload (B 51 _ rfl) (B 52 _ rfl)) 7 rfl (n := 53) rfl ?_
  refine Vw.ivv3 (mi' := mX6_lookAtCoat) (de_invokevirtual (B 53 _ rfl) (B 54 _ rfl) (B 55 _ rfl)) ml_X1_108 mv_X6_lookAtCoat hc.p1.k (Nat.le_of_ble_eq_true rfl) (n := 56) rfl (c_X6_lookAtCoat hR (fun I2 f2 a4 a5 a6 => ?_))
  have k2 : TR I2 (s + 1) K np nc := hK.of (fun b g1 g2 => f2 b (by omega)) h8 h10
  have w2 : WC S I2 s lb W := hW.of (f2 s (by omega)) (fun b hb => f2 b (by omega))
  refine Vw.aload_n (de_aload_0 (B 56 _ rfl)) 0 rfl (n := 57) rfl ?_
  refine Vw.getR (de_getfield (B 57 _ rfl) (B 58 _ rfl) (B 59 _ rfl)) fl_X1_40 rfl hc.k hc.f1 (n := 60) rfl ?_
  refine Vw.aload (de_aload (B 60 _ rfl) (B 61 _ rfl)) 5 rfl (n := 62) rfl ?_
  refine Vw.iload_n (de_iload_1 (B 62 _ rfl)) 1 rfl (n := 63) rfl ?_
  refine Vw.aload_n (de_aload_0 (B 63 _ rfl)) 0 rfl (n := 64) rfl ?_
  refine Vw.getR (de_getfield (B 64 _ rfl) (B 65 _ rfl) (B 66 _ rfl)) fl_X1_36 rfl hc.k hc.f0 (n := 67) rfl ?_
  refine Vw.getR (de_getfield (B 67 _ rfl) (B 68 _ rfl) (B 69 _ rfl)) fl_X1_48 rfl hc.p0.k hc.p0.f0 (n := 70) rfl ?_
  refine Vw.getI (de_getfield (B 70 _ rfl) (B 71 _ rfl) (B 72 _ rfl)) fl_X1_114 rfl hc.p0.p0.k (n := 73) rfl ?_
  rw [k2.2.2.1]
  refine Vw.ivi3 (mi' := mX6_isBarred) (de_invokevirtual (B 73 _ rfl) (B 74 _ rfl) (B 75 _ rfl)) ml_X1_117 mv_X6_isBarred hc.p1.k (Nat.le_of_ble_eq_true rfl) (n := 76) rfl (c_X6_isBarred hR (hT.pk (show q < 8 by omega)) w2 (by omega) (fun I3 M3 f3 m3 => ?_))
  rw [a4, a5, a6, k2.per hq]
  refine Vw.istore (lv2 := [(0, _), (1, _), (2, _), (3, _), (4, _), (5, _), (6, _), (7, _), (8, _), (9, _)]) (de_istore (B 76 _ rfl) (B 77 _ rfl)) (by decide) [1, 2, 3, 4, 5, 6, 7, 8, 9, 0] rfl (n := 78) rfl ?_
  refine Vw.aload_n (de_aload_0 (B 78 _ rfl)) 0 rfl (n := 79) rfl ?_
  refine Vw.getR (de_getfield (B 79 _ rfl) (B 80 _ rfl) (B 81 _ rfl)) fl_X1_9 rfl hc.k hc.f3 (n := 82) rfl ?_
  refine Vw.iload (de_iload (B 82 _ rfl) (B 83 _ rfl)) 8 rfl (n := 84) rfl ?_
  refine Vw.iload (de_iload (B 84 _ rfl) (B 85 _ rfl)) 9 rfl (n := 86) rfl ?_
  refine Vw.if_eq (tgt := 93) (n := 89) (de_if_eq (B 86 _ rfl) (B 87 _ rfl) (B 88 _ rfl)) rfl rfl (fun c_86 => ?_) (fun c_86 => ?_)
  · have k3 : TR I3 (s + 1) K np nc := k2.of (fun b g1 g2 => f3 b (by omega)) h8 h10
    have w3 : WC S I3 s lb W := w2.of (f3 s (by omega)) (fun b hb => f3 b (by omega))
    refine Vw.aload_n (de_aload_0 (B 93 _ rfl)) 0 rfl (n := 94) rfl ?_
    refine Vw.getR (de_getfield (B 94 _ rfl) (B 95 _ rfl) (B 96 _ rfl)) fl_X1_40 rfl hc.k hc.f1 (n := 97) rfl ?_
    refine Vw.aload (de_aload (B 97 _ rfl) (B 98 _ rfl)) 5 rfl (n := 99) rfl ?_
    refine Vw.iload_n (de_iload_1 (B 99 _ rfl)) 1 rfl (n := 100) rfl ?_
    refine Vw.aload_n (de_aload_0 (B 100 _ rfl)) 0 rfl (n := 101) rfl ?_
    refine Vw.getR (de_getfield (B 101 _ rfl) (B 102 _ rfl) (B 103 _ rfl)) fl_X1_36 rfl hc.k hc.f0 (n := 104) rfl ?_
    refine Vw.getR (de_getfield (B 104 _ rfl) (B 105 _ rfl) (B 106 _ rfl)) fl_X1_48 rfl hc.p0.k hc.p0.f0 (n := 107) rfl ?_
    refine Vw.getI (de_getfield (B 107 _ rfl) (B 108 _ rfl) (B 109 _ rfl)) fl_X1_114 rfl hc.p0.p0.k (n := 110) rfl ?_
    rw [k3.2.2.1]
    refine Vw.ivi3 (mi' := mX6_clothFor) (de_invokevirtual (B 110 _ rfl) (B 111 _ rfl) (B 112 _ rfl)) ml_X1_121 mv_X6_clothFor hc.p1.k (Nat.le_of_ble_eq_true rfl) (n := 113) rfl (c_X6_clothFor hR (hT.pk (show q < 8 by omega)) w3 (by omega) (fun I4 M4 f4 m4 => ?_))
    first
    | (refine fin _ I4 M4 _ (fun b h1 h2 => ((f4 b h2).trans (f3 b h2)).trans (f2 b h1)) (m3.trans m4) ?_ ?_ ?_ ?_
       · rw [f4 _ (by omega), f3 _ (by omega)]; exact a4
       · rw [f4 _ (by omega), f3 _ (by omega)]; exact a5
       · rw [f4 _ (by omega), f3 _ (by omega)]; exact a6
       · rw [f3 _ (by omega), a4, a5, a6, k3.per hq]; unfold oCc; rw [if_pos c_86])
    | (refine fin _ I3 M3 _ (fun b h1 h2 => (f3 b h2).trans (f2 b h1)) m3 ?_ ?_ ?_ ?_
       · rw [f3 _ (by omega)]; exact a4
       · rw [f3 _ (by omega)]; exact a5
       · rw [f3 _ (by omega)]; exact a6
       · unfold oCc; rw [if_neg c_86])
  refine Vw.iconst (v := -1) (de_iconst_m1 (B 89 _ rfl)) rfl (n := 90) rfl ?_
  refine Vw.goto_ (n := 113) (de_goto_ (B 90 _ rfl) (B 91 _ rfl) (B 92 _ rfl)) rfl ?_
  first
  | (refine fin _ I4 M4 _ (fun b h1 h2 => ((f4 b h2).trans (f3 b h2)).trans (f2 b h1)) (m3.trans m4) ?_ ?_ ?_ ?_
     · rw [f4 _ (by omega), f3 _ (by omega)]; exact a4
     · rw [f4 _ (by omega), f3 _ (by omega)]; exact a5
     · rw [f4 _ (by omega), f3 _ (by omega)]; exact a6
     · rw [f3 _ (by omega), a4, a5, a6, k3.per hq]; unfold oCc; rw [if_pos c_86])
  | (refine fin _ I3 M3 _ (fun b h1 h2 => (f3 b h2).trans (f2 b h1)) m3 ?_ ?_ ?_ ?_
     · rw [f3 _ (by omega)]; exact a4
     · rw [f3 _ (by omega)]; exact a5
     · rw [f3 _ (by omega)]; exact a6
     · unfold oCc; rw [if_neg c_86])
/-- one person's choices as the class keeps them -/
def OptQ (I : vI) (s q : Nat) (cn pn : Nat → Nat) : Prop := ∀ k, k < 16 → ((I (s + 66) (16 * q + k) = -1 ∧ 1000 ≤ cn k) ∨ I (s + 66) (16 * q + k) = nI (cn k)) ∧ cn k ≤ 1000000 ∧ I (s + 67) (16 * q + k) = nI (pn k) ∧ pn k ≤ 999
theorem OptQ.of {I J : vI} {s q : Nat} {cn pn : Nat → Nat} (h : OptQ I s q cn pn) (e1 : ∀ k, k < 16 → J (s + 66) (16 * q + k) = I (s + 66) (16 * q + k)) (e2 : ∀ k, k < 16 → J (s + 67) (16 * q + k) = I (s + 67) (16 * q + k)) : OptQ J s q cn pn := fun k hk => by rw [e1 k hk, e2 k hk]; exact h k hk
theorem c_X1_fillBest {d : Nat} {S : vS} {I : vI} {L : vL} {Q : vS → vI → vL → Prop} {s q cl n : Nat} {cn pn g : Nat → Nat} (hc : CutS S (s + 65) s (s + 28) (s + 33)) (hq : q < 8) (hcl : cl ≤ 999) (hO : OptQ I s q cn pn) (hg : ∀ c, c ≤ cl → I (s + 68) (1000 * (q + 1) + c) = nI (g c) ∧ g c ≤ 50000) (hm : ∀ x y, x ≤ y → y ≤ cl → g x ≤ g y) (hS : Stq I s g (cl + 1) n) (h : ∀ I2 n2, (∀ b i, ¬ (b = s + 65 ∧ i = 8) → ¬ (b = s + 68 ∧ 1000 * q ≤ i ∧ i ≤ 1000 * q + cl) → b ≠ s + 69 → b ≠ s + 70 → I2 b i = I b i) → (∀ c, c ≤ cl → I2 (s + 68) (1000 * q + c) = nI (mxB cn pn g c 16)) → Stq I2 s (fun c => mxB cn pn g c 16) (cl + 1) n2 → Q S I2 L) : Vc mX1_fillBest (d + 1) 0 0 [.ref (s + 65), .int (nI q), .int (nI cl)] S I L (VvQ Q) := by
  refine Vc.of rfl (Nat.le_of_ble_eq_true rfl) ?_
  have B := bs_X1_fillBest
  show Vw mX1_fillBest (d + 1) 0 0 0 0 (VvQ Q) 0 [(0, .ref (s + 65)), (1, .int (nI q)), (2, .int (nI cl))] [] S I L
  obtain ⟨s1, s2, sc, s3, s4, s5⟩ := hS
  have hb16 : ∀ c, c ≤ cl → mxB cn pn g c 16 ≤ 60000 := fun c hc2 => by
    have := mxB_b (cn := cn) (pn := pn) (g := g) (c := c) (k := 16) (G := 50000) (fun x hx => (hg x (by omega)).2) (fun j hj => (hO j hj).2.2.2)
    omega
  have loop : ∀ k, k ≤ 16 → ∀ (J : vI) (f : Nat → Nat), (∀ b i, ¬ (b = s + 68 ∧ 1000 * q ≤ i ∧ i ≤ 1000 * q + cl) → J b i = I b i) → (∀ c, c ≤ cl → J (s + 68) (1000 * q + c) = nI (f c)) → (∀ c, c ≤ cl → f c ≤ mxB cn pn g c 16) → (∀ c, c ≤ cl → g c ≤ f c) → (∀ j, j < k → ∀ i, i < n → 0 < pn j → cn j + sc i ≤ cl → pn j + g (sc i) ≤ f (cn j + sc i)) → Vw mX1_fillBest (d + 1) 0 0 0 0 (VvQ Q) 29 [(0, .ref (s + 65)), (1, .int (nI q)), (2, .int (nI cl)), (3, .int (nI (1000 * q))), (4, .int (nI k))] [] S J L := by
    refine loop_up (fun k hk ih => ?_)
    intro J f fJ eJ uJ lJ kJ
    have inner : k < 16 → 0 < pn k → J (s + 66) (16 * q + k) = nI (cn k) → ∀ i, i ≤ n → ∀ (J : vI) (f : Nat → Nat), (∀ b i, ¬ (b = s + 68 ∧ 1000 * q ≤ i ∧ i ≤ 1000 * q + cl) → J b i = I b i) → (∀ c, c ≤ cl → J (s + 68) (1000 * q + c) = nI (f c)) → (∀ c, c ≤ cl → f c ≤ mxB cn pn g c 16) → (∀ c, c ≤ cl → g c ≤ f c) → (∀ j, j < k → ∀ i, i < n → 0 < pn j → cn j + sc i ≤ cl → pn j + g (sc i) ≤ f (cn j + sc i)) → (∀ x, x < i → cn k + sc x ≤ cl → pn k + g (sc x) ≤ f (cn k + sc x)) → Vw mX1_fillBest (d + 1) 0 0 0 0 (VvQ Q) 78 [(0, .ref (s + 65)), (1, .int (nI q)), (2, .int (nI cl)), (3, .int (nI (1000 * q))), (4, .int (nI k)), (5, .int (nI (cn k))), (6, .int (nI (pn k))), (7, .int (nI i))] [] S J L := by
      intro hk16 hp0 _
      obtain ⟨-, o2, o3, o4⟩ := hO k hk16
      refine loop_up (fun i hi ih2 => ?_)
      intro J f fJ eJ uJ lJ kJ xJ
      have e8 : J (s + 65) 8 = nI n := by rw [fJ _ _ (by omega)]; exact s2
      refine Vw.iload (de_iload (B 78 _ rfl) (B 79 _ rfl)) 7 rfl (n := 80) rfl ?_
      refine Vw.aload_n (de_aload_0 (B 80 _ rfl)) 0 rfl (n := 81) rfl ?_
      refine Vw.getI (de_getfield (B 81 _ rfl) (B 82 _ rfl) (B 83 _ rfl)) fl_X1_138 rfl hc.k (n := 84) rfl ?_
      rw [e8]
      refine Vw.icmp_ge (tgt := 148) (n := 87) (de_icmp_ge (B 84 _ rfl) (B 85 _ rfl) (B 86 _ rfl)) rfl rfl (fun c_84 => ?_) (fun c_84 => ?_)
      · refine Vw.iinc (v := nI (k + 1)) (lv2 := [(0, _), (1, _), (2, _), (3, _), (4, _), (5, _), (6, _), (7, _)]) (de_iinc (B 148 _ rfl) (B 149 _ rfl) (B 150 _ rfl)) 4 rfl (nI_1 k) (by decide) [1, 2, 3, 4, 0, 5, 6, 7] rfl (n := 151) rfl ?_
        refine Vw.goto_ (n := 29) (de_goto_ (B 151 _ rfl) (B 152 _ rfl) (B 153 _ rfl)) rfl ?_
        refine Vw.lvs (lv2 := [(0, _), (1, _), (2, _), (3, _), (4, _)]) [0, 1, 2, 3, 4] rfl ?_
        refine ih (by omega) J f fJ eJ uJ lJ (fun j hj y hy h1 h2 => ?_)
        rcases (show j = k ∨ j < k by omega) with e | e
        · subst e
          rcases Nat.lt_or_ge y i with z | z
          · exact xJ y z h2
          · exfalso
            first
            | (have z_84 : n ≤ i := (nI_leI (a := n) (b := i) (by omega) (by omega)).mp c_84
               omega)
            | (have z_98 : cl < cn j + sc i := by
                 rcases Nat.lt_or_ge cl (cn j + sc i) with q0 | q0
                 · exact q0
                 · exact absurd ((nI_leI (a := cn j + sc i) (b := cl) (by omega) (by omega)).mpr q0) (Int32.not_le.mpr c_98)
               rcases (show y = i ∨ i < y by omega) with e2 | e2
               · subst e2; omega
               · have := s4 i y e2 hy
                 omega)
        · exact kJ j e y hy h1 h2
      have z_84 : i < n := by rcases Nat.lt_or_ge i n with z | z; exact z; exact absurd ((nI_leI (a := n) (b := i) (by omega) (by omega)).mpr z) c_84
      obtain ⟨t1, t2, t3⟩ := s3 i z_84
      have t2J : J (s + 65 + 4) i = nI (sc i) := by rw [show s + 65 + 4 = s + 69 from rfl, fJ _ _ (by omega)]; exact t2
      have t3J : J (s + 65 + 5) i = nI (g (sc i)) := by rw [show s + 65 + 5 = s + 70 from rfl, fJ _ _ (by omega)]; exact t3
      refine Vw.iload (de_iload (B 87 _ rfl) (B 88 _ rfl)) 5 rfl (n := 89) rfl ?_
      refine Vw.aload_n (de_aload_0 (B 89 _ rfl)) 0 rfl (n := 90) rfl ?_
      refine Vw.getR (de_getfield (B 90 _ rfl) (B 91 _ rfl) (B 92 _ rfl)) fl_X1_21 rfl hc.k hc.f6 (n := 93) rfl ?_
      refine Vw.iload (de_iload (B 93 _ rfl) (B 94 _ rfl)) 7 rfl (n := 95) rfl ?_
      refine Vw.iald (de_iaload (B 95 _ rfl)) hc.r6 (vIx_n (k := i) rfl (by omega)) (n := 96) rfl ?_
      rw [t2J]
      refine Vw.iadd (de_iadd (B 96 _ rfl)) (n := 97) rfl ?_
      rw [← nI_A]
      refine Vw.iload_n (de_iload_2 (B 97 _ rfl)) 2 rfl (n := 98) rfl ?_
      refine Vw.icmp_gt (tgt := 148) (n := 101) (de_icmp_gt (B 98 _ rfl) (B 99 _ rfl) (B 100 _ rfl)) rfl rfl (fun c_98 => ?_) (fun c_98 => ?_)
      · refine Vw.iinc (v := nI (k + 1)) (lv2 := [(0, _), (1, _), (2, _), (3, _), (4, _), (5, _), (6, _), (7, _)]) (de_iinc (B 148 _ rfl) (B 149 _ rfl) (B 150 _ rfl)) 4 rfl (nI_1 k) (by decide) [1, 2, 3, 4, 0, 5, 6, 7] rfl (n := 151) rfl ?_
        refine Vw.goto_ (n := 29) (de_goto_ (B 151 _ rfl) (B 152 _ rfl) (B 153 _ rfl)) rfl ?_
        refine Vw.lvs (lv2 := [(0, _), (1, _), (2, _), (3, _), (4, _)]) [0, 1, 2, 3, 4] rfl ?_
        refine ih (by omega) J f fJ eJ uJ lJ (fun j hj y hy h1 h2 => ?_)
        rcases (show j = k ∨ j < k by omega) with e | e
        · subst e
          rcases Nat.lt_or_ge y i with z | z
          · exact xJ y z h2
          · exfalso
            first
            | (have z_84 : n ≤ i := (nI_leI (a := n) (b := i) (by omega) (by omega)).mp c_84
               omega)
            | (have z_98 : cl < cn j + sc i := by
                 rcases Nat.lt_or_ge cl (cn j + sc i) with q0 | q0
                 · exact q0
                 · exact absurd ((nI_leI (a := cn j + sc i) (b := cl) (by omega) (by omega)).mpr q0) (Int32.not_le.mpr c_98)
               rcases (show y = i ∨ i < y by omega) with e2 | e2
               · subst e2; omega
               · have := s4 i y e2 hy
                 omega)
        · exact kJ j e y hy h1 h2
      have z_98 : cn k + sc i ≤ cl := (nI_leI (a := cn k + sc i) (b := cl) (by omega) (by omega)).mp (Int32.not_lt.mp c_98)
      refine Vw.iload_n (de_iload_3 (B 101 _ rfl)) 3 rfl (n := 102) rfl ?_
      refine Vw.iload (de_iload (B 102 _ rfl) (B 103 _ rfl)) 5 rfl (n := 104) rfl ?_
      refine Vw.iadd (de_iadd (B 104 _ rfl)) (n := 105) rfl ?_
      refine Vw.aload_n (de_aload_0 (B 105 _ rfl)) 0 rfl (n := 106) rfl ?_
      refine Vw.getR (de_getfield (B 106 _ rfl) (B 107 _ rfl) (B 108 _ rfl)) fl_X1_21 rfl hc.k hc.f6 (n := 109) rfl ?_
      refine Vw.iload (de_iload (B 109 _ rfl) (B 110 _ rfl)) 7 rfl (n := 111) rfl ?_
      refine Vw.iald (de_iaload (B 111 _ rfl)) hc.r6 (vIx_n (k := i) rfl (by omega)) (n := 112) rfl ?_
      rw [t2J]
      refine Vw.iadd (de_iadd (B 112 _ rfl)) (n := 113) rfl ?_
      rw [← nI_A, ← nI_A, Nat.add_assoc]
      refine Vw.istore (lv2 := [(0, _), (1, _), (2, _), (3, _), (4, _), (5, _), (6, _), (7, _), (8, _)]) (de_istore (B 113 _ rfl) (B 114 _ rfl)) (by decide) [1, 2, 3, 4, 5, 6, 7, 8, 0] rfl (n := 115) rfl ?_
      refine Vw.aload_n (de_aload_0 (B 115 _ rfl)) 0 rfl (n := 116) rfl ?_
      refine Vw.getR (de_getfield (B 116 _ rfl) (B 117 _ rfl) (B 118 _ rfl)) fl_X1_18 rfl hc.k hc.f5 (n := 119) rfl ?_
      refine Vw.iload (de_iload (B 119 _ rfl) (B 120 _ rfl)) 8 rfl (n := 121) rfl ?_
      refine Vw.aload_n (de_aload_0 (B 121 _ rfl)) 0 rfl (n := 122) rfl ?_
      refine Vw.getR (de_getfield (B 122 _ rfl) (B 123 _ rfl) (B 124 _ rfl)) fl_X1_18 rfl hc.k hc.f5 (n := 125) rfl ?_
      refine Vw.iload (de_iload (B 125 _ rfl) (B 126 _ rfl)) 8 rfl (n := 127) rfl ?_
      refine Vw.iald (de_iaload (B 127 _ rfl)) hc.r5 (vIx_n (k := 1000 * q + (cn k + sc i)) rfl (by omega)) (n := 128) rfl ?_
      rw [show J (s + 65 + 3) (1000 * q + (cn k + sc i)) = nI (f (cn k + sc i)) from eJ _ z_98]
      refine Vw.iload (de_iload (B 128 _ rfl) (B 129 _ rfl)) 6 rfl (n := 130) rfl ?_
      refine Vw.aload_n (de_aload_0 (B 130 _ rfl)) 0 rfl (n := 131) rfl ?_
      refine Vw.getR (de_getfield (B 131 _ rfl) (B 132 _ rfl) (B 133 _ rfl)) fl_X1_24 rfl hc.k hc.f7 (n := 134) rfl ?_
      refine Vw.iload (de_iload (B 134 _ rfl) (B 135 _ rfl)) 7 rfl (n := 136) rfl ?_
      refine Vw.iald (de_iaload (B 136 _ rfl)) hc.r7 (vIx_n (k := i) rfl (by omega)) (n := 137) rfl ?_
      rw [t3J]
      refine Vw.iadd (de_iadd (B 137 _ rfl)) (n := 138) rfl ?_
      rw [← nI_A]
      refine Vw.mmaxI (de_invokestatic (B 138 _ rfl) (B 139 _ rfl) (B 140 _ rfl)) ml_X1_141 (Nat.le_of_ble_eq_true rfl) (n := 141) rfl ?_
      have uu := uJ (cn k + sc i) z_98
      have uh := hb16 (cn k + sc i) z_98
      have hgs := (hg (sc i) (by omega)).2
      rw [zMax_nI (by omega) (by omega)]
      refine Vw.iast (de_iastore (B 141 _ rfl)) hc.r5 (vIx_n (k := 1000 * q + (cn k + sc i)) rfl (by omega)) (n := 142) rfl ?_
      refine Vw.iinc (v := nI (i + 1)) (lv2 := [(0, _), (1, _), (2, _), (3, _), (4, _), (5, _), (6, _), (7, _), (8, _)]) (de_iinc (B 142 _ rfl) (B 143 _ rfl) (B 144 _ rfl)) 7 rfl (nI_1 i) (by decide) [1, 2, 3, 4, 5, 6, 7, 0, 8] rfl (n := 145) rfl ?_
      refine Vw.goto_ (n := 78) (de_goto_ (B 145 _ rfl) (B 146 _ rfl) (B 147 _ rfl)) rfl ?_
      refine Vw.lvs (lv2 := [(0, _), (1, _), (2, _), (3, _), (4, _), (5, _), (6, _), (7, _)]) [0, 1, 2, 3, 4, 5, 6, 7] rfl ?_
      have um : pn k + g (sc i) ≤ mxB cn pn g (cn k + sc i) 16 := by
        have := mxB_j (cn := cn) (pn := pn) (g := g) (c := cn k + sc i) (j := k) (Nat.le_add_right _ _) hk16
        rw [show cn k + sc i - cn k = sc i by omega] at this
        exact this
      refine ih2 z_84 _ (fun x => if x = cn k + sc i then (if pn k + g (sc i) ≤ f (cn k + sc i) then f (cn k + sc i) else pn k + g (sc i)) else f x) (fun b y hb => by rw [up2_ne (by omega)]; exact fJ b y hb) (fun c hc2 => ?_) (fun c hc2 => ?_) (fun c hc2 => ?_) (fun j hj y hy h1 h2 => ?_) (fun y hy h2 => ?_)
      · by_cases z : c = cn k + sc i
        · rw [if_pos z, z]; exact up2_s _ _ _ _
        · rw [if_neg z, up2_ne (by omega)]; exact eJ c hc2
      · by_cases z : c = cn k + sc i
        · simp only [if_pos z]; rw [z]; split <;> omega
        · simp only [if_neg z]; exact uJ c hc2
      · by_cases z : c = cn k + sc i
        · simp only [if_pos z]; have := lJ c hc2; rw [z] at this ⊢; split <;> omega
        · simp only [if_neg z]; exact lJ c hc2
      · have hh := kJ j hj y hy h1 h2
        by_cases z : cn j + sc y = cn k + sc i
        · simp only [if_pos z]; rw [z] at hh; split <;> omega
        · simp only [if_neg z]; exact hh
      · rcases (show y = i ∨ y < i by omega) with e | e
        · subst e; simp only [if_true]; split <;> omega
        · have hh := xJ y e h2
          by_cases z : cn k + sc y = cn k + sc i
          · simp only [if_pos z]; rw [z] at hh; split <;> omega
          · simp only [if_neg z]; exact hh
    refine Vw.iload (de_iload (B 29 _ rfl) (B 30 _ rfl)) 4 rfl (n := 31) rfl ?_
    refine Vw.bipush (v := 16) (de_bipush (B 31 _ rfl) (B 32 _ rfl)) rfl (n := 33) rfl ?_
    refine Vw.icmp_ge (tgt := 154) (n := 36) (de_icmp_ge (B 33 _ rfl) (B 34 _ rfl) (B 35 _ rfl)) rfl rfl (fun c_33 => ?_) (fun c_33 => ?_)
    · have z_33 : 16 ≤ k := ((nI_leI (a := 16) (b := k) (by omega) (by omega)).mp c_33)
      obtain rfl : k = 16 := by omega
      have er : ∀ c, c ≤ cl → rmx f c = mxB cn pn g c 16 := fun c hc2 => fill_mx (sc := sc) hc2 hm s5 uJ lJ kJ
      refine Vw.aload_n (de_aload_0 (B 154 _ rfl)) 0 rfl (n := 155) rfl ?_
      refine Vw.iload_n (de_iload_3 (B 155 _ rfl)) 3 rfl (n := 156) rfl ?_
      refine Vw.iload_n (de_iload_2 (B 156 _ rfl)) 2 rfl (n := 157) rfl ?_
      refine Vw.ivv2 (mi' := mX1_findSteps) (de_invokevirtual (B 157 _ rfl) (B 158 _ rfl) (B 159 _ rfl)) ml_X1_83 mv_X1_findSteps hc.k (Nat.le_of_ble_eq_true rfl) (n := 160) rfl (c_X1_findSteps (f := f) hc (by omega) hcl (fun c hc2 => ⟨eJ c hc2, Nat.le_trans (uJ c hc2) (Nat.le_trans (hb16 c hc2) (by decide))⟩) (fun I3 n3 f3 e3 st3 => ?_))
      exact Vw.vret (de_return_ (B 160 _ rfl)) rfl ⟨rfl, (h I3 n3 (fun b i h1 h2 h3 h4 => by rw [f3 b i h1 h2 h3 h4]; exact fJ b i h2) (fun c hc2 => by rw [e3 c hc2, er c hc2]) (st3.of (fun c hc2 => er c (by omega)) rfl rfl rfl))⟩
    have z_33 : k < 16 := by rcases Nat.lt_or_ge k 16 with z | z; exact z; exact absurd ((nI_leI (a := 16) (b := k) (by omega) (by omega)).mpr z) c_33
    obtain ⟨o1, o2, o3, o4⟩ := hO k z_33
    have j6 : ∀ x, J (s + 66) x = I (s + 66) x := fun x => fJ _ _ (by omega)
    have j7 : ∀ x, J (s + 67) x = I (s + 67) x := fun x => fJ _ _ (by omega)
    refine Vw.aload_n (de_aload_0 (B 36 _ rfl)) 0 rfl (n := 37) rfl ?_
    refine Vw.getR (de_getfield (B 37 _ rfl) (B 38 _ rfl) (B 39 _ rfl)) fl_X1_9 rfl hc.k hc.f3 (n := 40) rfl ?_
    refine Vw.iload_n (de_iload_1 (B 40 _ rfl)) 1 rfl (n := 41) rfl ?_
    refine Vw.bipush (v := 16) (de_bipush (B 41 _ rfl) (B 42 _ rfl)) rfl (n := 43) rfl ?_
    refine Vw.imul (de_imul (B 43 _ rfl)) (n := 44) rfl ?_
    refine Vw.iload (de_iload (B 44 _ rfl) (B 45 _ rfl)) 4 rfl (n := 46) rfl ?_
    skip
    refine Vw.iadd (de_iadd (B 46 _ rfl)) (n := 47) rfl ?_
    refine Vw.iald (de_iaload (B 47 _ rfl)) hc.r3 (vIx_n (k := 16 * q + k) n16 (by omega)) (n := 48) rfl ?_
    rw [show J (s + 65 + 1) (16 * q + k) = I (s + 66) (16 * q + k) from j6 _]
    refine Vw.istore (lv2 := [(0, _), (1, _), (2, _), (3, _), (4, _), (5, _)]) (de_istore (B 48 _ rfl) (B 49 _ rfl)) (by decide) [1, 2, 3, 4, 5, 0] rfl (n := 50) rfl ?_
    refine Vw.aload_n (de_aload_0 (B 50 _ rfl)) 0 rfl (n := 51) rfl ?_
    refine Vw.getR (de_getfield (B 51 _ rfl) (B 52 _ rfl) (B 53 _ rfl)) fl_X1_15 rfl hc.k hc.f4 (n := 54) rfl ?_
    refine Vw.iload_n (de_iload_1 (B 54 _ rfl)) 1 rfl (n := 55) rfl ?_
    refine Vw.bipush (v := 16) (de_bipush (B 55 _ rfl) (B 56 _ rfl)) rfl (n := 57) rfl ?_
    refine Vw.imul (de_imul (B 57 _ rfl)) (n := 58) rfl ?_
    refine Vw.iload (de_iload (B 58 _ rfl) (B 59 _ rfl)) 4 rfl (n := 60) rfl ?_
    refine Vw.iadd (de_iadd (B 60 _ rfl)) (n := 61) rfl ?_
    refine Vw.iald (de_iaload (B 61 _ rfl)) hc.r4 (vIx_n (k := 16 * q + k) n16 (by omega)) (n := 62) rfl ?_
    rw [show J (s + 65 + 2) (16 * q + k) = nI (pn k) from (j7 _).trans o3]
    refine Vw.istore (lv2 := [(0, _), (1, _), (2, _), (3, _), (4, _), (5, _), (6, _)]) (de_istore (B 62 _ rfl) (B 63 _ rfl)) (by decide) [1, 2, 3, 4, 5, 6, 0] rfl (n := 64) rfl ?_
    refine Vw.iload (de_iload (B 64 _ rfl) (B 65 _ rfl)) 5 rfl (n := 66) rfl ?_
    refine Vw.iconst (v := -1) (de_iconst_m1 (B 66 _ rfl)) rfl (n := 67) rfl ?_
    refine Vw.icmp_eq (tgt := 148) (n := 70) (de_icmp_eq (B 67 _ rfl) (B 68 _ rfl) (B 69 _ rfl)) rfl rfl (fun c_67 => ?_) (fun c_67 => ?_)
    · refine Vw.iinc (v := nI (k + 1)) (lv2 := [(0, _), (1, _), (2, _), (3, _), (4, _), (5, _), (6, _)]) (de_iinc (B 148 _ rfl) (B 149 _ rfl) (B 150 _ rfl)) 4 rfl (nI_1 k) (by decide) [1, 2, 3, 4, 0, 5, 6] rfl (n := 151) rfl ?_
      refine Vw.goto_ (n := 29) (de_goto_ (B 151 _ rfl) (B 152 _ rfl) (B 153 _ rfl)) rfl ?_
      refine Vw.lvs (lv2 := [(0, _), (1, _), (2, _), (3, _), (4, _)]) [0, 1, 2, 3, 4] rfl ?_
      first
      | (refine ih z_33 J f fJ eJ uJ lJ (fun j hj y hy h1 h2 => ?_)
         rcases (show j = k ∨ j < k by omega) with e | e
         · exfalso
           subst e
           first
           | (rcases o1 with ⟨_, o1⟩ | o1
              · omega
              · rw [o1] at c_67; exact absurd c_67 (nI_m1 (by omega)))
           | (have c72 := (nI_leI (a := pn j) (b := 0) (by omega) (by omega)).mp c_72
              omega)
         · exact kJ j e y hy h1 h2)
    refine Vw.iload (de_iload (B 70 _ rfl) (B 71 _ rfl)) 6 rfl (n := 72) rfl ?_
    refine Vw.if_le (tgt := 148) (n := 75) (de_if_le (B 72 _ rfl) (B 73 _ rfl) (B 74 _ rfl)) rfl rfl (fun c_72 => ?_) (fun c_72 => ?_)
    · refine Vw.iinc (v := nI (k + 1)) (lv2 := [(0, _), (1, _), (2, _), (3, _), (4, _), (5, _), (6, _)]) (de_iinc (B 148 _ rfl) (B 149 _ rfl) (B 150 _ rfl)) 4 rfl (nI_1 k) (by decide) [1, 2, 3, 4, 0, 5, 6] rfl (n := 151) rfl ?_
      refine Vw.goto_ (n := 29) (de_goto_ (B 151 _ rfl) (B 152 _ rfl) (B 153 _ rfl)) rfl ?_
      refine Vw.lvs (lv2 := [(0, _), (1, _), (2, _), (3, _), (4, _)]) [0, 1, 2, 3, 4] rfl ?_
      first
      | (refine ih z_33 J f fJ eJ uJ lJ (fun j hj y hy h1 h2 => ?_)
         rcases (show j = k ∨ j < k by omega) with e | e
         · exfalso
           subst e
           first
           | (rcases o1 with ⟨_, o1⟩ | o1
              · omega
              · rw [o1] at c_67; exact absurd c_67 (nI_m1 (by omega)))
           | (have c72 := (nI_leI (a := pn j) (b := 0) (by omega) (by omega)).mp c_72
              omega)
         · exact kJ j e y hy h1 h2)
    have o1b : I (s + 66) (16 * q + k) = nI (cn k) := o1.resolve_left (fun z => c_67 z.1)
    have p0 : 0 < pn k := by
      rcases Nat.eq_zero_or_pos (pn k) with z | z
      · exact absurd (by rw [z]; decide) c_72
      · exact z
    rw [o1b]
    refine Vw.iconst (v := 0) (de_iconst_0 (B 75 _ rfl)) rfl (n := 76) rfl ?_
    refine Vw.istore (lv2 := [(0, _), (1, _), (2, _), (3, _), (4, _), (5, _), (6, _), (7, _)]) (de_istore (B 76 _ rfl) (B 77 _ rfl)) (by decide) [1, 2, 3, 4, 5, 6, 7, 0] rfl (n := 78) rfl ?_
    exact inner z_33 p0 ((j6 _).trans o1b) 0 (Nat.zero_le _) J f fJ eJ uJ lJ kJ (fun x hx => absurd hx (Nat.not_lt_zero _))
  refine Vw.iload_n (de_iload_1 (B 0 _ rfl)) 1 rfl (n := 1) rfl ?_
  refine Vw.sipush (v := 1000) (de_sipush (B 1 _ rfl) (B 2 _ rfl) (B 3 _ rfl)) rfl (n := 4) rfl ?_
  refine Vw.imul (de_imul (B 4 _ rfl)) (n := 5) rfl ?_
  rw [n1000]
  refine Vw.istore_n (lv2 := [(0, _), (1, _), (2, _), (3, _)]) (de_istore_3 (B 5 _ rfl)) rfl (by decide) [1, 2, 3, 0] rfl (n := 6) rfl ?_
  refine Vw.aload_n (de_aload_0 (B 6 _ rfl)) 0 rfl (n := 7) rfl ?_
  refine Vw.getR (de_getfield (B 7 _ rfl) (B 8 _ rfl) (B 9 _ rfl)) fl_X1_18 rfl hc.k hc.f5 (n := 10) rfl ?_
  refine Vw.iload_n (de_iload_3 (B 10 _ rfl)) 3 rfl (n := 11) rfl ?_
  refine Vw.sipush (v := 1000) (de_sipush (B 11 _ rfl) (B 12 _ rfl) (B 13 _ rfl)) rfl (n := 14) rfl ?_
  refine Vw.iadd (de_iadd (B 14 _ rfl)) (n := 15) rfl ?_
  rw [show nI (1000 * q) + 1000 = nI (1000 * (q + 1)) by rw [Nat.mul_add, nI_A]; rfl]
  refine Vw.aload_n (de_aload_0 (B 15 _ rfl)) 0 rfl (n := 16) rfl ?_
  refine Vw.getR (de_getfield (B 16 _ rfl) (B 17 _ rfl) (B 18 _ rfl)) fl_X1_18 rfl hc.k hc.f5 (n := 19) rfl ?_
  refine Vw.iload_n (de_iload_3 (B 19 _ rfl)) 3 rfl (n := 20) rfl ?_
  refine Vw.iload_n (de_iload_2 (B 20 _ rfl)) 2 rfl (n := 21) rfl ?_
  refine Vw.iconst (v := 1) (de_iconst_1 (B 21 _ rfl)) rfl (n := 22) rfl ?_
  refine Vw.iadd (de_iadd (B 22 _ rfl)) (n := 23) rfl ?_
  rw [nI_1]
  refine Vw.copyI (de_invokestatic (B 23 _ rfl) (B 24 _ rfl) (B 25 _ rfl)) ml_X1_132 hc.r5 hc.r5 rfl rfl rfl (by omega) (by omega) (by decide) (by decide) (n := 26) rfl ?_
  refine Vw.iconst (v := 0) (de_iconst_0 (B 26 _ rfl)) rfl (n := 27) rfl ?_
  refine Vw.istore (lv2 := [(0, _), (1, _), (2, _), (3, _), (4, _)]) (de_istore (B 27 _ rfl) (B 28 _ rfl)) (by decide) [1, 2, 3, 4, 0] rfl (n := 29) rfl ?_
  refine loop 0 (Nat.zero_le _) _ g (fun b i hb => ?_) (fun c hc2 => ?_) (fun c hc2 => mxB_0) (fun c _ => Nat.le_refl _) (fun j hj => absurd hj (Nat.not_lt_zero _))
  · exact if_neg (fun z => hb ⟨z.1, by omega, by omega⟩)
  · exact (if_pos ⟨rfl, by omega, by omega⟩).trans (by rw [show 1000 * (q + 1) + (1000 * q + c - 1000 * q) = 1000 * (q + 1) + c by omega]; exact (hg c hc2).1)
