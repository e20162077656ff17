/-! drawYears -/
theorem putP_now {X : Nat → Int32} {n : Nat} {P : tP} (hn : n < 8) : putP (nowK X) n P = nowK (putP X n P) := by
  funext x
  by_cases h : x = 121
  · subst h
    unfold nowK
    rw [putP_o (by omega), upK_s, upK_s, putP_o (by omega)]
  · have e : nowK (putP X n P) x = putP X n P x := by unfold nowK; exact upK_n h
    rw [e]
    unfold putP
    by_cases h2 : x = 4 * n + 2
    · rw [h2, upK_s, upK_s]
    · rw [upK_n h2, upK_n h2]
      by_cases h1 : x = 4 * n + 1
      · rw [h1, upK_s, upK_s]
      · rw [upK_n h1, upK_n h1]
        by_cases h0 : x = 4 * n
        · rw [h0, upK_s, upK_s]
        · rw [upK_n h0, upK_n h0]; unfold nowK; exact upK_n h
theorem nowK_n {X : Nat → Int32} {x : Nat} (h : x ≠ 121) : nowK X x = X x := by unfold nowK; exact upK_n h
theorem perP_now {X : Nat → Int32} {n : Nat} (hn : n < 8) : perP (nowK X) n = perP X n := by
  unfold perP; rw [nowK_n (by omega), nowK_n (by omega), nowK_n (by omega), nowK_n (by omega)]
theorem drawJ {x : Nat} (h : x < 2000000000) : lN x * 1103 + 12345 - (lN x * 1103 + 12345) / 1000003 * 1000003 = lN (drawN x) := by
  rw [show (1103 : Int64) = lN 1103 from rfl, show (12345 : Int64) = lN 12345 from rfl, show (1000003 : Int64) = lN 1000003 from rfl, lN_mul, lN_add, pk_lRem (by omega) (by decide) (by decide)]
  unfold drawN
  rw [Nat.mul_comm x 1103]
theorem ten10 {x : Nat} (h : x < 2000000000) : lN x - lN x / 10 * 10 = lN (x % 10) := by
  rw [show (10 : Int64) = lN 10 from rfl, pk_lRem (by omega) (by decide) (by decide)]
def zpK (K : Nat → Int32) : Nat → Int32 := fun x => if x = 114 ∨ x = 116 ∨ x = 118 ∨ x = 120 then 0 else K x
theorem zpK_n {K : Nat → Int32} {x : Nat} (h : ¬ (x = 114 ∨ x = 116 ∨ x = 118 ∨ x = 120)) : zpK K x = K x := if_neg h
theorem zpK_z {K : Nat → Int32} {j : Nat} (h : j < 4) : zpK K (113 + 2 * j + 1) = 0 := if_pos (by omega)
theorem zpK_T {K : Nat → Int32} {np nc : Nat} (h : TN K np nc) : TN (zpK K) np nc := by
  obtain ⟨h1, h2, h3, h4, h5⟩ := h
  refine ⟨h1, h2, by rw [zpK_n (by decide)]; exact h3, by rw [zpK_n (by decide)]; exact h4, fun c hc => ?_⟩
  have e := h5 c hc
  unfold CoatOK at e ⊢
  rw [zpK_n (by omega), zpK_n (by omega), zpK_n (by omega)]
  exact e
/-- what drawYears may change -/
def FY (s : Nat) (I I2 : vI) : Prop := ∀ b i, b ≠ s + 28 → b ≠ s + 29 → ¬ (s + 42 ≤ b ∧ b ≤ s + 64) → ¬ (b = s + 33 ∧ i = 11) → I2 b i = I b i
theorem FY.trans {s : Nat} {I I2 I3 : vI} (h : FY s I I2) (g : FY s I2 I3) : FY s I I3 := fun b i h1 h2 h3 h4 => (g b i h1 h2 h3 h4).trans (h b i h1 h2 h3 h4)
theorem Ft.fy {s : Nat} {I I2 : vI} (h : Ft (s + 42) (s + 28) I I2) : FY s I I2 := fun b i h1 h2 h3 _ => congrFun (h b (by omega) h1 h2) i
theorem FY.wc {S : vS} {s lb : Nat} {I J : vI} {W : tW} (f : FY s I J) (h : WC S I s lb W) (hl : s + 66 ≤ lb) : WC S J s lb W := h.of (funext fun i => f s i (by omega) (by omega) (by omega) (by omega)) (fun b hb => funext fun i => f b i (by omega) (by omega) (by omega) (by omega))
theorem c_X4_drawYears {d : Nat} {S : vS} {I : vI} {L : vL} {Q : Int32 → vS → vI → vL → Prop} {s lb np nc : Nat} {K : Nat → Int32} {W : tW} {sd n : Nat} (hp : PlanS S (s + 33) s (s + 28)) (hK : TR I (s + 1) K np nc) (hN : TN K np nc) (hW : WC S I s lb W) (hlb : s + 66 ≤ lb) (hsd : sd < 1000003) (hn : n ≤ 100000) (hF : I s 4 = K 140) (h : ∀ I2 M, FY s I I2 → Lev (s + 28) L M → I2 (s + 33) 11 = 1 → TR I2 (s + 42) (yearsK W (zpK K) np nc sd n).1 np nc → Q (yearsK W (zpK K) np nc sd n).2.2 S I2 M) : Vc mX4_drawYears (d + 4) 0 0 [.ref (s + 33), .int (nI sd), .int (nI n)] S I L (ViQ Q) := by
  refine Vc.of rfl (Nat.le_of_ble_eq_true rfl) ?_
  have B := bs_X4_drawYears
  show Vw mX4_drawYears (d + 4) 0 0 0 0 (ViQ Q) 0 [(0, .ref (s + 33)), (1, .int (nI sd)), (2, .int (nI n))] [] S I L
  have h8 := hN.1
  have h10 := hN.2.1
  have hT := hp.p0.p0
  have hR := hp.p1
  have hY := hp.p10
  have hZ := zpK_T hN
  have hok := yearsK_ok (W := W) hZ hsd
  have years : ∀ k, k ≤ n → ∀ J M, FY s I J → Lev (s + 28) L M → J (s + 33) 11 = 1 → TR J (s + 42) (yearsK W (zpK K) np nc sd k).1 np nc → Vw mX4_drawYears (d + 4) 0 0 0 0 (ViQ Q) 39 [(0, .ref (s + 33)), (1, .int (nI sd)), (2, .int (nI n)), (3, .long (lN (yearsK W (zpK K) np nc sd k).2.1)), (5, .int (yearsK W (zpK K) np nc sd k).2.2), (6, .int (nI k))] [] S J M := by
    refine loop_up (fun k hk ih => ?_)
    intro J M fJ fM eJ kJ
    have feasts : k < n → ∀ i, i ≤ np → ∀ J M, FY s I J → Lev (s + 28) L M → J (s + 33) 11 = 1 → TR J (s + 42) (nowK (feastK (growK W (yearsK W (zpK K) np nc sd k).1 np) (yearsK W (zpK K) np nc sd k).2.1 i).1) np nc → Vw mX4_drawYears (d + 4) 0 0 0 0 (ViQ Q) 59 [(0, .ref (s + 33)), (1, .int (nI sd)), (2, .int (nI n)), (3, .long (lN (feastK (growK W (yearsK W (zpK K) np nc sd k).1 np) (yearsK W (zpK K) np nc sd k).2.1 i).2)), (5, .int (yearsK W (zpK K) np nc sd k).2.2), (6, .int (nI k)), (7, .int (nI i))] [] S J M := by
      intro hkn
      refine loop_up (fun i hi ihf => ?_)
      intro J M fJ fM eJ kJ
      have hs2 := feastK_s (K := growK W (yearsK W (zpK K) np nc sd k).1 np) (s := (yearsK W (zpK K) np nc sd k).2.1) (hok k).2.2 (n := i)
      have hd2 := drawN_lt (feastK (growK W (yearsK W (zpK K) np nc sd k).1 np) (yearsK W (zpK K) np nc sd k).2.1 i).2
      have e140 : (feastK (growK W (yearsK W (zpK K) np nc sd k).1 np) (yearsK W (zpK K) np nc sd k).2.1 i).1 140 = K 140 := by rw [feastK_o (by omega), growK_o (by omega), (hok k).2.1 140 (by decide), zpK_n (by decide)]
      refine Vw.iload (de_iload (B 59 _ rfl) (B 60 _ rfl)) 6 rfl (n := 61) rfl ?_
      refine Vw.aload_n (de_aload_0 (B 61 _ rfl)) 0 rfl (n := 62) rfl ?_
      refine Vw.getR (de_getfield (B 62 _ rfl) (B 63 _ rfl) (B 64 _ rfl)) fl_X4_45 rfl hp.k hp.f10 (n := 65) rfl ?_
      refine Vw.getI (de_getfield (B 65 _ rfl) (B 66 _ rfl) (B 67 _ rfl)) fl_X4_108 rfl hp.p10.k (n := 68) rfl ?_
      rw [kJ.1]
      refine Vw.icmp_ge (tgt := 121) (n := 71) (de_icmp_ge (B 68 _ rfl) (B 69 _ rfl) (B 70 _ rfl)) rfl rfl (fun c_68 => ?_) (fun c_68 => ?_)
      · refine Vw.iload (de_iload (B 121 _ rfl) (B 122 _ rfl)) 4 rfl (n := 123) rfl ?_
        refine Vw.aload_n (de_aload_0 (B 123 _ rfl)) 0 rfl (n := 124) rfl ?_
        refine Vw.getR (de_getfield (B 124 _ rfl) (B 125 _ rfl) (B 126 _ rfl)) fl_X4_45 rfl hp.k hp.f10 (n := 127) rfl ?_
        refine Vw.aload_n (de_aload_0 (B 127 _ rfl)) 0 rfl (n := 128) rfl ?_
        refine Vw.getR (de_getfield (B 128 _ rfl) (B 129 _ rfl) (B 130 _ rfl)) fl_X4_53 rfl hp.k hp.f1 (n := 131) rfl ?_
        have z_68 : np ≤ i := ((nI_leI (a := np) (b := i) (by omega) (by omega)).mp c_68)
        obtain rfl : np = i := by omega
        have tn := yearK_T (W := W) (s := (yearsK W (zpK K) np nc sd k).2.1) (hok k).1
        refine Vw.ivi1 (mi' := mX9_settle) (de_invokevirtual (B 131 _ rfl) (B 132 _ rfl) (B 133 _ rfl)) ml_X4_254 mv_X9_settle hp.p10.k (Nat.le_of_ble_eq_true rfl) (n := 134) rfl (c_X9_settle hY kJ tn hR (fJ.wc hW hlb) ⟨by omega, by omega, by omega, by omega⟩ (fun I3 M3 f3 m3 k3 => ?_))
        refine Vw.iadd (de_iadd (B 134 _ rfl)) (n := 135) rfl ?_
        refine Vw.istore (lv2 := [(0, _), (1, _), (2, _), (3, _), (5, _), (6, _), (7, _)]) (de_istore (B 135 _ rfl) (B 136 _ rfl)) (by decide) [1, 2, 3, 4, 0, 5, 6] rfl (n := 137) rfl ?_
        refine Vw.iinc (v := nI (k + 1)) (lv2 := [(0, _), (1, _), (2, _), (3, _), (5, _), (6, _), (7, _)]) (de_iinc (B 137 _ rfl) (B 138 _ rfl) (B 139 _ rfl)) 5 rfl (nI_1 k) (by decide) [1, 2, 3, 4, 5, 0, 6] rfl (n := 140) rfl ?_
        refine Vw.goto_ (n := 39) (de_goto_ (B 140 _ rfl) (B 141 _ rfl) (B 142 _ rfl)) rfl ?_
        refine Vw.lvs (lv2 := [(0, _), (1, _), (2, _), (3, _), (5, _), (6, _)]) [0, 1, 2, 3, 4, 5] rfl ?_
        exact ih hkn I3 M3 (fJ.trans f3.fy) (fM.trans m3) ((congrFun (f3 _ (by omega) (by omega) (by omega)) _).trans eJ) k3
      have z_68 : i < np := by rcases Nat.lt_or_ge i np with z | z; exact z; exact absurd ((nI_leI (a := np) (b := i) (by omega) (by omega)).mpr z) c_68
      refine Vw.lload_n (de_lload_3 (B 71 _ rfl)) 3 rfl (n := 72) rfl ?_
      refine Vw.ldc2 (de_ldc2_w (B 72 _ rfl) (B 73 _ rfl) (B 74 _ rfl)) kc_X4_248 (n := 75) rfl ?_
      refine Vw.lmul (de_lmul (B 75 _ rfl)) (n := 76) rfl ?_
      refine Vw.ldc2 (de_ldc2_w (B 76 _ rfl) (B 77 _ rfl) (B 78 _ rfl)) kc_X4_250 (n := 79) rfl ?_
      refine Vw.ladd (de_ladd (B 79 _ rfl)) (n := 80) rfl ?_
      refine Vw.ldc2 (de_ldc2_w (B 80 _ rfl) (B 81 _ rfl) (B 82 _ rfl)) kc_X4_252 (n := 83) rfl ?_
      refine Vw.lrem (de_lrem (B 83 _ rfl)) (by decide) (n := 84) rfl ?_
      rw [drawJ (by omega)]
      refine Vw.lstore_n (lv2 := [(0, _), (1, _), (2, _), (3, _), (5, _), (6, _), (7, _)]) (de_lstore_3 (B 84 _ rfl)) rfl (by decide) [1, 2, 3, 0, 4, 5, 6] rfl (n := 85) rfl ?_
      refine Vw.lload_n (de_lload_3 (B 85 _ rfl)) 3 rfl (n := 86) rfl ?_
      refine Vw.ldc2 (de_ldc2_w (B 86 _ rfl) (B 87 _ rfl) (B 88 _ rfl)) kc_X4_170 (n := 89) rfl ?_
      refine Vw.lrem (de_lrem (B 89 _ rfl)) (by decide) (n := 90) rfl ?_
      rw [ten10 (by omega)]
      refine Vw.aload_n (de_aload_0 (B 90 _ rfl)) 0 rfl (n := 91) rfl ?_
      refine Vw.getR (de_getfield (B 91 _ rfl) (B 92 _ rfl) (B 93 _ rfl)) fl_X4_49 rfl hp.k hp.f0 (n := 94) rfl ?_
      refine Vw.getI (de_getfield (B 94 _ rfl) (B 95 _ rfl) (B 96 _ rfl)) fl_X4_172 rfl hp.p0.k (n := 97) rfl ?_
      rw [fJ s 4 (by omega) (by omega) (by omega) (by omega), hF]
      refine Vw.i2l (de_i2l (B 97 _ rfl)) (n := 98) rfl ?_
      refine Vw.lcmp (de_lcmp (B 98 _ rfl)) (n := 99) rfl ?_
      refine Vw.if_ge (tgt := 115) (n := 102) (de_if_ge (B 99 _ rfl) (B 100 _ rfl) (B 101 _ rfl)) rfl rfl (fun c_99 => ?_) (fun c_99 => ?_)
      · refine Vw.iinc (v := nI (i + 1)) (lv2 := [(0, _), (1, _), (2, _), (3, _), (5, _), (6, _), (7, _)]) (de_iinc (B 115 _ rfl) (B 116 _ rfl) (B 117 _ rfl)) 6 rfl (nI_1 i) (by decide) [1, 2, 3, 4, 5, 6, 0] rfl (n := 118) rfl ?_
        refine Vw.goto_ (n := 59) (de_goto_ (B 118 _ rfl) (B 119 _ rfl) (B 120 _ rfl)) rfl ?_
        first
        | (have zf : ¬ nI (drawN (feastK (growK W (yearsK W (zpK K) np nc sd k).1 np) (yearsK W (zpK K) np nc sd k).2.1 i).2 % 10) < (feastK (growK W (yearsK W (zpK K) np nc sd k).1 np) (yearsK W (zpK K) np nc sd k).2.1 i).1 140 := fun z => by
             rw [e140, ← Int32.toInt64_lt, nI_l (by omega)] at z
             exact absurd ((lg_cmp_ge _ _).mp c_99) (Int64.not_le.mpr z)
           have g := ihf z_68 J M fJ fM eJ (by rw [feastK_y zf]; exact kJ)
           exact g)
        | (have zf : nI (drawN (feastK (growK W (yearsK W (zpK K) np nc sd k).1 np) (yearsK W (zpK K) np nc sd k).2.1 i).2 % 10) < (feastK (growK W (yearsK W (zpK K) np nc sd k).1 np) (yearsK W (zpK K) np nc sd k).2.1 i).1 140 := by
             rw [e140, ← Int32.toInt64_lt, nI_l (by omega)]
             exact Int64.not_le.mp (fun z => c_99 ((lg_cmp_ge _ _).mpr z))
           have g := ihf z_68 I3 M (fJ.trans (fun b i h1 h2 h3 h4 => congrFun (f3 b (by omega)) i)) fM ((congrFun (f3 _ (by omega)) _).trans eJ) (by
             have y := kJ.put z_68 h8 h10 (fun b g1 g2 g3 => f3 b g3) e3
             rw [kJ.per z_68, perP_now (by omega), putP_now (by omega)] at y
             rw [feastK_n zf]
             exact y (nowK_n (by omega)).symm)
           exact g)
      refine Vw.aload_n (de_aload_0 (B 102 _ rfl)) 0 rfl (n := 103) rfl ?_
      refine Vw.getR (de_getfield (B 103 _ rfl) (B 104 _ rfl) (B 105 _ rfl)) fl_X4_45 rfl hp.k hp.f10 (n := 106) rfl ?_
      refine Vw.getR (de_getfield (B 106 _ rfl) (B 107 _ rfl) (B 108 _ rfl)) fl_X4_62 rfl hp.p10.k hp.p10.f0 (n := 109) rfl ?_
      refine Vw.iload (de_iload (B 109 _ rfl) (B 110 _ rfl)) 6 rfl (n := 111) rfl ?_
      refine Vw.aald3 (b := 0) (de_aaload (B 111 _ rfl)) hp.p10.r0 (vIx_n (k := i) rfl (by omega)) (hY.pr (show i < 8 by omega)) (n := 112) rfl ?_
      refine Vw.ivv0 (mi' := mX3_feast) (de_invokevirtual (B 112 _ rfl) (B 113 _ rfl) (B 114 _ rfl)) ml_X4_225 mv_X3_feast (hY.pk (show i < 8 by omega)) (Nat.le_of_ble_eq_true rfl) (n := 115) rfl (c_X3_feast (hY.pk (show i < 8 by omega)) (fun I3 f3 e3 => ?_))
      refine Vw.iinc (v := nI (i + 1)) (lv2 := [(0, _), (1, _), (2, _), (3, _), (5, _), (6, _), (7, _)]) (de_iinc (B 115 _ rfl) (B 116 _ rfl) (B 117 _ rfl)) 6 rfl (nI_1 i) (by decide) [1, 2, 3, 4, 5, 6, 0] rfl (n := 118) rfl ?_
      refine Vw.goto_ (n := 59) (de_goto_ (B 118 _ rfl) (B 119 _ rfl) (B 120 _ rfl)) rfl ?_
      first
      | (have zf : ¬ nI (drawN (feastK (growK W (yearsK W (zpK K) np nc sd k).1 np) (yearsK W (zpK K) np nc sd k).2.1 i).2 % 10) < (feastK (growK W (yearsK W (zpK K) np nc sd k).1 np) (yearsK W (zpK K) np nc sd k).2.1 i).1 140 := fun z => by
           rw [e140, ← Int32.toInt64_lt, nI_l (by omega)] at z
           exact absurd ((lg_cmp_ge _ _).mp c_99) (Int64.not_le.mpr z)
         have g := ihf z_68 J M fJ fM eJ (by rw [feastK_y zf]; exact kJ)
         exact g)
      | (have zf : nI (drawN (feastK (growK W (yearsK W (zpK K) np nc sd k).1 np) (yearsK W (zpK K) np nc sd k).2.1 i).2 % 10) < (feastK (growK W (yearsK W (zpK K) np nc sd k).1 np) (yearsK W (zpK K) np nc sd k).2.1 i).1 140 := by
           rw [e140, ← Int32.toInt64_lt, nI_l (by omega)]
           exact Int64.not_le.mp (fun z => c_99 ((lg_cmp_ge _ _).mpr z))
         have g := ihf z_68 I3 M (fJ.trans (fun b i h1 h2 h3 h4 => congrFun (f3 b (by omega)) i)) fM ((congrFun (f3 _ (by omega)) _).trans eJ) (by
           have y := kJ.put z_68 h8 h10 (fun b g1 g2 g3 => f3 b g3) e3
           rw [kJ.per z_68, perP_now (by omega), putP_now (by omega)] at y
           rw [feastK_n zf]
           exact y (nowK_n (by omega)).symm)
         exact g)
    refine Vw.iload (de_iload (B 39 _ rfl) (B 40 _ rfl)) 5 rfl (n := 41) rfl ?_
    refine Vw.iload_n (de_iload_2 (B 41 _ rfl)) 2 rfl (n := 42) rfl ?_
    refine Vw.icmp_ge (tgt := 143) (n := 45) (de_icmp_ge (B 42 _ rfl) (B 43 _ rfl) (B 44 _ rfl)) rfl rfl (fun c_42 => ?_) (fun c_42 => ?_)
    · have z_42 : n ≤ k := ((nI_leI (a := n) (b := k) (by omega) (by omega)).mp c_42)
      obtain rfl : k = n := by omega
      refine Vw.iload (de_iload (B 143 _ rfl) (B 144 _ rfl)) 4 rfl (n := 145) rfl ?_
      exact Vw.iret (de_ireturn (B 145 _ rfl)) rfl ⟨_, rfl, (h J M fJ fM eJ kJ)⟩
    have z_42 : k < n := by rcases Nat.lt_or_ge k n with z | z; exact z; exact absurd ((nI_leI (a := n) (b := k) (by omega) (by omega)).mpr z) c_42
    refine Vw.aload_n (de_aload_0 (B 45 _ rfl)) 0 rfl (n := 46) rfl ?_
    refine Vw.getR (de_getfield (B 46 _ rfl) (B 47 _ rfl) (B 48 _ rfl)) fl_X4_45 rfl hp.k hp.f10 (n := 49) rfl ?_
    refine Vw.aload_n (de_aload_0 (B 49 _ rfl)) 0 rfl (n := 50) rfl ?_
    refine Vw.getR (de_getfield (B 50 _ rfl) (B 51 _ rfl) (B 52 _ rfl)) fl_X4_53 rfl hp.k hp.f1 (n := 53) rfl ?_
    refine Vw.ivv1 (mi' := mX9_growAll) (de_invokevirtual (B 53 _ rfl) (B 54 _ rfl) (B 55 _ rfl)) ml_X4_244 mv_X9_growAll hp.p10.k (Nat.le_of_ble_eq_true rfl) (n := 56) rfl (c_X9_growAll hY kJ h8 h10 hR (fJ.wc hW hlb) ⟨by omega, by omega, by omega, by omega⟩ (fun I3 M3 f3 m3 k3 => ?_))
    refine Vw.iconst (v := 0) (de_iconst_0 (B 56 _ rfl)) rfl (n := 57) rfl ?_
    refine Vw.istore (lv2 := [(0, _), (1, _), (2, _), (3, _), (5, _), (6, _), (7, _)]) (de_istore (B 57 _ rfl) (B 58 _ rfl)) (by decide) [1, 2, 3, 4, 5, 6, 0] rfl (n := 59) rfl ?_
    exact feasts z_42 0 (Nat.zero_le _) I3 M3 (fJ.trans f3.fy) (fM.trans m3) ((congrFun (f3 _ (by omega) (by omega) (by omega)) _).trans eJ) k3
  refine Vw.aload_n (de_aload_0 (B 0 _ rfl)) 0 rfl (n := 1) rfl ?_
  refine Vw.getR (de_getfield (B 1 _ rfl) (B 2 _ rfl) (B 3 _ rfl)) fl_X4_45 rfl hp.k hp.f10 (n := 4) rfl ?_
  refine Vw.aload_n (de_aload_0 (B 4 _ rfl)) 0 rfl (n := 5) rfl ?_
  refine Vw.getR (de_getfield (B 5 _ rfl) (B 6 _ rfl) (B 7 _ rfl)) fl_X4_49 rfl hp.k hp.f0 (n := 8) rfl ?_
  refine Vw.getR (de_getfield (B 8 _ rfl) (B 9 _ rfl) (B 10 _ rfl)) fl_X4_57 rfl hp.p0.k hp.p0.f0 (n := 11) rfl ?_
  refine Vw.ivv1 (mi' := mX9_copyFrom) (de_invokevirtual (B 11 _ rfl) (B 12 _ rfl) (B 13 _ rfl)) ml_X4_231 mv_X9_copyFrom hp.p10.k (Nat.le_of_ble_eq_true rfl) (n := 14) rfl (c_X9_copyFrom hY hT hK h8 h10 (by omega) (fun I2 f2 k2 => ?_))
  refine Vw.aload_n (de_aload_0 (B 14 _ rfl)) 0 rfl (n := 15) rfl ?_
  refine Vw.getR (de_getfield (B 15 _ rfl) (B 16 _ rfl) (B 17 _ rfl)) fl_X4_45 rfl hp.k hp.f10 (n := 18) rfl ?_
  refine Vw.getR (de_getfield (B 18 _ rfl) (B 19 _ rfl) (B 20 _ rfl)) fl_X4_234 rfl hp.p10.k hp.p10.f3 (n := 21) rfl ?_
  refine Vw.iconst (v := 0) (de_iconst_0 (B 21 _ rfl)) rfl (n := 22) rfl ?_
  refine Vw.isv2 (mi' := mJ7_fill_53178) (de_invokestatic (B 22 _ rfl) (B 23 _ rfl) (B 24 _ rfl)) ml_X4_237 ms_J7_fill_53178 (Nat.le_of_ble_eq_true rfl) (n := 25) rfl (c_J7_fill_53178 hY.r3 (by decide) (fun I3 f3 z3 => ?_))
  refine Vw.aload_n (de_aload_0 (B 25 _ rfl)) 0 rfl (n := 26) rfl ?_
  refine Vw.iconst (v := 1) (de_iconst_1 (B 26 _ rfl)) rfl (n := 27) rfl ?_
  refine Vw.putZ (de_putfield (B 27 _ rfl) (B 28 _ rfl) (B 29 _ rfl)) fl_X4_240 hp.k rfl rfl rfl rfl (n := 30) rfl ?_
  refine Vw.iload_n (de_iload_1 (B 30 _ rfl)) 1 rfl (n := 31) rfl ?_
  refine Vw.i2l (de_i2l (B 31 _ rfl)) (n := 32) rfl ?_
  rw [nI_l (by omega)]
  refine Vw.lstore_n (lv2 := [(0, _), (1, _), (2, _), (3, _)]) (de_lstore_3 (B 32 _ rfl)) rfl (by decide) [1, 2, 3, 0] rfl (n := 33) rfl ?_
  refine Vw.iconst (v := 0) (de_iconst_0 (B 33 _ rfl)) rfl (n := 34) rfl ?_
  refine Vw.istore (lv2 := [(0, _), (1, _), (2, _), (3, _), (5, _)]) (de_istore (B 34 _ rfl) (B 35 _ rfl)) (by decide) [1, 2, 3, 4, 0] rfl (n := 36) rfl ?_
  refine Vw.iconst (v := 0) (de_iconst_0 (B 36 _ rfl)) rfl (n := 37) rfl ?_
  refine Vw.istore (lv2 := [(0, _), (1, _), (2, _), (3, _), (5, _), (6, _)]) (de_istore (B 37 _ rfl) (B 38 _ rfl)) (by decide) [1, 2, 3, 4, 5, 0] rfl (n := 39) rfl ?_
  refine years 0 (Nat.zero_le _) _ L (fun b i h1 h2 h3 h4 => by rw [up2_ne h4, f3 b (by omega), f2 b (by omega)]) Lev.rfl (up2_s ..) ?_
  obtain ⟨a1, a2, a3, a4, a5, a6⟩ := k2
  have o : ∀ b, b ≠ s + 33 → b ≠ s + 33 + 9 + 4 → up2 I3 (s + 33) 11 1 b = I2 b := fun b g1 g2 => by rw [up2_row g1, f3 b g2]
  refine ⟨by rw [o _ (by omega) (by omega)]; exact a1, by rw [o _ (by omega) (by omega)]; exact a2, by rw [o _ (by omega) (by omega)]; exact a3.trans (zpK_n (by decide)).symm, fun q k hq hk => ?_, fun c k hc hk => ?_, fun j hj => ⟨?_, ?_⟩⟩
  · rw [o _ (by omega) (by omega)]; exact (a4 q k hq hk).trans (zpK_n (by omega)).symm
  · rw [o _ (by omega) (by omega)]; exact (a5 c k hc hk).trans (zpK_n (by omega)).symm
  · rw [o _ (by omega) (by omega)]; exact (a6 j hj).1.trans (zpK_n (by omega)).symm
  · rw [up2_row (by omega)]; exact (z3 j hj).trans (zpK_z hj).symm
