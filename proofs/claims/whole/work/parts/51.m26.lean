theorem c_X12_draws {d : Nat} {S : vS} {I : vI} {L : vL} {Q : Int32 → vS → vI → vL → Prop} {r : Nat} {s : Nat}  (hM : MS S r) (hs : I r 55 = nI s) (hs1 : s < 1000003) (h : Q (nI (drawN s % 10)) S (up2 I r 55 (nI (drawN s))) L) : Vc mX12_draws d 0 0 [.ref r, .int 10] S I L (ViQ Q) := by
  refine Vc.of rfl (Nat.le_of_ble_eq_true rfl) ?_
  have B := bs_X12_draws
  show Vw mX12_draws d 0 0 0 0 (ViQ Q) 0 [(0, .ref r), (1, .int 10)] [] S I L
  refine Vw.aload_n (de_aload_0 (B 0 _ rfl)) 0 rfl (n := 1) rfl ?_
  refine Vw.ldc2 (de_ldc2_w (B 1 _ rfl) (B 2 _ rfl) (B 3 _ rfl)) kc_X12_477 (n := 4) rfl ?_
  refine Vw.aload_n (de_aload_0 (B 4 _ rfl)) 0 rfl (n := 5) rfl ?_
  refine Vw.getI (de_getfield (B 5 _ rfl) (B 6 _ rfl) (B 7 _ rfl)) fl_X12_479 rfl hM.k (n := 8) rfl ?_
  rw [hs]
  refine Vw.i2l (de_i2l (B 8 _ rfl)) (n := 9) rfl ?_
  refine Vw.lmul (de_lmul (B 9 _ rfl)) (n := 10) rfl ?_
  refine Vw.ldc2 (de_ldc2_w (B 10 _ rfl) (B 11 _ rfl) (B 12 _ rfl)) kc_X12_482 (n := 13) rfl ?_
  refine Vw.ladd (de_ladd (B 13 _ rfl)) (n := 14) rfl ?_
  refine Vw.ldc2 (de_ldc2_w (B 14 _ rfl) (B 15 _ rfl) (B 16 _ rfl)) kc_X12_484 (n := 17) rfl ?_
  refine Vw.lrem (de_lrem (B 17 _ rfl)) (by decide) (n := 18) rfl ?_
  rw [nI_lI (by omega), show (1103 : Int64) = lI 1103 from rfl, show (12345 : Int64) = lI 12345 from rfl, show (1000003 : Int64) = lI 1000003 from rfl, lI_mul, lI_add, lI_rem (by omega) (by decide)]
  refine Vw.l2i (de_l2i (B 18 _ rfl)) (n := 19) rfl ?_
  rw [lI_nI (Nat.lt_trans (Nat.mod_lt _ (by decide)) (by decide : 1000003 < 2147483648)), show (1103 * s + 12345) % 1000003 = drawN s from rfl]
  refine Vw.putI (de_putfield (B 19 _ rfl) (B 20 _ rfl) (B 21 _ rfl)) fl_X12_479 hM.k rfl rfl (n := 22) rfl ?_
  refine Vw.aload_n (de_aload_0 (B 22 _ rfl)) 0 rfl (n := 23) rfl ?_
  refine Vw.getI (de_getfield (B 23 _ rfl) (B 24 _ rfl) (B 25 _ rfl)) fl_X12_479 rfl hM.k (n := 26) rfl ?_
  rw [up2_s]
  refine Vw.iload_n (de_iload_1 (B 26 _ rfl)) 1 rfl (n := 27) rfl ?_
  refine Vw.irem (de_irem (B 27 _ rfl)) (by decide) (n := 28) rfl ?_
  rw [show (10 : Int32) = nI 10 from rfl, nI_rem (by have := drawN_lt s; omega) (by decide)]
  exact Vw.iret (de_ireturn (B 28 _ rfl)) rfl ⟨_, rfl, h⟩
theorem setl_a {W : tW} {K : Nat → Int32} {c : Nat} (h : (setlK W K c).1 (32 + 8 * c + 4) = -1) : setlK W K (c + 1) = setlK W K c := by rw [setlK, if_pos h]
theorem setl_b {W : tW} {K : Nat → Int32} {c : Nat} (h : ¬ (setlK W K c).1 (32 + 8 * c + 4) = -1) (h2 : ¬ fitAt (setlK W K c).1 c = 0) : setlK W K (c + 1) = setlK W K c := by rw [setlK, if_neg h, if_neg h2]
theorem setl_c {W : tW} {K : Nat → Int32} {c : Nat} (h : ¬ (setlK W K c).1 (32 + 8 * c + 4) = -1) (h2 : fitAt (setlK W K c).1 c = 0) : setlK W K (c + 1) = (payK W (setlK W K c).1 c, (setlK W K c).2 + payAt W (setlK W K c).1 c) := by rw [setlK, if_neg h, if_pos h2]
theorem feastK_s {K : Nat → Int32} {s : Nat} (h : s < 1000003) : ∀ {n : Nat}, (feastK K s n).2 < 1000003
  | 0 => h
  | n + 1 => drawN_lt _
theorem feastK_y {K : Nat → Int32} {s n : Nat} (h : ¬ nI (drawN (feastK K s n).2 % 10) < (feastK K s n).1 140) : (feastK K s (n + 1)).1 = (feastK K s n).1 := by rw [feastK]; simp only; rw [if_neg h]
theorem feastK_n {K : Nat → Int32} {s n : Nat} (h : nI (drawN (feastK K s n).2 % 10) < (feastK K s n).1 140) : (feastK K s (n + 1)).1 = putP (feastK K s n).1 n (feastP (perP (feastK K s n).1 n)) := by rw [feastK]; simp only; rw [if_pos h]
theorem c_X12_quarters_0 {d : Nat} {S : vS} {I : vI} {L : vL} {Q : Int32 → vS → vI → vL → Prop} {r : Nat} {np nc  : Nat} {W : tW} (hM : MS S r) (hW : WD (I (r + 2)) W) (hT : TN (I (r + 2)) np nc) (h : ∀ I2, Fk r I I2 → I2 (r + 2) = (quarterP W (I (r + 2)) np nc).1 → Q (quarterP W (I (r + 2)) np nc).2 S I2 L) : Vc mX12_quarters (d + 46) 0 0 [.ref r, .int 0] S I L (ViQ Q) := by
  refine Vc.of rfl (Nat.le_of_ble_eq_true rfl) ?_
  have B := bs_X12_quarters
  show Vw mX12_quarters (d + 46) 0 0 0 0 (ViQ Q) 0 [(0, .ref r), (1, .int 0)] [] S I L
  have hnp := hT.1
  have hnc := hT.2.1
  have hT3 : TN (nowK (growK W (I (r + 2)) np)) np nc := hT.of (fun x h1 h2 => by unfold nowK; rw [upK_n (by omega), growK_o (by omega)])
  have hW3 : WD (nowK (growK W (I (r + 2)) np)) W := hW.of (fun x h1 => by unfold nowK; rw [upK_n (by omega), growK_o (by omega)])
  have loop3 : ∀ c, c ≤ nc → ∀ J, Fk r I J → J (r + 2) = (setlK W (nowK (growK W (I (r + 2)) np)) c).1 → Vw mX12_quarters (d + 46) 0 0 0 0 (ViQ Q) 107 [(0, .ref r), (1, .int 0), (2, .int (setlK W (nowK (growK W (I (r + 2)) np)) c).2), (3, .int (nI c))] [] S J L := by
    refine loop_up (fun c hc ih => ?_)
    intro J fJ kJ 
    obtain ⟨tc, oc⟩ := setlK_ok (W := W) hT3 c hc
    have e112 : J (r + 2) 112 = nI nc := by rw [kJ]; exact tc.2.2.2.1
    refine Vw.iload_n (de_iload_3 (B 107 _ rfl)) 3 rfl (n := 108) rfl ?_
    refine Vw.aload_n (de_aload_0 (B 108 _ rfl)) 0 rfl (n := 109) rfl ?_
    refine Vw.getR (de_getfield (B 109 _ rfl) (B 110 _ rfl) (B 111 _ rfl)) fl_X12_24 rfl hM.k (MS_kept hM).1 (n := 112) rfl ?_
    refine Vw.bipush (v := 112) (de_bipush (B 112 _ rfl) (B 113 _ rfl)) rfl (n := 114) rfl ?_
    refine Vw.iald (de_iaload (B 114 _ rfl)) (MS_kept hM).2 (j := 112) ⟨rfl, by decide, by decide⟩ (n := 115) rfl ?_
    rw [e112]
    refine Vw.icmp_ge (tgt := 156) (n := 118) (de_icmp_ge (B 115 _ rfl) (B 116 _ rfl) (B 117 _ rfl)) rfl rfl (fun c_115 => ?_) (fun c_115 => ?_)
    · have z_115 : nc ≤ c := ((nI_leI (a := nc) (b := c) (by omega) (by omega)).mp c_115)
      obtain rfl : c = nc := by omega
      refine Vw.iload_n (de_iload_2 (B 156 _ rfl)) 2 rfl (n := 157) rfl ?_
      exact Vw.iret (de_ireturn (B 157 _ rfl)) rfl ⟨_, rfl, (h J fJ kJ)⟩
    have z_115 : c < nc := by rcases Nat.lt_or_ge c nc with z | z; exact z; exact absurd ((nI_leI (a := nc) (b := c) (by omega) (by omega)).mpr z) c_115
    have wJ : WD (J (r + 2)) W := by rw [kJ]; exact hW3.of (fun x hx => oc x (by omega))
    have tJ : TN (J (r + 2)) np nc := by rw [kJ]; exact tc
    have tOK := tJ.2.2.2.2 c z_115
    refine Vw.aload_n (de_aload_0 (B 118 _ rfl)) 0 rfl (n := 119) rfl ?_
    refine Vw.iload_n (de_iload_3 (B 119 _ rfl)) 3 rfl (n := 120) rfl ?_
    refine Vw.iconst (v := 4) (de_iconst_4 (B 120 _ rfl)) rfl (n := 121) rfl ?_
    refine Vw.ivi2 (mi' := mX12_part) (de_invokevirtual (B 121 _ rfl) (B 122 _ rfl) (B 123 _ rfl)) ml_X12_136 mv_X12_part hM.k (Nat.le_of_ble_eq_true rfl) (n := 124) rfl (c_X12_part hM (vIx_n (k := 32 + 8 * c + 4) (by simp only [nI_A, nI_M, Int32.zero_add, Int32.add_zero] <;> rfl) (by omega)) ?_)
    refine Vw.iconst (v := -1) (de_iconst_m1 (B 124 _ rfl)) rfl (n := 125) rfl ?_
    refine Vw.icmp_eq (tgt := 150) (n := 128) (de_icmp_eq (B 125 _ rfl) (B 126 _ rfl) (B 127 _ rfl)) rfl rfl (fun c_125 => ?_) (fun c_125 => ?_)
    · refine Vw.iinc (v := nI (c + 1)) (lv2 := [(0, _), (1, _), (2, _), (3, _)]) (de_iinc (B 150 _ rfl) (B 151 _ rfl) (B 152 _ rfl)) 3 rfl (nI_1 c) (by decide) [1, 2, 3, 0] rfl (n := 153) rfl ?_
      refine Vw.goto_ (n := 107) (de_goto_ (B 153 _ rfl) (B 154 _ rfl) (B 155 _ rfl)) rfl ?_
      first
      | (have e : setlK W (nowK (growK W (I (r + 2)) np)) (c + 1) = setlK W (nowK (growK W (I (r + 2)) np)) c := setl_a (by rw [← kJ]; exact c_125)
         have g := ih z_115 J fJ (by rw [e]; exact kJ)
         rw [e] at g
         exact g)
      | (have e : setlK W (nowK (growK W (I (r + 2)) np)) (c + 1) = setlK W (nowK (growK W (I (r + 2)) np)) c := setl_b (by rw [← kJ]; exact c_125) (by rw [← kJ]; exact c_139)
         have g := ih z_115 I3 (fJ.trans f3.fk) (by rw [e, f3.k]; exact kJ)
         rw [e] at g
         exact g)
      | (have e := setl_c (W := W) (K := nowK (growK W (I (r + 2)) np)) (c := c) (by rw [← kJ]; exact c_125) (by rw [← kJ]; exact c_139)
         have g := ih z_115 I4 ((fJ.trans f3.fk).trans f4) (by rw [e, ← kJ, ← f3.k]; exact k4)
         rw [e, ← kJ, ← f3.k] at g
         exact g)
    obtain ⟨q, hq, eq⟩ := tOK.2.2.resolve_left c_125
    have eF : fitP (J (r + 2) (32 + 8 * c)) (J (r + 2) (32 + 8 * c + 1)) (perP (J (r + 2)) q) = fitAt (J (r + 2)) c := by unfold fitAt wrN; rw [eq, nI_cl (by omega)]
    refine Vw.aload_n (de_aload_0 (B 128 _ rfl)) 0 rfl (n := 129) rfl ?_
    refine Vw.iload_n (de_iload_3 (B 129 _ rfl)) 3 rfl (n := 130) rfl ?_
    refine Vw.aload_n (de_aload_0 (B 130 _ rfl)) 0 rfl (n := 131) rfl ?_
    refine Vw.iload_n (de_iload_3 (B 131 _ rfl)) 3 rfl (n := 132) rfl ?_
    refine Vw.iconst (v := 4) (de_iconst_4 (B 132 _ rfl)) rfl (n := 133) rfl ?_
    refine Vw.ivi2 (mi' := mX12_part) (de_invokevirtual (B 133 _ rfl) (B 134 _ rfl) (B 135 _ rfl)) ml_X12_136 mv_X12_part hM.k (Nat.le_of_ble_eq_true rfl) (n := 136) rfl (c_X12_part hM (vIx_n (k := 32 + 8 * c + 4) (by simp only [nI_A, nI_M, Int32.zero_add, Int32.add_zero] <;> rfl) (by omega)) ?_)
    rw [eq]
    refine Vw.ivi2 (mi' := mX12_fitsNow) (de_invokevirtual (B 136 _ rfl) (B 137 _ rfl) (B 138 _ rfl)) ml_X12_387 mv_X12_fitsNow hM.k (Nat.le_of_ble_eq_true rfl) (n := 139) rfl (c_X12_fitsNow hM (by omega) (by omega) (fun I3 f3 => ?_))
    rw [eF]
    refine Vw.if_ne (tgt := 150) (n := 142) (de_if_ne (B 139 _ rfl) (B 140 _ rfl) (B 141 _ rfl)) rfl rfl (fun c_139 => ?_) (fun c_139 => ?_)
    · refine Vw.iinc (v := nI (c + 1)) (lv2 := [(0, _), (1, _), (2, _), (3, _)]) (de_iinc (B 150 _ rfl) (B 151 _ rfl) (B 152 _ rfl)) 3 rfl (nI_1 c) (by decide) [1, 2, 3, 0] rfl (n := 153) rfl ?_
      refine Vw.goto_ (n := 107) (de_goto_ (B 153 _ rfl) (B 154 _ rfl) (B 155 _ rfl)) rfl ?_
      first
      | (have e : setlK W (nowK (growK W (I (r + 2)) np)) (c + 1) = setlK W (nowK (growK W (I (r + 2)) np)) c := setl_a (by rw [← kJ]; exact c_125)
         have g := ih z_115 J fJ (by rw [e]; exact kJ)
         rw [e] at g
         exact g)
      | (have e : setlK W (nowK (growK W (I (r + 2)) np)) (c + 1) = setlK W (nowK (growK W (I (r + 2)) np)) c := setl_b (by rw [← kJ]; exact c_125) (by rw [← kJ]; exact c_139)
         have g := ih z_115 I3 (fJ.trans f3.fk) (by rw [e, f3.k]; exact kJ)
         rw [e] at g
         exact g)
      | (have e := setl_c (W := W) (K := nowK (growK W (I (r + 2)) np)) (c := c) (by rw [← kJ]; exact c_125) (by rw [← kJ]; exact c_139)
         have g := ih z_115 I4 ((fJ.trans f3.fk).trans f4) (by rw [e, ← kJ, ← f3.k]; exact k4)
         rw [e, ← kJ, ← f3.k] at g
         exact g)
    refine Vw.iload_n (de_iload_2 (B 142 _ rfl)) 2 rfl (n := 143) rfl ?_
    refine Vw.aload_n (de_aload_0 (B 143 _ rfl)) 0 rfl (n := 144) rfl ?_
    refine Vw.iload_n (de_iload_3 (B 144 _ rfl)) 3 rfl (n := 145) rfl ?_
    refine Vw.ivi1 (mi' := mX12_pays) (de_invokevirtual (B 145 _ rfl) (B 146 _ rfl) (B 147 _ rfl)) ml_X12_390 mv_X12_pays hM.k (Nat.le_of_ble_eq_true rfl) (n := 148) rfl (c_X12_pays hM (by rw [f3.k]; exact wJ) (by rw [f3.k]; exact tJ) z_115 (by rw [f3.k]; exact c_125) (fun I4 f4 k4 s4 => ?_))
    refine Vw.iadd (de_iadd (B 148 _ rfl)) (n := 149) rfl ?_
    refine Vw.istore_n (lv2 := [(0, _), (1, _), (2, _), (3, _)]) (de_istore_2 (B 149 _ rfl)) rfl (by decide) [1, 2, 0, 3] rfl (n := 150) rfl ?_
    refine Vw.iinc (v := nI (c + 1)) (lv2 := [(0, _), (1, _), (2, _), (3, _)]) (de_iinc (B 150 _ rfl) (B 151 _ rfl) (B 152 _ rfl)) 3 rfl (nI_1 c) (by decide) [1, 2, 3, 0] rfl (n := 153) rfl ?_
    refine Vw.goto_ (n := 107) (de_goto_ (B 153 _ rfl) (B 154 _ rfl) (B 155 _ rfl)) rfl ?_
    first
    | (have e : setlK W (nowK (growK W (I (r + 2)) np)) (c + 1) = setlK W (nowK (growK W (I (r + 2)) np)) c := setl_a (by rw [← kJ]; exact c_125)
       have g := ih z_115 J fJ (by rw [e]; exact kJ)
       rw [e] at g
       exact g)
    | (have e : setlK W (nowK (growK W (I (r + 2)) np)) (c + 1) = setlK W (nowK (growK W (I (r + 2)) np)) c := setl_b (by rw [← kJ]; exact c_125) (by rw [← kJ]; exact c_139)
       have g := ih z_115 I3 (fJ.trans f3.fk) (by rw [e, f3.k]; exact kJ)
       rw [e] at g
       exact g)
    | (have e := setl_c (W := W) (K := nowK (growK W (I (r + 2)) np)) (c := c) (by rw [← kJ]; exact c_125) (by rw [← kJ]; exact c_139)
       have g := ih z_115 I4 ((fJ.trans f3.fk).trans f4) (by rw [e, ← kJ, ← f3.k]; exact k4)
       rw [e, ← kJ, ← f3.k] at g
       exact g)
  have mid : ∀ x J, Fk r I J → nowK (J (r + 2)) = nowK (growK W (I (r + 2)) np) → Vw mX12_quarters (d + 46) 0 0 0 0 (ViQ Q) 92 [(0, .ref r), (1, .int 0), (2, .int x)] [] S J L := by
    intro x J fJ kJ 
    refine Vw.aload_n (de_aload_0 (B 92 _ rfl)) 0 rfl (n := 93) rfl ?_
    refine Vw.getR (de_getfield (B 93 _ rfl) (B 94 _ rfl) (B 95 _ rfl)) fl_X12_24 rfl hM.k (MS_kept hM).1 (n := 96) rfl ?_
    refine Vw.bipush (v := 121) (de_bipush (B 96 _ rfl) (B 97 _ rfl)) rfl (n := 98) rfl ?_
    refine Vw.dup2 (de_dup2 (B 98 _ rfl)) rfl rfl (n := 99) rfl ?_
    refine Vw.iald (de_iaload (B 99 _ rfl)) (MS_kept hM).2 (j := 121) ⟨rfl, by decide, by decide⟩ (n := 100) rfl ?_
    refine Vw.iconst (v := 1) (de_iconst_1 (B 100 _ rfl)) rfl (n := 101) rfl ?_
    refine Vw.iadd (de_iadd (B 101 _ rfl)) (n := 102) rfl ?_
    refine Vw.iast (de_iastore (B 102 _ rfl)) (MS_kept hM).2 (j := 121) ⟨rfl, by decide, by decide⟩ (n := 103) rfl ?_
    refine Vw.iconst (v := 0) (de_iconst_0 (B 103 _ rfl)) rfl (n := 104) rfl ?_
    refine Vw.istore_n (lv2 := [(0, _), (1, _), (2, _)]) (de_istore_2 (B 104 _ rfl)) rfl (by decide) [1, 2, 0] rfl (n := 105) rfl ?_
    refine Vw.iconst (v := 0) (de_iconst_0 (B 105 _ rfl)) rfl (n := 106) rfl ?_
    refine Vw.istore_n (lv2 := [(0, _), (1, _), (2, _), (3, _)]) (de_istore_3 (B 106 _ rfl)) rfl (by decide) [1, 2, 3, 0] rfl (n := 107) rfl ?_
    exact loop3 0 (Nat.zero_le _) _ (fJ.trans (fun a k h1 h2 h3 => by simp (disch := omega) only [up2_n])) (by rw [up2_rs]; exact kJ)
  have z2 : ∀ J, Fk r I J → J (r + 2) = growK W (I (r + 2)) np → Vw mX12_quarters (d + 46) 0 0 0 0 (ViQ Q) 40 [(0, .ref r), (1, .int 0), (2, .int 0)] [] S J L := by
    intro J fJ kJ
    have e142 : J (r + 2) 142 = nI np := by rw [kJ, growK_o (by omega)]; exact hT.2.2.1
    refine Vw.iload_n (de_iload_2 (B 40 _ rfl)) 2 rfl (n := 41) rfl ?_
    refine Vw.aload_n (de_aload_0 (B 41 _ rfl)) 0 rfl (n := 42) rfl ?_
    refine Vw.ivi0 (mi' := mX12_people) (de_invokevirtual (B 42 _ rfl) (B 43 _ rfl) (B 44 _ rfl)) ml_X12_121 mv_X12_people hM.k (Nat.le_of_ble_eq_true rfl) (n := 45) rfl (c_X12_people hM ?_)
    refine Vw.icmp_ge (tgt := 92) (n := 48) (de_icmp_ge (B 45 _ rfl) (B 46 _ rfl) (B 47 _ rfl)) rfl rfl (fun c_45 => ?_) (fun c_45 => ?_)
    · exact mid _ J fJ (by rw [kJ])
    refine Vw.iload_n (de_iload_1 (B 48 _ rfl)) 1 rfl (n := 49) rfl ?_
    refine Vw.if_eq (tgt := 92) (n := 52) (de_if_eq (B 49 _ rfl) (B 50 _ rfl) (B 51 _ rfl)) rfl rfl (fun c_49 => ?_) (fun c_49 => ?_)
    · exact mid _ J fJ (by rw [kJ])
    exact absurd rfl c_49
  have loop1 : ∀ n, n ≤ np → ∀ J, Fk r I J → J (r + 2) = growK W (I (r + 2)) n → Vw mX12_quarters (d + 46) 0 0 0 0 (ViQ Q) 2 [(0, .ref r), (1, .int 0), (2, .int (nI n))] [] S J L := by
    refine loop_up (fun n hn ih => ?_)
    intro J fJ kJ 
    have e142 : J (r + 2) 142 = nI np := by rw [kJ, growK_o (by omega)]; exact hT.2.2.1
    have wJ : WD (J (r + 2)) W := by rw [kJ]; exact hW.of (fun x hx => growK_o (by omega))
    refine Vw.iload_n (de_iload_2 (B 2 _ rfl)) 2 rfl (n := 3) rfl ?_
    refine Vw.aload_n (de_aload_0 (B 3 _ rfl)) 0 rfl (n := 4) rfl ?_
    refine Vw.ivi0 (mi' := mX12_people) (de_invokevirtual (B 4 _ rfl) (B 5 _ rfl) (B 6 _ rfl)) ml_X12_121 mv_X12_people hM.k (Nat.le_of_ble_eq_true rfl) (n := 7) rfl (c_X12_people hM ?_)
    rw [e142]
    refine Vw.icmp_ge (tgt := 38) (n := 10) (de_icmp_ge (B 7 _ rfl) (B 8 _ rfl) (B 9 _ rfl)) rfl rfl (fun c_7 => ?_) (fun c_7 => ?_)
    · have z_7 : np ≤ n := ((nI_leI (a := np) (b := n) (by omega) (by omega)).mp c_7)
      obtain rfl : n = np := by omega
      refine Vw.iconst (v := 0) (de_iconst_0 (B 38 _ rfl)) rfl (n := 39) rfl ?_
      refine Vw.istore_n (lv2 := [(0, _), (1, _), (2, _)]) (de_istore_2 (B 39 _ rfl)) rfl (by decide) [1, 2, 0] rfl (n := 40) rfl ?_
      exact z2 J fJ kJ
    have z_7 : n < np := by rcases Nat.lt_or_ge n np with z | z; exact z; exact absurd ((nI_leI (a := np) (b := n) (by omega) (by omega)).mpr z) c_7
    refine Vw.aload_n (de_aload_0 (B 10 _ rfl)) 0 rfl (n := 11) rfl ?_
    refine Vw.iload_n (de_iload_2 (B 11 _ rfl)) 2 rfl (n := 12) rfl ?_
    refine Vw.ivv1 (mi' := mX12_takes) (de_invokevirtual (B 12 _ rfl) (B 13 _ rfl) (B 14 _ rfl)) ml_X12_140 mv_X12_takes hM.k (Nat.le_of_ble_eq_true rfl) (n := 15) rfl (c_X12_takes hM (by omega) (fun I3 f3 e3 => ?_))
    refine Vw.aload_n (de_aload_0 (B 15 _ rfl)) 0 rfl (n := 16) rfl ?_
    refine Vw.iload_n (de_iload_2 (B 16 _ rfl)) 2 rfl (n := 17) rfl ?_
    refine Vw.aload_n (de_aload_0 (B 17 _ rfl)) 0 rfl (n := 18) rfl ?_
    refine Vw.getR (de_getfield (B 18 _ rfl) (B 19 _ rfl) (B 20 _ rfl)) fl_X12_24 rfl hM.k (MS_kept hM).1 (n := 21) rfl ?_
    refine Vw.bipush (v := 121) (de_bipush (B 21 _ rfl) (B 22 _ rfl)) rfl (n := 23) rfl ?_
    refine Vw.iald (de_iaload (B 23 _ rfl)) (MS_kept hM).2 (j := 121) ⟨rfl, by decide, by decide⟩ (n := 24) rfl ?_
    skip
    refine Vw.ivv2 (mi' := mX12_goesOn) (de_invokevirtual (B 24 _ rfl) (B 25 _ rfl) (B 26 _ rfl)) ml_X12_375 mv_X12_goesOn hM.k (Nat.le_of_ble_eq_true rfl) (n := 27) rfl (c_X12_goesOn (W := W) hM (by rw [f3.k]; exact wJ) (fun I4 f4 e4 => ?_))
    refine Vw.aload_n (de_aload_0 (B 27 _ rfl)) 0 rfl (n := 28) rfl ?_
    refine Vw.iload_n (de_iload_2 (B 28 _ rfl)) 2 rfl (n := 29) rfl ?_
    refine Vw.ivv1 (mi' := mX12_puts) (de_invokevirtual (B 29 _ rfl) (B 30 _ rfl) (B 31 _ rfl)) ml_X12_378 mv_X12_puts hM.k (Nat.le_of_ble_eq_true rfl) (n := 32) rfl (c_X12_puts hM (by omega) ?_)
    refine Vw.iinc (v := nI (n + 1)) (lv2 := [(0, _), (1, _), (2, _)]) (de_iinc (B 32 _ rfl) (B 33 _ rfl) (B 34 _ rfl)) 2 rfl (nI_1 n) (by decide) [1, 2, 0] rfl (n := 35) rfl ?_
    refine Vw.goto_ (n := 2) (de_goto_ (B 35 _ rfl) (B 36 _ rfl) (B 37 _ rfl)) rfl ?_
    refine ih z_7 _ ((fJ.trans (f3.trans f4).fk).trans Fk.put) ?_
    rw [mPut_row e4, f4.k, f3.k, e3, kJ, growK]
  refine Vw.iconst (v := 0) (de_iconst_0 (B 0 _ rfl)) rfl (n := 1) rfl ?_
  refine Vw.istore_n (lv2 := [(0, _), (1, _), (2, _)]) (de_istore_2 (B 1 _ rfl)) rfl (by decide) [1, 2, 0] rfl (n := 2) rfl ?_
  exact loop1 0 (Nat.zero_le _) I Fk.rfl rfl
theorem c_X12_quarters_1 {d : Nat} {S : vS} {I : vI} {L : vL} {Q : Int32 → vS → vI → vL → Prop} {r : Nat} {np nc s : Nat} {W : tW} (hM : MS S r) (hW : WD (I (r + 2)) W) (hT : TN (I (r + 2)) np nc) (hs : I r 55 = nI s) (hs1 : s < 1000003) (h : ∀ I2, Fk r I I2 → I2 (r + 2) = (yearP W (I (r + 2)) np nc s).1 → I2 r 55 = nI (feastK (growK W (I (r + 2)) np) s np).2 → Q (yearP W (I (r + 2)) np nc s).2 S I2 L) : Vc mX12_quarters (d + 46) 0 0 [.ref r, .int 1] S I L (ViQ Q) := by
  refine Vc.of rfl (Nat.le_of_ble_eq_true rfl) ?_
  have B := bs_X12_quarters
  show Vw mX12_quarters (d + 46) 0 0 0 0 (ViQ Q) 0 [(0, .ref r), (1, .int 1)] [] S I L
  have hnp := hT.1
  have hnc := hT.2.1
  have hT3 : TN (nowK (feastK (growK W (I (r + 2)) np) s np).1) np nc := hT.of (fun x h1 h2 => by unfold nowK; rw [upK_n (by omega), feastK_o (by omega), growK_o (by omega)])
  have hW3 : WD (nowK (feastK (growK W (I (r + 2)) np) s np).1) W := hW.of (fun x h1 => by unfold nowK; rw [upK_n (by omega), feastK_o (by omega), growK_o (by omega)])
  have loop3 : ∀ c, c ≤ nc → ∀ J, Fk r I J → J (r + 2) = (setlK W (nowK (feastK (growK W (I (r + 2)) np) s np).1) c).1 → J r 55 = nI (feastK (growK W (I (r + 2)) np) s np).2 → Vw mX12_quarters (d + 46) 0 0 0 0 (ViQ Q) 107 [(0, .ref r), (1, .int 1), (2, .int (setlK W (nowK (feastK (growK W (I (r + 2)) np) s np).1) c).2), (3, .int (nI c))] [] S J L := by
    refine loop_up (fun c hc ih => ?_)
    intro J fJ kJ sJ
    obtain ⟨tc, oc⟩ := setlK_ok (W := W) hT3 c hc
    have e112 : J (r + 2) 112 = nI nc := by rw [kJ]; exact tc.2.2.2.1
    refine Vw.iload_n (de_iload_3 (B 107 _ rfl)) 3 rfl (n := 108) rfl ?_
    refine Vw.aload_n (de_aload_0 (B 108 _ rfl)) 0 rfl (n := 109) rfl ?_
    refine Vw.getR (de_getfield (B 109 _ rfl) (B 110 _ rfl) (B 111 _ rfl)) fl_X12_24 rfl hM.k (MS_kept hM).1 (n := 112) rfl ?_
    refine Vw.bipush (v := 112) (de_bipush (B 112 _ rfl) (B 113 _ rfl)) rfl (n := 114) rfl ?_
    refine Vw.iald (de_iaload (B 114 _ rfl)) (MS_kept hM).2 (j := 112) ⟨rfl, by decide, by decide⟩ (n := 115) rfl ?_
    rw [e112]
    refine Vw.icmp_ge (tgt := 156) (n := 118) (de_icmp_ge (B 115 _ rfl) (B 116 _ rfl) (B 117 _ rfl)) rfl rfl (fun c_115 => ?_) (fun c_115 => ?_)
    · have z_115 : nc ≤ c := ((nI_leI (a := nc) (b := c) (by omega) (by omega)).mp c_115)
      obtain rfl : c = nc := by omega
      refine Vw.iload_n (de_iload_2 (B 156 _ rfl)) 2 rfl (n := 157) rfl ?_
      exact Vw.iret (de_ireturn (B 157 _ rfl)) rfl ⟨_, rfl, (h J fJ kJ sJ)⟩
    have z_115 : c < nc := by rcases Nat.lt_or_ge c nc with z | z; exact z; exact absurd ((nI_leI (a := nc) (b := c) (by omega) (by omega)).mpr z) c_115
    have wJ : WD (J (r + 2)) W := by rw [kJ]; exact hW3.of (fun x hx => oc x (by omega))
    have tJ : TN (J (r + 2)) np nc := by rw [kJ]; exact tc
    have tOK := tJ.2.2.2.2 c z_115
    refine Vw.aload_n (de_aload_0 (B 118 _ rfl)) 0 rfl (n := 119) rfl ?_
    refine Vw.iload_n (de_iload_3 (B 119 _ rfl)) 3 rfl (n := 120) rfl ?_
    refine Vw.iconst (v := 4) (de_iconst_4 (B 120 _ rfl)) rfl (n := 121) rfl ?_
    refine Vw.ivi2 (mi' := mX12_part) (de_invokevirtual (B 121 _ rfl) (B 122 _ rfl) (B 123 _ rfl)) ml_X12_136 mv_X12_part hM.k (Nat.le_of_ble_eq_true rfl) (n := 124) rfl (c_X12_part hM (vIx_n (k := 32 + 8 * c + 4) (by simp only [nI_A, nI_M, Int32.zero_add, Int32.add_zero] <;> rfl) (by omega)) ?_)
    refine Vw.iconst (v := -1) (de_iconst_m1 (B 124 _ rfl)) rfl (n := 125) rfl ?_
    refine Vw.icmp_eq (tgt := 150) (n := 128) (de_icmp_eq (B 125 _ rfl) (B 126 _ rfl) (B 127 _ rfl)) rfl rfl (fun c_125 => ?_) (fun c_125 => ?_)
    · refine Vw.iinc (v := nI (c + 1)) (lv2 := [(0, _), (1, _), (2, _), (3, _)]) (de_iinc (B 150 _ rfl) (B 151 _ rfl) (B 152 _ rfl)) 3 rfl (nI_1 c) (by decide) [1, 2, 3, 0] rfl (n := 153) rfl ?_
      refine Vw.goto_ (n := 107) (de_goto_ (B 153 _ rfl) (B 154 _ rfl) (B 155 _ rfl)) rfl ?_
      first
      | (have e : setlK W (nowK (feastK (growK W (I (r + 2)) np) s np).1) (c + 1) = setlK W (nowK (feastK (growK W (I (r + 2)) np) s np).1) c := setl_a (by rw [← kJ]; exact c_125)
         have g := ih z_115 J fJ (by rw [e]; exact kJ) sJ
         rw [e] at g
         exact g)
      | (have e : setlK W (nowK (feastK (growK W (I (r + 2)) np) s np).1) (c + 1) = setlK W (nowK (feastK (growK W (I (r + 2)) np) s np).1) c := setl_b (by rw [← kJ]; exact c_125) (by rw [← kJ]; exact c_139)
         have g := ih z_115 I3 (fJ.trans f3.fk) (by rw [e, f3.k]; exact kJ) ((f3.f (by decide)).trans sJ)
         rw [e] at g
         exact g)
      | (have e := setl_c (W := W) (K := nowK (feastK (growK W (I (r + 2)) np) s np).1) (c := c) (by rw [← kJ]; exact c_125) (by rw [← kJ]; exact c_139)
         have g := ih z_115 I4 ((fJ.trans f3.fk).trans f4) (by rw [e, ← kJ, ← f3.k]; exact k4) (s4.trans ((f3.f (by decide)).trans sJ))
         rw [e, ← kJ, ← f3.k] at g
         exact g)
    obtain ⟨q, hq, eq⟩ := tOK.2.2.resolve_left c_125
    have eF : fitP (J (r + 2) (32 + 8 * c)) (J (r + 2) (32 + 8 * c + 1)) (perP (J (r + 2)) q) = fitAt (J (r + 2)) c := by unfold fitAt wrN; rw [eq, nI_cl (by omega)]
    refine Vw.aload_n (de_aload_0 (B 128 _ rfl)) 0 rfl (n := 129) rfl ?_
    refine Vw.iload_n (de_iload_3 (B 129 _ rfl)) 3 rfl (n := 130) rfl ?_
    refine Vw.aload_n (de_aload_0 (B 130 _ rfl)) 0 rfl (n := 131) rfl ?_
    refine Vw.iload_n (de_iload_3 (B 131 _ rfl)) 3 rfl (n := 132) rfl ?_
    refine Vw.iconst (v := 4) (de_iconst_4 (B 132 _ rfl)) rfl (n := 133) rfl ?_
    refine Vw.ivi2 (mi' := mX12_part) (de_invokevirtual (B 133 _ rfl) (B 134 _ rfl) (B 135 _ rfl)) ml_X12_136 mv_X12_part hM.k (Nat.le_of_ble_eq_true rfl) (n := 136) rfl (c_X12_part hM (vIx_n (k := 32 + 8 * c + 4) (by simp only [nI_A, nI_M, Int32.zero_add, Int32.add_zero] <;> rfl) (by omega)) ?_)
    rw [eq]
    refine Vw.ivi2 (mi' := mX12_fitsNow) (de_invokevirtual (B 136 _ rfl) (B 137 _ rfl) (B 138 _ rfl)) ml_X12_387 mv_X12_fitsNow hM.k (Nat.le_of_ble_eq_true rfl) (n := 139) rfl (c_X12_fitsNow hM (by omega) (by omega) (fun I3 f3 => ?_))
    rw [eF]
    refine Vw.if_ne (tgt := 150) (n := 142) (de_if_ne (B 139 _ rfl) (B 140 _ rfl) (B 141 _ rfl)) rfl rfl (fun c_139 => ?_) (fun c_139 => ?_)
    · refine Vw.iinc (v := nI (c + 1)) (lv2 := [(0, _), (1, _), (2, _), (3, _)]) (de_iinc (B 150 _ rfl) (B 151 _ rfl) (B 152 _ rfl)) 3 rfl (nI_1 c) (by decide) [1, 2, 3, 0] rfl (n := 153) rfl ?_
      refine Vw.goto_ (n := 107) (de_goto_ (B 153 _ rfl) (B 154 _ rfl) (B 155 _ rfl)) rfl ?_
      first
      | (have e : setlK W (nowK (feastK (growK W (I (r + 2)) np) s np).1) (c + 1) = setlK W (nowK (feastK (growK W (I (r + 2)) np) s np).1) c := setl_a (by rw [← kJ]; exact c_125)
         have g := ih z_115 J fJ (by rw [e]; exact kJ) sJ
         rw [e] at g
         exact g)
      | (have e : setlK W (nowK (feastK (growK W (I (r + 2)) np) s np).1) (c + 1) = setlK W (nowK (feastK (growK W (I (r + 2)) np) s np).1) c := setl_b (by rw [← kJ]; exact c_125) (by rw [← kJ]; exact c_139)
         have g := ih z_115 I3 (fJ.trans f3.fk) (by rw [e, f3.k]; exact kJ) ((f3.f (by decide)).trans sJ)
         rw [e] at g
         exact g)
      | (have e := setl_c (W := W) (K := nowK (feastK (growK W (I (r + 2)) np) s np).1) (c := c) (by rw [← kJ]; exact c_125) (by rw [← kJ]; exact c_139)
         have g := ih z_115 I4 ((fJ.trans f3.fk).trans f4) (by rw [e, ← kJ, ← f3.k]; exact k4) (s4.trans ((f3.f (by decide)).trans sJ))
         rw [e, ← kJ, ← f3.k] at g
         exact g)
    refine Vw.iload_n (de_iload_2 (B 142 _ rfl)) 2 rfl (n := 143) rfl ?_
    refine Vw.aload_n (de_aload_0 (B 143 _ rfl)) 0 rfl (n := 144) rfl ?_
    refine Vw.iload_n (de_iload_3 (B 144 _ rfl)) 3 rfl (n := 145) rfl ?_
    refine Vw.ivi1 (mi' := mX12_pays) (de_invokevirtual (B 145 _ rfl) (B 146 _ rfl) (B 147 _ rfl)) ml_X12_390 mv_X12_pays hM.k (Nat.le_of_ble_eq_true rfl) (n := 148) rfl (c_X12_pays hM (by rw [f3.k]; exact wJ) (by rw [f3.k]; exact tJ) z_115 (by rw [f3.k]; exact c_125) (fun I4 f4 k4 s4 => ?_))
    refine Vw.iadd (de_iadd (B 148 _ rfl)) (n := 149) rfl ?_
    refine Vw.istore_n (lv2 := [(0, _), (1, _), (2, _), (3, _)]) (de_istore_2 (B 149 _ rfl)) rfl (by decide) [1, 2, 0, 3] rfl (n := 150) rfl ?_
    refine Vw.iinc (v := nI (c + 1)) (lv2 := [(0, _), (1, _), (2, _), (3, _)]) (de_iinc (B 150 _ rfl) (B 151 _ rfl) (B 152 _ rfl)) 3 rfl (nI_1 c) (by decide) [1, 2, 3, 0] rfl (n := 153) rfl ?_
    refine Vw.goto_ (n := 107) (de_goto_ (B 153 _ rfl) (B 154 _ rfl) (B 155 _ rfl)) rfl ?_
    first
    | (have e : setlK W (nowK (feastK (growK W (I (r + 2)) np) s np).1) (c + 1) = setlK W (nowK (feastK (growK W (I (r + 2)) np) s np).1) c := setl_a (by rw [← kJ]; exact c_125)
       have g := ih z_115 J fJ (by rw [e]; exact kJ) sJ
       rw [e] at g
       exact g)
    | (have e : setlK W (nowK (feastK (growK W (I (r + 2)) np) s np).1) (c + 1) = setlK W (nowK (feastK (growK W (I (r + 2)) np) s np).1) c := setl_b (by rw [← kJ]; exact c_125) (by rw [← kJ]; exact c_139)
       have g := ih z_115 I3 (fJ.trans f3.fk) (by rw [e, f3.k]; exact kJ) ((f3.f (by decide)).trans sJ)
       rw [e] at g
       exact g)
    | (have e := setl_c (W := W) (K := nowK (feastK (growK W (I (r + 2)) np) s np).1) (c := c) (by rw [← kJ]; exact c_125) (by rw [← kJ]; exact c_139)
       have g := ih z_115 I4 ((fJ.trans f3.fk).trans f4) (by rw [e, ← kJ, ← f3.k]; exact k4) (s4.trans ((f3.f (by decide)).trans sJ))
       rw [e, ← kJ, ← f3.k] at g
       exact g)
  have mid : ∀ J, Fk r I J → nowK (J (r + 2)) = nowK (feastK (growK W (I (r + 2)) np) s np).1 → J r 55 = nI (feastK (growK W (I (r + 2)) np) s np).2 → Vw mX12_quarters (d + 46) 0 0 0 0 (ViQ Q) 92 [(0, .ref r), (1, .int 1), (2, .int (nI np))] [] S J L := by
    intro J fJ kJ sJ
    refine Vw.aload_n (de_aload_0 (B 92 _ rfl)) 0 rfl (n := 93) rfl ?_
    refine Vw.getR (de_getfield (B 93 _ rfl) (B 94 _ rfl) (B 95 _ rfl)) fl_X12_24 rfl hM.k (MS_kept hM).1 (n := 96) rfl ?_
    refine Vw.bipush (v := 121) (de_bipush (B 96 _ rfl) (B 97 _ rfl)) rfl (n := 98) rfl ?_
    refine Vw.dup2 (de_dup2 (B 98 _ rfl)) rfl rfl (n := 99) rfl ?_
    refine Vw.iald (de_iaload (B 99 _ rfl)) (MS_kept hM).2 (j := 121) ⟨rfl, by decide, by decide⟩ (n := 100) rfl ?_
    refine Vw.iconst (v := 1) (de_iconst_1 (B 100 _ rfl)) rfl (n := 101) rfl ?_
    refine Vw.iadd (de_iadd (B 101 _ rfl)) (n := 102) rfl ?_
    refine Vw.iast (de_iastore (B 102 _ rfl)) (MS_kept hM).2 (j := 121) ⟨rfl, by decide, by decide⟩ (n := 103) rfl ?_
    refine Vw.iconst (v := 0) (de_iconst_0 (B 103 _ rfl)) rfl (n := 104) rfl ?_
    refine Vw.istore_n (lv2 := [(0, _), (1, _), (2, _)]) (de_istore_2 (B 104 _ rfl)) rfl (by decide) [1, 2, 0] rfl (n := 105) rfl ?_
    refine Vw.iconst (v := 0) (de_iconst_0 (B 105 _ rfl)) rfl (n := 106) rfl ?_
    refine Vw.istore_n (lv2 := [(0, _), (1, _), (2, _), (3, _)]) (de_istore_3 (B 106 _ rfl)) rfl (by decide) [1, 2, 3, 0] rfl (n := 107) rfl ?_
    exact loop3 0 (Nat.zero_le _) _ (fJ.trans (fun a k h1 h2 h3 => by simp (disch := omega) only [up2_n])) (by rw [up2_rs]; exact kJ) (by rw [up2_a (by omega)]; exact sJ)
  have loop2 : ∀ n, n ≤ np → ∀ J, Fk r I J → J (r + 2) = (feastK (growK W (I (r + 2)) np) s n).1 → J r 55 = nI (feastK (growK W (I (r + 2)) np) s n).2 → Vw mX12_quarters (d + 46) 0 0 0 0 (ViQ Q) 40 [(0, .ref r), (1, .int 1), (2, .int (nI n))] [] S J L := by
    refine loop_up (fun n hn ih => ?_)
    intro J fJ kJ sJ
    have e142 : J (r + 2) 142 = nI np := by rw [kJ, feastK_o (by omega), growK_o (by omega)]; exact hT.2.2.1
    have hs2 : (feastK (growK W (I (r + 2)) np) s n).2 < 1000003 := feastK_s hs1
    refine Vw.iload_n (de_iload_2 (B 40 _ rfl)) 2 rfl (n := 41) rfl ?_
    refine Vw.aload_n (de_aload_0 (B 41 _ rfl)) 0 rfl (n := 42) rfl ?_
    refine Vw.ivi0 (mi' := mX12_people) (de_invokevirtual (B 42 _ rfl) (B 43 _ rfl) (B 44 _ rfl)) ml_X12_121 mv_X12_people hM.k (Nat.le_of_ble_eq_true rfl) (n := 45) rfl (c_X12_people hM ?_)
    rw [e142]
    refine Vw.icmp_ge (tgt := 92) (n := 48) (de_icmp_ge (B 45 _ rfl) (B 46 _ rfl) (B 47 _ rfl)) rfl rfl (fun c_45 => ?_) (fun c_45 => ?_)
    · have z_45 : np ≤ n := ((nI_leI (a := np) (b := n) (by omega) (by omega)).mp c_45)
      obtain rfl : n = np := by omega
      exact mid J fJ (by rw [kJ]) sJ
    have z_45 : n < np := by rcases Nat.lt_or_ge n np with z | z; exact z; exact absurd ((nI_leI (a := np) (b := n) (by omega) (by omega)).mpr z) c_45
    refine Vw.iload_n (de_iload_1 (B 48 _ rfl)) 1 rfl (n := 49) rfl ?_
    refine Vw.if_eq (tgt := 92) (n := 52) (de_if_eq (B 49 _ rfl) (B 50 _ rfl) (B 51 _ rfl)) rfl rfl (fun c_49 => ?_) (fun c_49 => ?_)
    · exact absurd c_49 (by decide)
    refine Vw.aload_n (de_aload_0 (B 52 _ rfl)) 0 rfl (n := 53) rfl ?_
    refine Vw.bipush (v := 10) (de_bipush (B 53 _ rfl) (B 54 _ rfl)) rfl (n := 55) rfl ?_
    refine Vw.ivi1 (mi' := mX12_draws) (de_invokevirtual (B 55 _ rfl) (B 56 _ rfl) (B 57 _ rfl)) ml_X12_381 mv_X12_draws hM.k (Nat.le_of_ble_eq_true rfl) (n := 58) rfl (c_X12_draws hM sJ hs2 ?_)
    skip
    refine Vw.aload_n (de_aload_0 (B 58 _ rfl)) 0 rfl (n := 59) rfl ?_
    refine Vw.getR (de_getfield (B 59 _ rfl) (B 60 _ rfl) (B 61 _ rfl)) fl_X12_24 rfl hM.k (MS_kept hM).1 (n := 62) rfl ?_
    refine Vw.sipush (v := 140) (de_sipush (B 62 _ rfl) (B 63 _ rfl) (B 64 _ rfl)) rfl (n := 65) rfl ?_
    refine Vw.iald (de_iaload (B 65 _ rfl)) (MS_kept hM).2 (j := 140) ⟨rfl, by decide, by decide⟩ (n := 66) rfl ?_
    refine Vw.icmp_lt (tgt := 72) (n := 69) (de_icmp_lt (B 66 _ rfl) (B 67 _ rfl) (B 68 _ rfl)) rfl rfl (fun c_66 => ?_) (fun c_66 => ?_)
    · refine Vw.aload_n (de_aload_0 (B 72 _ rfl)) 0 rfl (n := 73) rfl ?_
      refine Vw.iload_n (de_iload_2 (B 73 _ rfl)) 2 rfl (n := 74) rfl ?_
      refine Vw.ivv1 (mi' := mX12_takes) (de_invokevirtual (B 74 _ rfl) (B 75 _ rfl) (B 76 _ rfl)) ml_X12_140 mv_X12_takes hM.k (Nat.le_of_ble_eq_true rfl) (n := 77) rfl (c_X12_takes hM (by omega) (fun I3 f3 e3 => ?_))
      refine Vw.aload_n (de_aload_0 (B 77 _ rfl)) 0 rfl (n := 78) rfl ?_
      refine Vw.ivv0 (mi' := mX12_feasts) (de_invokevirtual (B 78 _ rfl) (B 79 _ rfl) (B 80 _ rfl)) ml_X12_384 mv_X12_feasts hM.k (Nat.le_of_ble_eq_true rfl) (n := 81) rfl (c_X12_feasts hM (fun I4 f4 e4 => ?_))
      refine Vw.aload_n (de_aload_0 (B 81 _ rfl)) 0 rfl (n := 82) rfl ?_
      refine Vw.iload_n (de_iload_2 (B 82 _ rfl)) 2 rfl (n := 83) rfl ?_
      refine Vw.ivv1 (mi' := mX12_puts) (de_invokevirtual (B 83 _ rfl) (B 84 _ rfl) (B 85 _ rfl)) ml_X12_378 mv_X12_puts hM.k (Nat.le_of_ble_eq_true rfl) (n := 86) rfl (c_X12_puts hM (by omega) ?_)
      refine Vw.iinc (v := nI (n + 1)) (lv2 := [(0, _), (1, _), (2, _)]) (de_iinc (B 86 _ rfl) (B 87 _ rfl) (B 88 _ rfl)) 2 rfl (nI_1 n) (by decide) [1, 2, 0] rfl (n := 89) rfl ?_
      refine Vw.goto_ (n := 40) (de_goto_ (B 89 _ rfl) (B 90 _ rfl) (B 91 _ rfl)) rfl ?_
      first
      | (refine ih z_45 _ (fJ.trans (fun a k h1 h2 h3 => by simp (disch := omega) only [up2_n])) ?_ ?_
         · rw [feastK_y (K := growK W (I (r + 2)) np) (s := s) (n := n) (by rw [← kJ]; exact fun q => c_66 (by rw [up2_a (show r + 2 ≠ r by omega)]; exact q)), up2_row (show r + 2 ≠ r by omega)]; exact kJ
         · rw [up2_s, feastK])
      | (refine ih z_45 _ (((fJ.trans (fun a k h1 h2 h3 => by simp (disch := omega) only [up2_n])).trans (f3.trans f4).fk).trans Fk.put) ?_ ?_
         · rw [feastK_n (K := growK W (I (r + 2)) np) (s := s) (n := n) (by rw [← kJ]; have q := c_66; rw [up2_a (show r + 2 ≠ r by omega)] at q; exact q), mPut_row e4, f4.k, f3.k, e3, up2_row (show r + 2 ≠ r by omega), kJ]
         · unfold mPut; rw [up2_a (by omega), up2_a (by omega), up2_a (by omega), f4.f (by decide), f3.f (by decide), up2_s, feastK])
    refine Vw.goto_ (n := 86) (de_goto_ (B 69 _ rfl) (B 70 _ rfl) (B 71 _ rfl)) rfl ?_
    refine Vw.iinc (v := nI (n + 1)) (lv2 := [(0, _), (1, _), (2, _)]) (de_iinc (B 86 _ rfl) (B 87 _ rfl) (B 88 _ rfl)) 2 rfl (nI_1 n) (by decide) [1, 2, 0] rfl (n := 89) rfl ?_
    refine Vw.goto_ (n := 40) (de_goto_ (B 89 _ rfl) (B 90 _ rfl) (B 91 _ rfl)) rfl ?_
    first
    | (refine ih z_45 _ (fJ.trans (fun a k h1 h2 h3 => by simp (disch := omega) only [up2_n])) ?_ ?_
       · rw [feastK_y (K := growK W (I (r + 2)) np) (s := s) (n := n) (by rw [← kJ]; exact fun q => c_66 (by rw [up2_a (show r + 2 ≠ r by omega)]; exact q)), up2_row (show r + 2 ≠ r by omega)]; exact kJ
       · rw [up2_s, feastK])
    | (refine ih z_45 _ (((fJ.trans (fun a k h1 h2 h3 => by simp (disch := omega) only [up2_n])).trans (f3.trans f4).fk).trans Fk.put) ?_ ?_
       · rw [feastK_n (K := growK W (I (r + 2)) np) (s := s) (n := n) (by rw [← kJ]; have q := c_66; rw [up2_a (show r + 2 ≠ r by omega)] at q; exact q), mPut_row e4, f4.k, f3.k, e3, up2_row (show r + 2 ≠ r by omega), kJ]
       · unfold mPut; rw [up2_a (by omega), up2_a (by omega), up2_a (by omega), f4.f (by decide), f3.f (by decide), up2_s, feastK])
  have loop1 : ∀ n, n ≤ np → ∀ J, Fk r I J → J (r + 2) = growK W (I (r + 2)) n → J r 55 = nI s → Vw mX12_quarters (d + 46) 0 0 0 0 (ViQ Q) 2 [(0, .ref r), (1, .int 1), (2, .int (nI n))] [] S J L := by
    refine loop_up (fun n hn ih => ?_)
    intro J fJ kJ sJ
    have e142 : J (r + 2) 142 = nI np := by rw [kJ, growK_o (by omega)]; exact hT.2.2.1
    have wJ : WD (J (r + 2)) W := by rw [kJ]; exact hW.of (fun x hx => growK_o (by omega))
    refine Vw.iload_n (de_iload_2 (B 2 _ rfl)) 2 rfl (n := 3) rfl ?_
    refine Vw.aload_n (de_aload_0 (B 3 _ rfl)) 0 rfl (n := 4) rfl ?_
    refine Vw.ivi0 (mi' := mX12_people) (de_invokevirtual (B 4 _ rfl) (B 5 _ rfl) (B 6 _ rfl)) ml_X12_121 mv_X12_people hM.k (Nat.le_of_ble_eq_true rfl) (n := 7) rfl (c_X12_people hM ?_)
    rw [e142]
    refine Vw.icmp_ge (tgt := 38) (n := 10) (de_icmp_ge (B 7 _ rfl) (B 8 _ rfl) (B 9 _ rfl)) rfl rfl (fun c_7 => ?_) (fun c_7 => ?_)
    · have z_7 : np ≤ n := ((nI_leI (a := np) (b := n) (by omega) (by omega)).mp c_7)
      obtain rfl : n = np := by omega
      refine Vw.iconst (v := 0) (de_iconst_0 (B 38 _ rfl)) rfl (n := 39) rfl ?_
      refine Vw.istore_n (lv2 := [(0, _), (1, _), (2, _)]) (de_istore_2 (B 39 _ rfl)) rfl (by decide) [1, 2, 0] rfl (n := 40) rfl ?_
      exact loop2 0 (Nat.zero_le _) J fJ kJ sJ
    have z_7 : n < np := by rcases Nat.lt_or_ge n np with z | z; exact z; exact absurd ((nI_leI (a := np) (b := n) (by omega) (by omega)).mpr z) c_7
    refine Vw.aload_n (de_aload_0 (B 10 _ rfl)) 0 rfl (n := 11) rfl ?_
    refine Vw.iload_n (de_iload_2 (B 11 _ rfl)) 2 rfl (n := 12) rfl ?_
    refine Vw.ivv1 (mi' := mX12_takes) (de_invokevirtual (B 12 _ rfl) (B 13 _ rfl) (B 14 _ rfl)) ml_X12_140 mv_X12_takes hM.k (Nat.le_of_ble_eq_true rfl) (n := 15) rfl (c_X12_takes hM (by omega) (fun I3 f3 e3 => ?_))
    refine Vw.aload_n (de_aload_0 (B 15 _ rfl)) 0 rfl (n := 16) rfl ?_
    refine Vw.iload_n (de_iload_2 (B 16 _ rfl)) 2 rfl (n := 17) rfl ?_
    refine Vw.aload_n (de_aload_0 (B 17 _ rfl)) 0 rfl (n := 18) rfl ?_
    refine Vw.getR (de_getfield (B 18 _ rfl) (B 19 _ rfl) (B 20 _ rfl)) fl_X12_24 rfl hM.k (MS_kept hM).1 (n := 21) rfl ?_
    refine Vw.bipush (v := 121) (de_bipush (B 21 _ rfl) (B 22 _ rfl)) rfl (n := 23) rfl ?_
    refine Vw.iald (de_iaload (B 23 _ rfl)) (MS_kept hM).2 (j := 121) ⟨rfl, by decide, by decide⟩ (n := 24) rfl ?_
    skip
    refine Vw.ivv2 (mi' := mX12_goesOn) (de_invokevirtual (B 24 _ rfl) (B 25 _ rfl) (B 26 _ rfl)) ml_X12_375 mv_X12_goesOn hM.k (Nat.le_of_ble_eq_true rfl) (n := 27) rfl (c_X12_goesOn (W := W) hM (by rw [f3.k]; exact wJ) (fun I4 f4 e4 => ?_))
    refine Vw.aload_n (de_aload_0 (B 27 _ rfl)) 0 rfl (n := 28) rfl ?_
    refine Vw.iload_n (de_iload_2 (B 28 _ rfl)) 2 rfl (n := 29) rfl ?_
    refine Vw.ivv1 (mi' := mX12_puts) (de_invokevirtual (B 29 _ rfl) (B 30 _ rfl) (B 31 _ rfl)) ml_X12_378 mv_X12_puts hM.k (Nat.le_of_ble_eq_true rfl) (n := 32) rfl (c_X12_puts hM (by omega) ?_)
    refine Vw.iinc (v := nI (n + 1)) (lv2 := [(0, _), (1, _), (2, _)]) (de_iinc (B 32 _ rfl) (B 33 _ rfl) (B 34 _ rfl)) 2 rfl (nI_1 n) (by decide) [1, 2, 0] rfl (n := 35) rfl ?_
    refine Vw.goto_ (n := 2) (de_goto_ (B 35 _ rfl) (B 36 _ rfl) (B 37 _ rfl)) rfl ?_
    refine ih z_7 _ ((fJ.trans (f3.trans f4).fk).trans Fk.put) ?_ ?_
    · rw [mPut_row e4, f4.k, f3.k, e3, kJ, growK]
    · unfold mPut; rw [up2_a (by omega), up2_a (by omega), up2_a (by omega), f4.f (by decide), f3.f (by decide)]; exact sJ
  refine Vw.iconst (v := 0) (de_iconst_0 (B 0 _ rfl)) rfl (n := 1) rfl ?_
  refine Vw.istore_n (lv2 := [(0, _), (1, _), (2, _)]) (de_istore_2 (B 1 _ rfl)) rfl (by decide) [1, 2, 0] rfl (n := 2) rfl ?_
  exact loop1 0 (Nat.zero_le _) I Fk.rfl rfl hs
