/-! law(): the whole -/
theorem len_lt {len i : Nat} (h1 : len ≤ 3072) (h2 : i ≤ 4000) : nI len - 6 < nI i ↔ len < i + 6 := by
  have e : (nI len - 6).toInt = (len : Int) - 6 := by
    rw [i32_sub, nI_ti (by omega)]
    · rfl
    · rw [nI_ti (by omega), show (6 : Int32).toInt = 6 from by decide]; omega
    · rw [nI_ti (by omega), show (6 : Int32).toInt = 6 from by decide]; omega
  rw [i32_lt, e, nI_ti (by omega)]; omega
set_option maxRecDepth 100000 in
theorem law_ts : decode mL_law.2.1 33 = .ok (.tableswitch 1359 0 38 #[171, 214, 247, 280, 313, 346, 379, 442, 465, 478, 491, 504, 517, 530, 543, 566, 629, 692, 725, 758, 771, 804, 817, 860, 883, 916, 960, 1003, 1046, 1089, 1132, 1175, 1188, 1211, 1244, 1277, 1300, 1323, 1346], 171) := by decide +kernel
set_option maxRecDepth 100000 in
theorem law_loop {Q : Int32 → vS → vI → vL → Prop} {z x r lb len : Nat} (hzx : z < x) (hl : len ≤ 3072) (h : ∀ S I L, Q 1 S I L) : ∀ m k S I L, len < 6 * k + 6 * m + 6 → 6 * k ≤ 3072 → REL S I x r lb → S.1 z = (400, len) → Vw mL_law (100 + 1) 600000 7302250 (8 * m) (480 * m) (ViQ Q) 18 [(0, .ref z), (1, .ref x), (2, .ref r), (3, .int (nI (6 * k)))] [] S I L := by
  have B := bs_L_law
  intro m
  induction m with
  | zero =>
    intro k S I L hm hk hR hz
    refine Vw.iload_n (de_iload_3 (B 18 _ rfl)) 3 rfl (n := 19) rfl ?_
    refine Vw.aload_n (de_aload_0 (B 19 _ rfl)) 0 rfl (n := 20) rfl ?_
    refine Vw.alenS (de_arraylength (B 20 _ rfl)) hz (n := 21) rfl ?_
    refine Vw.bipush (v := 6) (de_bipush (B 21 _ rfl) (B 22 _ rfl)) rfl (n := 23) rfl ?_
    refine Vw.isub (de_isub (B 23 _ rfl)) (n := 24) rfl ?_
    refine Vw.icmp_gt (tgt := 1398) (n := 27) (de_icmp_gt (B 24 _ rfl) (B 25 _ rfl) (B 26 _ rfl)) rfl rfl (fun c_24 => ?_) (fun c_24 => ?_)
    · refine Vw.iconst (v := 1) (de_iconst_1 (B 1398 _ rfl)) rfl (n := 1399) rfl ?_
      exact Vw.zret (de_ireturn (B 1399 _ rfl)) rfl rfl ⟨_, rfl, h S I L⟩
    · exact absurd ((len_lt hl (by omega)).mpr (by omega)) c_24
  | succ m ihm =>
    intro k S I L hm hk hR hz
    have hX := hR.kx
    have hM := hR.kr
    refine Vw.less (cr2 := 8 * m + 8) (sr2 := 480 * m + 480) (by omega) (by omega) ?_
    refine Vw.iload_n (de_iload_3 (B 18 _ rfl)) 3 rfl (n := 19) rfl ?_
    refine Vw.aload_n (de_aload_0 (B 19 _ rfl)) 0 rfl (n := 20) rfl ?_
    refine Vw.alenS (de_arraylength (B 20 _ rfl)) hz (n := 21) rfl ?_
    refine Vw.bipush (v := 6) (de_bipush (B 21 _ rfl) (B 22 _ rfl)) rfl (n := 23) rfl ?_
    refine Vw.isub (de_isub (B 23 _ rfl)) (n := 24) rfl ?_
    refine Vw.icmp_gt (tgt := 1398) (n := 27) (de_icmp_gt (B 24 _ rfl) (B 25 _ rfl) (B 26 _ rfl)) rfl rfl (fun c_24 => ?_) (fun c_24 => ?_)
    · refine Vw.iconst (v := 1) (de_iconst_1 (B 1398 _ rfl)) rfl (n := 1399) rfl ?_
      exact Vw.zret (de_ireturn (B 1399 _ rfl)) rfl rfl ⟨_, rfl, h S I L⟩
    have hk6 : 6 * k + 6 ≤ len := by
      rcases Nat.lt_or_ge len (6 * k + 6) with q | q
      · exact absurd ((len_lt hl (by omega)).mpr q) c_24
      · exact q
    have ih : ∀ S2 I2 L2, REL S2 I2 x r lb → S2.1 z = (400, len) → Vw mL_law (100 + 1) 600000 7302250 (8 * m) (480 * m) (ViQ Q) 18 [(0, .ref z), (1, .ref x), (2, .ref r), (3, .int (nI (6 * k + 6)))] [] S2 I2 L2 := fun S2 I2 L2 h1 h2 => ihm (k + 1) S2 I2 L2 (by omega) (by omega) h1 h2
    refine Vw.aload_n (de_aload_0 (B 27 _ rfl)) 0 rfl (n := 28) rfl ?_
    refine Vw.iload_n (de_iload_3 (B 28 _ rfl)) 3 rfl (n := 29) rfl ?_
    refine Vw.ialdS (j := 6 * k) (de_iaload (B 29 _ rfl)) hz (vIx_n rfl (by omega) (by omega)) (n := 30) rfl ?_
    refine Vw.bipush (v := 63) (de_bipush (B 30 _ rfl) (B 31 _ rfl)) rfl (n := 32) rfl ?_
    refine Vw.iand (de_iand (B 32 _ rfl)) (n := 33) rfl ?_
    have hts_33 := law_ts
    by_cases e_33_0 : (I z (6 * k) &&& 63) = (0 : Int32)
    · rw [e_33_0]
      refine Vw.tsIn (n := 204) hts_33 (by decide) (by decide) rfl rfl ?_
      exact law_person hR hz hzx (by omega) hl ih
    by_cases e_33_1 : (I z (6 * k) &&& 63) = (1 : Int32)
    · rw [e_33_1]
      refine Vw.tsIn (n := 247) hts_33 (by decide) (by decide) rfl rfl ?_
      exact law_of hR hz hzx (by omega) hl ih
    by_cases e_33_2 : (I z (6 * k) &&& 63) = (2 : Int32)
    · rw [e_33_2]
      refine Vw.tsIn (n := 280) hts_33 (by decide) (by decide) rfl rfl ?_
      exact law_nourish hR hz hzx (by omega) hl ih
    by_cases e_33_3 : (I z (6 * k) &&& 63) = (3 : Int32)
    · rw [e_33_3]
      refine Vw.tsIn (n := 313) hts_33 (by decide) (by decide) rfl rfl ?_
      exact law_bale hR hz hzx (by omega) hl ih
    by_cases e_33_4 : (I z (6 * k) &&& 63) = (4 : Int32)
    · rw [e_33_4]
      refine Vw.tsIn (n := 346) hts_33 (by decide) (by decide) rfl rfl ?_
      exact law_tailor hR hz hzx (by omega) hl ih
    by_cases e_33_5 : (I z (6 * k) &&& 63) = (5 : Int32)
    · rw [e_33_5]
      refine Vw.tsIn (n := 379) hts_33 (by decide) (by decide) rfl rfl ?_
      exact law_terms hR hz hzx (by omega) hl ih
    by_cases e_33_6 : (I z (6 * k) &&& 63) = (6 : Int32)
    · rw [e_33_6]
      refine Vw.tsIn (n := 412) hts_33 (by decide) (by decide) rfl rfl ?_
      exact law_feed hR hz hzx (by omega) hl ih
    by_cases e_33_7 : (I z (6 * k) &&& 63) = (7 : Int32)
    · rw [e_33_7]
      refine Vw.tsIn (n := 475) hts_33 (by decide) (by decide) rfl rfl ?_
      exact law_end hR hz hzx (by omega) hl ih
    by_cases e_33_8 : (I z (6 * k) &&& 63) = (8 : Int32)
    · rw [e_33_8]
      refine Vw.tsIn (n := 498) hts_33 (by decide) (by decide) rfl rfl ?_
      exact law_row hR hz hzx (by omega) hl ih
    by_cases e_33_9 : (I z (6 * k) &&& 63) = (9 : Int32)
    · rw [e_33_9]
      refine Vw.tsIn (n := 511) hts_33 (by decide) (by decide) rfl rfl ?_
      exact law_moths hR hz hzx (by omega) hl ih
    by_cases e_33_10 : (I z (6 * k) &&& 63) = (10 : Int32)
    · rw [e_33_10]
      refine Vw.tsIn (n := 524) hts_33 (by decide) (by decide) rfl rfl ?_
      exact law_law hR hz hzx (by omega) hl ih
    by_cases e_33_11 : (I z (6 * k) &&& 63) = (11 : Int32)
    · rw [e_33_11]
      refine Vw.tsIn (n := 537) hts_33 (by decide) (by decide) rfl rfl ?_
      exact law_orders hR hz hzx (by omega) hl ih
    by_cases e_33_12 : (I z (6 * k) &&& 63) = (12 : Int32)
    · rw [e_33_12]
      refine Vw.tsIn (n := 550) hts_33 (by decide) (by decide) rfl rfl ?_
      exact law_fault hR hz hzx (by omega) hl ih
    by_cases e_33_13 : (I z (6 * k) &&& 63) = (13 : Int32)
    · rw [e_33_13]
      refine Vw.tsIn (n := 563) hts_33 (by decide) (by decide) rfl rfl ?_
      exact law_stopped hR hz hzx (by omega) hl ih
    by_cases e_33_14 : (I z (6 * k) &&& 63) = (14 : Int32)
    · rw [e_33_14]
      refine Vw.tsIn (n := 576) hts_33 (by decide) (by decide) rfl rfl ?_
      exact law_force hR hz hzx (by omega) hl ih
    by_cases e_33_15 : (I z (6 * k) &&& 63) = (15 : Int32)
    · rw [e_33_15]
      refine Vw.tsIn (n := 599) hts_33 (by decide) (by decide) rfl rfl ?_
      exact law_asks hR hz hzx (by omega) hl ih
    by_cases e_33_16 : (I z (6 * k) &&& 63) = (16 : Int32)
    · rw [e_33_16]
      refine Vw.tsIn (n := 662) hts_33 (by decide) (by decide) rfl rfl ?_
      exact law_sew hR hz hzx (by omega) hl ih
    by_cases e_33_17 : (I z (6 * k) &&& 63) = (17 : Int32)
    · rw [e_33_17]
      refine Vw.tsIn (n := 725) hts_33 (by decide) (by decide) rfl rfl ?_
      exact law_coat hR hz hzx (by omega) hl ih
    by_cases e_33_18 : (I z (6 * k) &&& 63) = (18 : Int32)
    · rw [e_33_18]
      refine Vw.tsIn (n := 758) hts_33 (by decide) (by decide) rfl rfl ?_
      exact law_let hR hz hzx (by omega) hl ih
    by_cases e_33_19 : (I z (6 * k) &&& 63) = (19 : Int32)
    · rw [e_33_19]
      refine Vw.tsIn (n := 791) hts_33 (by decide) (by decide) rfl rfl ?_
      exact law_quarter hR hz hzx (by omega) hl ih
    by_cases e_33_20 : (I z (6 * k) &&& 63) = (20 : Int32)
    · rw [e_33_20]
      refine Vw.tsIn (n := 804) hts_33 (by decide) (by decide) rfl rfl ?_
      exact law_hand hR hz hzx (by omega) hl ih
    by_cases e_33_21 : (I z (6 * k) &&& 63) = (21 : Int32)
    · rw [e_33_21]
      refine Vw.tsIn (n := 837) hts_33 (by decide) (by decide) rfl rfl ?_
      exact law_undo hR hz hzx (by omega) hl ih
    by_cases e_33_22 : (I z (6 * k) &&& 63) = (22 : Int32)
    · rw [e_33_22]
      refine Vw.tsIn (n := 850) hts_33 (by decide) (by decide) rfl rfl ?_
      exact law_will hR hz hzx (by omega) hl ih
    by_cases e_33_23 : (I z (6 * k) &&& 63) = (23 : Int32)
    · rw [e_33_23]
      refine Vw.tsIn (n := 893) hts_33 (by decide) (by decide) rfl rfl ?_
      exact law_due hR hz hzx (by omega) hl ih
    by_cases e_33_24 : (I z (6 * k) &&& 63) = (24 : Int32)
    · rw [e_33_24]
      refine Vw.tsIn (n := 916) hts_33 (by decide) (by decide) rfl rfl ?_
      exact law_falls hR hz hzx (by omega) hl ih
    by_cases e_33_25 : (I z (6 * k) &&& 63) = (25 : Int32)
    · rw [e_33_25]
      refine Vw.tsIn (n := 949) hts_33 (by decide) (by decide) rfl rfl ?_
      exact law_odds hR hz hzx (by omega) hl ih
    by_cases e_33_26 : (I z (6 * k) &&& 63) = (26 : Int32)
    · rw [e_33_26]
      refine Vw.tsIn (n := 993) hts_33 (by decide) (by decide) rfl rfl ?_
      exact law_cutting hR hz hzx (by omega) hl ih
    by_cases e_33_27 : (I z (6 * k) &&& 63) = (27 : Int32)
    · rw [e_33_27]
      refine Vw.tsIn (n := 1036) hts_33 (by decide) (by decide) rfl rfl ?_
      exact law_dress hR hz hzx (by omega) hl ih
    by_cases e_33_28 : (I z (6 * k) &&& 63) = (28 : Int32)
    · rw [e_33_28]
      refine Vw.tsIn (n := 1079) hts_33 (by decide) (by decide) rfl rfl ?_
      exact law_game hR hz hzx (by omega) hl ih
    by_cases e_33_29 : (I z (6 * k) &&& 63) = (29 : Int32)
    · rw [e_33_29]
      refine Vw.tsIn (n := 1122) hts_33 (by decide) (by decide) rfl rfl ?_
      exact law_fed hR hz hzx (by omega) hl ih
    by_cases e_33_30 : (I z (6 * k) &&& 63) = (30 : Int32)
    · rw [e_33_30]
      refine Vw.tsIn (n := 1165) hts_33 (by decide) (by decide) rfl rfl ?_
      exact law_sight hR hz hzx (by omega) hl ih
    by_cases e_33_31 : (I z (6 * k) &&& 63) = (31 : Int32)
    · rw [e_33_31]
      refine Vw.tsIn (n := 1208) hts_33 (by decide) (by decide) rfl rfl ?_
      exact law_forget hR hz hzx (by omega) hl ih
    by_cases e_33_32 : (I z (6 * k) &&& 63) = (32 : Int32)
    · rw [e_33_32]
      refine Vw.tsIn (n := 1221) hts_33 (by decide) (by decide) rfl rfl ?_
      exact law_hidden hR hz hzx (by omega) hl ih
    by_cases e_33_33 : (I z (6 * k) &&& 63) = (33 : Int32)
    · rw [e_33_33]
      refine Vw.tsIn (n := 1244) hts_33 (by decide) (by decide) rfl rfl ?_
      exact law_years hR hz hzx (by omega) hl ih
    by_cases e_33_34 : (I z (6 * k) &&& 63) = (34 : Int32)
    · rw [e_33_34]
      refine Vw.tsIn (n := 1277) hts_33 (by decide) (by decide) rfl rfl ?_
      exact law_drawn hR hz hzx (by omega) hl ih
    by_cases e_33_35 : (I z (6 * k) &&& 63) = (35 : Int32)
    · rw [e_33_35]
      refine Vw.tsIn (n := 1310) hts_33 (by decide) (by decide) rfl rfl ?_
      exact law_image hR hz hzx (by omega) hl ih
    by_cases e_33_36 : (I z (6 * k) &&& 63) = (36 : Int32)
    · rw [e_33_36]
      refine Vw.tsIn (n := 1333) hts_33 (by decide) (by decide) rfl rfl ?_
      exact law_back hR hz hzx (by omega) hl ih
    by_cases e_33_37 : (I z (6 * k) &&& 63) = (37 : Int32)
    · rw [e_33_37]
      refine Vw.tsIn (n := 1356) hts_33 (by decide) (by decide) rfl rfl ?_
      exact law_count hR hz hzx (by omega) hl ih
    by_cases e_33_38 : (I z (6 * k) &&& 63) = (38 : Int32)
    · rw [e_33_38]
      refine Vw.tsIn (n := 1379) hts_33 (by decide) (by decide) rfl rfl ?_
      exact law_status hR hz hzx (by omega) hl ih
    refine Vw.tsOut (n := 1392) hts_33 (by have q0 := ne_ti e_33_0 0 rfl ; have q1 := ne_ti e_33_1 1 rfl ; have q2 := ne_ti e_33_2 2 rfl ; have q3 := ne_ti e_33_3 3 rfl ; have q4 := ne_ti e_33_4 4 rfl ; have q5 := ne_ti e_33_5 5 rfl ; have q6 := ne_ti e_33_6 6 rfl ; have q7 := ne_ti e_33_7 7 rfl ; have q8 := ne_ti e_33_8 8 rfl ; have q9 := ne_ti e_33_9 9 rfl ; have q10 := ne_ti e_33_10 10 rfl ; have q11 := ne_ti e_33_11 11 rfl ; have q12 := ne_ti e_33_12 12 rfl ; have q13 := ne_ti e_33_13 13 rfl ; have q14 := ne_ti e_33_14 14 rfl ; have q15 := ne_ti e_33_15 15 rfl ; have q16 := ne_ti e_33_16 16 rfl ; have q17 := ne_ti e_33_17 17 rfl ; have q18 := ne_ti e_33_18 18 rfl ; have q19 := ne_ti e_33_19 19 rfl ; have q20 := ne_ti e_33_20 20 rfl ; have q21 := ne_ti e_33_21 21 rfl ; have q22 := ne_ti e_33_22 22 rfl ; have q23 := ne_ti e_33_23 23 rfl ; have q24 := ne_ti e_33_24 24 rfl ; have q25 := ne_ti e_33_25 25 rfl ; have q26 := ne_ti e_33_26 26 rfl ; have q27 := ne_ti e_33_27 27 rfl ; have q28 := ne_ti e_33_28 28 rfl ; have q29 := ne_ti e_33_29 29 rfl ; have q30 := ne_ti e_33_30 30 rfl ; have q31 := ne_ti e_33_31 31 rfl ; have q32 := ne_ti e_33_32 32 rfl ; have q33 := ne_ti e_33_33 33 rfl ; have q34 := ne_ti e_33_34 34 rfl ; have q35 := ne_ti e_33_35 35 rfl ; have q36 := ne_ti e_33_36 36 rfl ; have q37 := ne_ti e_33_37 37 rfl ; have q38 := ne_ti e_33_38 38 rfl; omega) rfl ?_
    exact Vw.less (cr2 := 8 * m) (sr2 := 480 * m) (by omega) (by omega) (law_t (ih S I L hR hz))
theorem ClsS.lo {S S2 : vS} {x : Nat} (h : ClsS S x) (lo : ∀ b, x ≤ b → b < x + 914 → S2.1 b = S.1 b ∧ S2.2.1 b = S.2.1 b) : ClsS S2 x := by
  have e := lo x (by omega) (by omega)
  have l1 : ∀ b, x < b → b < x + 914 → S2.1 b = S.1 b ∧ S2.2.1 b = S.2.1 b := fun b g1 g2 => lo b (by omega) g2
  obtain ⟨i1, i2, i3, i4⟩ := h.im
  have e54 := lo (x + 854) (by omega) (by omega)
  exact ⟨e.1.trans h.1, (congrFun e.2 0).trans h.f0, h.p0.btw (c := x) (q := x + 914) (by omega) (by omega) l1, (congrFun e.2 1).trans h.f1, h.p1.btw (c := x) (q := x + 914) (by omega) (by omega) (by omega) (by omega) l1, (congrFun e.2 2).trans h.f2, h.p2.btw (c := x) (q := x + 914) (by omega) (by omega) (by omega) (by omega) (by omega) (by omega) l1, (congrFun e.2 3).trans h.f3, h.p3.btw (c := x) (q := x + 914) (by omega) (by omega) (by omega) (by omega) (by omega) (by omega) l1, (congrFun e.2 4).trans h.f4, h.p4.btw (c := x) (q := x + 914) (by omega) (by omega) (by omega) (by omega) (by omega) (by omega) (by omega) (by omega) l1, (congrFun e.2 5).trans h.f5, h.p5.btw (c := x) (q := x + 914) (by omega) (by omega) l1, (congrFun e.2 6).trans h.f6, h.p6.btw (c := x) (q := x + 914) (by omega) (by omega) l1, (congrFun e.2 7).trans h.f7, h.p7.btw (c := x) (q := x + 914) (by omega) (by omega) l1, (congrFun e.2 8).trans h.f8, h.p8.btw (c := x) (q := x + 914) (by omega) (by omega) l1, (congrFun e.2 9).trans h.f9, e54.1.trans h.r9, (congrFun e.2 10).trans h.f10, (lo (x + 855) (by omega) (by omega)).1.trans h.r10, (congrFun e.2 11).trans h.f11, (lo (x + 856) (by omega) (by omega)).1.trans h.r11, (congrFun e.2 17).trans h.f17, (lo (x + 857) (by omega) (by omega)).1.trans h.r17, (congrFun e54.2 0).trans i1, i2.btw (c := x) (q := x + 914) (by omega) (by omega) l1, (congrFun e54.2 1).trans i3, i4.btw (c := x) (q := x + 914) (by omega) (by omega) l1⟩
theorem REL.first {S : vS} {I : vI} {x r lb : Nat} (hP : SPx S x r lb) (sz : STZ I (x + 1)) (z34 : ∀ k, I (x + 34) k = 0) (z89 : ∀ k, I (x + 89) k = 0) (z460 : ∀ k, I (x + 460) k = 0) (z855 : ∀ k, I (x + 855) k = 0) (z856 : ∀ k, I (x + 856) k = 0) (z857 : ∀ k, I (x + 857) k = 0) (x14 : I x 14 = -1) (x15 : I x 15 = -1) (xk : ∀ k, k ≠ 14 → k ≠ 15 → I x k = 0)
    (rk : ∀ k, I r k = if k = 12 ∨ k = 43 then -1 else 0) (r1 : ∀ q, I (r + 1) q = 0) (r2 : ∀ q, I (r + 2) q = if q = 145 then -1 else if q = 140 then 3 else 0) (r4 : ∀ q, I (r + 4) q = 0) (r6 : Wd (I (r + 6)) WL 0) (r7 : ∀ q, I (r + 7) q = 0) : REL S I x r lb := by
  obtain ⟨s1, s2, s3, s4⟩ := sz
  have k0 : ∀ q, q ≠ 145 → q ≠ 140 → I (r + 2) q = nI 0 := fun q h1 h2 => by rw [r2, if_neg h1, if_neg h2]; rfl
  have n0 : (0 : Int32) = nI 0 := rfl
  refine ⟨[], 0, 0, 0, 0, ⟨⟨⟨?_, ?_, ?_, fun q k hq => absurd hq (by omega), fun c k hc => absurd hc (by omega), fun j hj => ⟨?_, ?_⟩⟩, ⟨by omega, by omega, k0 _ (by decide) (by decide), k0 _ (by decide) (by decide), fun c hc => absurd hc (by omega)⟩, ⟨fun q hq => absurd hq (by omega), fun t ht => ⟨0, by omega, k0 _ (by omega) (by omega)⟩, fun c hc => absurd hc (by omega), ?_⟩, ⟨?_, by omega, fun i hi => absurd hi (by omega)⟩, k0 _ (by decide) (by decide), fun i hi => absurd hi (by omega), ⟨by omega, ?_, k0 _ (by decide) (by decide), fun t ht => absurd ht (by omega)⟩, ?_, Or.inl ?_, ?_, ?_, 3, by omega, ?_⟩, ⟨Nat.zero_le _, ?_, 0, by omega, ?_, fun i k c q => by cases q⟩, ⟨0, by omega, ?_⟩, ⟨0, by omega, ?_, ?_⟩, fun j hj => ⟨?_, ?_⟩, ?_, ?_, ?_, ?_, fun j hj => ?_, fun k hk => ⟨?_, fun q => absurd (r4 k) q⟩, ?_, 0, by omega, ?_, fun q => absurd (by rw [rk, if_neg (by decide)]) q⟩, fun i k c q => (by cases q), ?_, r6, hP⟩
  · exact s2 4
  · exact s2 5
  · rw [s2 6, k0 _ (by decide) (by decide)]; rfl
  · rw [s3, k0 _ (by omega) (by omega)]; rfl
  · rw [s4, k0 _ (by omega) (by omega)]; rfl
  · unfold NB; rw [k0 _ (by decide) (by decide)]; decide
  · rw [s1, if_neg (by decide), if_neg (by decide)]; rfl
  · rw [s1, if_neg (by decide), if_neg (by decide)]; rfl
  · rw [s1, if_pos rfl, r2, if_pos rfl]
  · rw [r2, if_pos rfl]
  · rw [s1, if_neg (by decide), if_pos rfl, r2, if_neg (by decide), if_pos rfl]
  · rw [s1, if_neg (by decide), if_neg (by decide), k0 _ (by decide) (by decide)]; rfl
  · rw [r2, if_neg (by decide), if_pos rfl]; rfl
  · exact z89 3
  · exact z89 2
  · exact z460 2
  · rw [rk, if_neg (by decide)]; rfl
  · exact xk 12 (by decide) (by decide)
  · rw [z856, r7]; rfl
  · rw [r7]; exact ⟨by decide, by decide⟩
  · rw [xk 13 (by decide) (by decide), rk, if_neg (by decide)]
  · rw [x14, rk, if_pos (by decide)]
  · rw [x15, rk, if_pos (by decide)]
  · rw [xk 16 (by decide) (by decide), rk, if_neg (by decide)]
  · rw [z857, r1]
  · rw [z855, r4]
  · rw [z34, rk, if_neg (by decide)]
  · rw [rk, if_neg (by decide)]; rfl
  · rw [rk, if_neg (by decide)]; rfl
set_option maxRecDepth 100000 in
theorem law_all {Q : Int32 → vS → vI → vL → Prop} {z len : Nat} {S : vS} {I : vI} {L : vL} (hl : len ≤ 3072) (hz : S.1 z = (400, len)) (hzx : z < S.2.2) (ht : ∀ k, k < 11 → ∃ a b, a < S.2.2 ∧ b < S.2.2 ∧ (S.1 a).1 = 300 + k ∧ vBy (S.1 b) k) (h : ∀ S I L, Q 1 S I L) : Vw mL_law (100 + 1) 600000 7302250 600000 7302250 (ViQ Q) 0 [(0, .ref z)] [] S I L := by
  have B := bs_L_law
  obtain ⟨x, ex⟩ : ∃ x, x = S.2.2 := ⟨_, rfl⟩
  rw [← ex] at hzx ht
  refine Vw.newQ (c := 11) (cr := 599999) (sr := 7302232) (de_new (B 0 _ rfl) (B 1 _ rfl) (B 2 _ rfl)) (by decide) cl_L_7 (n := 3) rfl (fun S1 I1 L1 w1 => ?_)
  rw [← ex]
  have wa := w1.at ex.symm
  refine Vw.dup (de_dup (B 3 _ rfl)) rfl (n := 4) rfl ?_
  refine Vw.iiv0 (mi' := mX11_init) (d := 100) (cr := 599086) (sr := 7282097) (mc' := 913) (ms' := 20135) (de_invokespecial (B 4 _ rfl) (B 5 _ rfl) (B 6 _ rfl)) (Or.inl ml_L_9) mi_X11_init (Nat.le_of_ble_eq_true rfl) (n := 7) rfl (c_X11_init (d := 96) wa.1 wa.2.1 wa.2.2 (fun S2 I2 L2 n2 nf2 cls la lb_ lc sz z34 z89 z460 z855 z856 z857 x14 x15 xk => ?_))
  refine Vw.astore_n (lv2 := [(0, _), (1, _)]) (de_astore_1 (B 7 _ rfl)) rfl (by decide) [1, 0] rfl (n := 8) rfl ?_
  refine Vw.newQ (c := 12) (cr := 599085) (sr := 7282040) (de_new (B 8 _ rfl) (B 9 _ rfl) (B 10 _ rfl)) (by decide) cl_L_10 (n := 11) rfl (fun S3 I3 L3 w3 => ?_)
  rw [n2]
  have wb := w3.at n2
  refine Vw.dup (de_dup (B 11 _ rfl)) rfl (n := 12) rfl ?_
  refine Vw.iiv0 (mi' := mX12_init) (d := 100) (cr := 599058) (sr := 7249065) (mc' := 27) (ms' := 32975) (de_invokespecial (B 12 _ rfl) (B 13 _ rfl) (B 14 _ rfl)) (Or.inl ml_L_12) mi_X12_init (Nat.le_of_ble_eq_true rfl) (n := 15) rfl (c_X12_init (d := 99) wb.1 wb.2.1 wb.2.2 (fun S4 I4 L4 n4 nf4 hM rk r1 r2 r4 r6 r7 => ?_))
  refine Vw.astore_n (lv2 := [(0, _), (1, _), (2, _)]) (de_astore_2 (B 15 _ rfl)) rfl (by decide) [1, 2, 0] rfl (n := 16) rfl ?_
  refine Vw.iconst (v := 0) (de_iconst_0 (B 16 _ rfl)) rfl (n := 17) rfl ?_
  refine Vw.istore_n (lv2 := [(0, _), (1, _), (2, _), (3, _)]) (de_istore_3 (B 17 _ rfl)) rfl (by decide) [1, 2, 3, 0] rfl (n := 18) rfl ?_
  have lo : ∀ b, b < x + 914 → S4.1 b = S2.1 b ∧ S4.2.1 b = S2.2.1 b ∧ I4 b = I2 b := fun b hb => ⟨(nf4.1 b hb).1.trans (w3.2.2.1 b (by omega)).1, (nf4.1 b hb).2.trans (w3.2.2.1 b (by omega)).2, (nf4.2.2 b hb).trans (w3.2.2.2.1 b (by omega))⟩
  have lk : ∀ b, b < x → S4.1 b = S.1 b := fun b hb => (lo b (by omega)).1.trans ((nf2.1 b hb).1.trans (w1.2.2.1 b (by omega)).1)
  have hP : SPx S4 x (x + 914) (x + 942) := by
    refine ⟨cls.lo (fun b _ g2 => ⟨(lo b g2).1, (lo b g2).2.1⟩), hM, fun k hk => ?_, rfl, rfl, Nat.le_of_eq n4.symm, fun t _ => Or.inl ?_, fun t _ => Or.inl ?_, fun t _ => Or.inl ?_⟩
    · obtain ⟨a, b, q1, q2, q3, q4⟩ := ht k hk
      exact ⟨a, b, q1, q2, by rw [lk a q1]; exact q3, by rw [lk b q2]; exact q4⟩
    · rw [(lo (x + 1 + 24) (by omega)).2.1]; exact la t
    · rw [(lo (x + 858 + 24) (by omega)).2.1]; exact lb_ t
    · rw [(lo (x + 886 + 24) (by omega)).2.1]; exact lc t
  have rI : ∀ k, k < 914 → I4 (x + k) = I2 (x + k) := fun k hk => (lo _ (by omega)).2.2
  have rx : I4 x = I2 x := (lo x (by omega)).2.2
  have R := REL.first hP (sz.of (fun b g1 g2 => (lo b (by omega)).2.2)) (by rw [rI 34 (by omega)]; exact z34) (by rw [rI 89 (by omega)]; exact z89) (by rw [rI 460 (by omega)]; exact z460) (by rw [rI 855 (by omega)]; exact z855) (by rw [rI 856 (by omega)]; exact z856) (by rw [rI 857 (by omega)]; exact z857) (by rw [rx]; exact x14) (by rw [rx]; exact x15) (by rw [rx]; exact xk) rk r1 r2 r4 r6 r7
  refine Vw.less (cr2 := 8 * 512) (sr2 := 480 * 512) (by decide) (by decide) ?_
  exact law_loop hzx hl h 512 0 S4 I4 L4 (by omega) (by omega) R ((lk z hzx).trans hz)
