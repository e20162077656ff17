/-! Questions of the class -/
theorem Fr2.fs {x : Nat} {I J : vI} (h : Fr2 (x + 29) I J) : FS x I J := fun b k h1 _ _ _ => congrFun (h b (by omega) (by omega)) k
theorem Oa.fs {x a : Nat} {I J : vI} (h : Oa a I J) (ha : a = x + 29 ∨ a = x + 30) : FS x I J := fun b k h1 _ _ _ => congrFun (h b (by omega)) k
theorem FP.fs {x : Nat} {I J : vI} (h : FP (x + 1) I J) : FS x I J := fun b k h1 h2 _ _ => congrFun (h b (by omega) (by omega) (by omega)) k
theorem FF.fs {x : Nat} {I J : vI} (h : FF (x + 1) I J) : FS x I J := fun b k h1 h2 _ _ => congrFun (h b (by omega) (by omega) (by omega)) k
theorem FC.fs {x : Nat} {I J : vI} (h : FC (x + 1) I J) : FS x I J := fun b k h1 h2 h3 _ => congrFun (h b (by omega) (by omega) (by omega) (by omega)) k
theorem FO.fs {x : Nat} {I J : vI} (h : FO (x + 1) I J) : FS x I J := fun b k h1 h2 _ h4 => h b k (by omega) (by omega) (by omega) (by omega)
theorem barP_n1 {W : tW} {p tl size wide now : Int32} {P : tP} (h : ¬ barP W p tl size wide now P = 0) : barP W p tl size wide now P = 1 := by
  unfold barP at h ⊢
  split
  · rfl
  · rename_i q; rw [if_neg q] at h; exact absurd rfl h
theorem fitP_n1 {a b : Int32} {P : tP} (h : ¬ fitP a b P = 0) : fitP a b P = 1 := by
  unfold fitP at h ⊢
  split
  · split
    · rfl
    · rename_i q1 q; rw [if_pos q1, if_neg q] at h; exact absurd rfl h
  · rename_i q; rw [if_neg q] at h; exact absurd rfl h
theorem q_of {d : Nat} {S : vS} {I : vI} {L : vL} {Q : Int32 → vS → vI → vL → Prop} {x lb np nc ns nl : Nat} {K : Nat → Int32} {W : tW} {p y : Int32}  (hC : ClsS S x) (hs : STR S I (x + 1) lb K np nc ns nl) (hW : WC S I (x + 1) lb W) (hlb : x + 942 ≤ lb)  (h : ∀ I2 M, FS x I I2 → Q (ofP W K np nc p y) S I2 M) : Vc mX11_of (d + 80) 0 0 [.ref x, .int p, .int y] S I L (ViQ Q) := by
  refine Vc.of rfl (Nat.le_of_ble_eq_true rfl) ?_
  have B := bs_X11_of
  show Vw mX11_of (d + 80) 0 0 0 0 (ViQ Q) 0 [(0, .ref x), (1, .int p), (2, .int y)] [] S I L
  have hT := hC.p0.p0
  have hR := hC.p1
  have hp := hC.p3
  have hN := hs.tn
  have h8 := hN.1
  have h10 := hN.2.1
  have hK := hs.tr
  refine Vw.aload_n (de_aload_0 (B 0 _ rfl)) 0 rfl (n := 1) rfl ?_
  refine Vw.getR (de_getfield (B 1 _ rfl) (B 2 _ rfl) (B 3 _ rfl)) fl_X11_12 rfl hC.k hC.f0 (n := 4) rfl ?_
  refine Vw.getR (de_getfield (B 4 _ rfl) (B 5 _ rfl) (B 6 _ rfl)) fl_X11_104 rfl hC.p0.k hC.p0.f0 (n := 7) rfl ?_
  refine Vw.astore_n (lv2 := [(0, _), (1, _), (2, _), (3, _)]) (de_astore_3 (B 7 _ rfl)) rfl (by decide) [1, 2, 3, 0] rfl (n := 8) rfl ?_
  refine Vw.aload_n (de_aload_3 (B 8 _ rfl)) 3 rfl (n := 9) rfl ?_
  refine Vw.iload_n (de_iload_1 (B 9 _ rfl)) 1 rfl (n := 10) rfl ?_
  refine Vw.ivi1 (mi' := mX9_hasPerson) (de_invokevirtual (B 10 _ rfl) (B 11 _ rfl) (B 12 _ rfl)) ml_X11_120 mv_X9_hasPerson hC.p0.p0.k (Nat.le_of_ble_eq_true rfl) (n := 13) rfl (c_X9_hasPerson hT hK.1 (by omega) ?_)
  refine Vw.if_ne (tgt := 20) (n := 16) (de_if_ne (B 13 _ rfl) (B 14 _ rfl) (B 15 _ rfl)) rfl rfl (fun c_13 => ?_) (fun c_13 => ?_)
  · obtain ⟨q, hq, rfl⟩ := lie_ex (n := np) (by omega) c_13
    refine Vw.aload_n (de_aload_3 (B 20 _ rfl)) 3 rfl (n := 21) rfl ?_
    refine Vw.getR (de_getfield (B 21 _ rfl) (B 22 _ rfl) (B 23 _ rfl)) fl_X11_124 rfl hC.p0.p0.k hC.p0.p0.f0 (n := 24) rfl ?_
    refine Vw.iload_n (de_iload_1 (B 24 _ rfl)) 1 rfl (n := 25) rfl ?_
    refine Vw.aald3 (b := 0) (de_aaload (B 25 _ rfl)) hC.p0.p0.r0 (vIx_n (k := q) rfl (by omega)) (hT.pr (show q < 8 by omega)) (n := 26) rfl ?_
    refine Vw.astore (lv2 := [(0, _), (1, _), (2, _), (3, _), (4, _)]) (de_astore (B 26 _ rfl) (B 27 _ rfl)) (by decide) [1, 2, 3, 4, 0] rfl (n := 28) rfl ?_
    refine Vw.iload_n (de_iload_2 (B 28 _ rfl)) 2 rfl (n := 29) rfl ?_
    have hts_29 : decode mX11_of.2.1 29 = .ok (.tableswitch 103 0 6 #[43, 49, 55, 61, 67, 82, 97], 43) := by decide +kernel
    by_cases e_29_0 : y = (0 : Int32)
    · rw [e_29_0]
      refine Vw.tsIn (n := 72) hts_29 (by decide) (by decide) rfl rfl ?_
      refine Vw.aload (de_aload (B 72 _ rfl) (B 73 _ rfl)) 4 rfl (n := 74) rfl ?_
      refine Vw.getI (de_getfield (B 74 _ rfl) (B 75 _ rfl) (B 76 _ rfl)) fl_X11_128 rfl (hT.pk (show q < 8 by omega)) (n := 77) rfl ?_
      rw [hK.2.2.2.1 q 0 hq (by decide)]
      exact Vw.iret (de_ireturn (B 77 _ rfl)) rfl ⟨_, rfl, (qv (by unfold ofP; rw [if_neg c_13, if_pos e_29_0, nI_cl (by omega)]; rfl) (h I L FS.rfl))⟩
    by_cases e_29_1 : y = (1 : Int32)
    · rw [e_29_1]
      refine Vw.tsIn (n := 78) hts_29 (by decide) (by decide) rfl rfl ?_
      refine Vw.aload (de_aload (B 78 _ rfl) (B 79 _ rfl)) 4 rfl (n := 80) rfl ?_
      refine Vw.getI (de_getfield (B 80 _ rfl) (B 81 _ rfl) (B 82 _ rfl)) fl_X11_133 rfl (hT.pk (show q < 8 by omega)) (n := 83) rfl ?_
      rw [hK.2.2.2.1 q 1 hq (by decide)]
      exact Vw.iret (de_ireturn (B 83 _ rfl)) rfl ⟨_, rfl, (qv (by unfold ofP; rw [if_neg c_13, if_neg e_29_0, if_pos e_29_1, nI_cl (by omega)]; rfl) (h I L FS.rfl))⟩
    by_cases e_29_2 : y = (2 : Int32)
    · rw [e_29_2]
      refine Vw.tsIn (n := 84) hts_29 (by decide) (by decide) rfl rfl ?_
      refine Vw.aload (de_aload (B 84 _ rfl) (B 85 _ rfl)) 4 rfl (n := 86) rfl ?_
      refine Vw.getI (de_getfield (B 86 _ rfl) (B 87 _ rfl) (B 88 _ rfl)) fl_X11_136 rfl (hT.pk (show q < 8 by omega)) (n := 89) rfl ?_
      rw [hK.2.2.2.1 q 2 hq (by decide)]
      exact Vw.iret (de_ireturn (B 89 _ rfl)) rfl ⟨_, rfl, (qv (by unfold ofP; rw [if_neg c_13, if_neg e_29_0, if_neg e_29_1, if_pos e_29_2, nI_cl (by omega)]; rfl) (h I L FS.rfl))⟩
    by_cases e_29_3 : y = (3 : Int32)
    · rw [e_29_3]
      refine Vw.tsIn (n := 90) hts_29 (by decide) (by decide) rfl rfl ?_
      refine Vw.aload (de_aload (B 90 _ rfl) (B 91 _ rfl)) 4 rfl (n := 92) rfl ?_
      refine Vw.getI (de_getfield (B 92 _ rfl) (B 93 _ rfl) (B 94 _ rfl)) fl_X11_139 rfl (hT.pk (show q < 8 by omega)) (n := 95) rfl ?_
      rw [hK.2.2.2.1 q 3 hq (by decide)]
      exact Vw.iret (de_ireturn (B 95 _ rfl)) rfl ⟨_, rfl, (qv (by unfold ofP; rw [if_neg c_13, if_neg e_29_0, if_neg e_29_1, if_neg e_29_2, if_pos e_29_3, nI_cl (by omega)]; rfl) (h I L FS.rfl))⟩
    by_cases e_29_4 : y = (4 : Int32)
    · rw [e_29_4]
      refine Vw.tsIn (n := 96) hts_29 (by decide) (by decide) rfl rfl ?_
      refine Vw.aload_n (de_aload_0 (B 96 _ rfl)) 0 rfl (n := 97) rfl ?_
      refine Vw.getR (de_getfield (B 97 _ rfl) (B 98 _ rfl) (B 99 _ rfl)) fl_X11_21 rfl hC.k hC.f1 (n := 100) rfl ?_
      refine Vw.aload (de_aload (B 100 _ rfl) (B 101 _ rfl)) 4 rfl (n := 102) rfl ?_
      refine Vw.iload_n (de_iload_1 (B 102 _ rfl)) 1 rfl (n := 103) rfl ?_
      refine Vw.aload_n (de_aload_3 (B 103 _ rfl)) 3 rfl (n := 104) rfl ?_
      refine Vw.getI (de_getfield (B 104 _ rfl) (B 105 _ rfl) (B 106 _ rfl)) fl_X11_142 rfl hC.p0.p0.k (n := 107) rfl ?_
      rw [hK.2.2.1]
      refine Vw.ivi3 (mi' := mX6_growthOf) (de_invokevirtual (B 107 _ rfl) (B 108 _ rfl) (B 109 _ rfl)) ml_X11_145 mv_X6_growthOf hC.p1.k (Nat.le_of_ble_eq_true rfl) (n := 110) rfl (c_X6_growthOf hR (hT.pk (show q < 8 by omega)) hW (by omega) (fun I2 M f2 m2 => ?_))
      rw [hK.per hq]
      exact Vw.iret (de_ireturn (B 110 _ rfl)) rfl ⟨_, rfl, (qv (by unfold ofP; rw [if_neg c_13, if_neg e_29_0, if_neg e_29_1, if_neg e_29_2, if_neg e_29_3, if_pos e_29_4, nI_cl (by omega)]) (h I2 M (f2.fs (Or.inr rfl))))⟩
    by_cases e_29_5 : y = (5 : Int32)
    · rw [e_29_5]
      refine Vw.tsIn (n := 111) hts_29 (by decide) (by decide) rfl rfl ?_
      refine Vw.aload_n (de_aload_0 (B 111 _ rfl)) 0 rfl (n := 112) rfl ?_
      refine Vw.getR (de_getfield (B 112 _ rfl) (B 113 _ rfl) (B 114 _ rfl)) fl_X11_21 rfl hC.k hC.f1 (n := 115) rfl ?_
      refine Vw.aload (de_aload (B 115 _ rfl) (B 116 _ rfl)) 4 rfl (n := 117) rfl ?_
      refine Vw.iload_n (de_iload_1 (B 117 _ rfl)) 1 rfl (n := 118) rfl ?_
      refine Vw.aload_n (de_aload_3 (B 118 _ rfl)) 3 rfl (n := 119) rfl ?_
      refine Vw.getI (de_getfield (B 119 _ rfl) (B 120 _ rfl) (B 121 _ rfl)) fl_X11_142 rfl hC.p0.p0.k (n := 122) rfl ?_
      rw [hK.2.2.1]
      refine Vw.ivi3 (mi' := mX6_wideningOf) (de_invokevirtual (B 122 _ rfl) (B 123 _ rfl) (B 124 _ rfl)) ml_X11_149 mv_X6_wideningOf hC.p1.k (Nat.le_of_ble_eq_true rfl) (n := 125) rfl (c_X6_wideningOf hR (hT.pk (show q < 8 by omega)) hW (by omega) (fun I2 M f2 m2 => ?_))
      rw [hK.per hq]
      exact Vw.iret (de_ireturn (B 125 _ rfl)) rfl ⟨_, rfl, (qv (by unfold ofP; rw [if_neg c_13, if_neg e_29_0, if_neg e_29_1, if_neg e_29_2, if_neg e_29_3, if_neg e_29_4, if_pos e_29_5, nI_cl (by omega)]) (h I2 M (f2.fs (Or.inr rfl))))⟩
    by_cases e_29_6 : y = (6 : Int32)
    · rw [e_29_6]
      refine Vw.tsIn (n := 126) hts_29 (by decide) (by decide) rfl rfl ?_
      refine Vw.aload_n (de_aload_3 (B 126 _ rfl)) 3 rfl (n := 127) rfl ?_
      refine Vw.iload_n (de_iload_1 (B 127 _ rfl)) 1 rfl (n := 128) rfl ?_
      refine Vw.ivi1 (mi' := mX9_coatsWornBy) (de_invokevirtual (B 128 _ rfl) (B 129 _ rfl) (B 130 _ rfl)) ml_X11_152 mv_X9_coatsWornBy hC.p0.p0.k (Nat.le_of_ble_eq_true rfl) (n := 131) rfl (c_X9_coatsWornBy hT hK h10 ?_)
      exact Vw.iret (de_ireturn (B 131 _ rfl)) rfl ⟨_, rfl, (qv (by unfold ofP; rw [if_neg c_13, if_neg e_29_0, if_neg e_29_1, if_neg e_29_2, if_neg e_29_3, if_neg e_29_4, if_neg e_29_5, if_pos e_29_6]) (h I L FS.rfl))⟩
    refine Vw.tsOut (n := 132) hts_29 (by have q0 := ne_ti e_29_0 0 rfl ; have q1 := ne_ti e_29_1 1 rfl ; have q2 := ne_ti e_29_2 2 rfl ; have q3 := ne_ti e_29_3 3 rfl ; have q4 := ne_ti e_29_4 4 rfl ; have q5 := ne_ti e_29_5 5 rfl ; have q6 := ne_ti e_29_6 6 rfl; omega) rfl ?_
    refine Vw.sipush (v := -1000) (de_sipush (B 132 _ rfl) (B 133 _ rfl) (B 134 _ rfl)) rfl (n := 135) rfl ?_
    exact Vw.iret (de_ireturn (B 135 _ rfl)) rfl ⟨_, rfl, (qv (by unfold ofP; rw [if_neg c_13, if_neg e_29_0, if_neg e_29_1, if_neg e_29_2, if_neg e_29_3, if_neg e_29_4, if_neg e_29_5, if_neg e_29_6]) (h I L FS.rfl))⟩
  refine Vw.sipush (v := -1000) (de_sipush (B 16 _ rfl) (B 17 _ rfl) (B 18 _ rfl)) rfl (n := 19) rfl ?_
  exact Vw.iret (de_ireturn (B 19 _ rfl)) rfl ⟨_, rfl, (qv (ofP_n c_13) (h I L FS.rfl))⟩
theorem q_tailor {d : Nat} {S : vS} {I : vI} {L : vL} {Q : Int32 → vS → vI → vL → Prop} {x lb np nc ns nl : Nat} {K : Nat → Int32} {W : tW} {t y : Int32}  (hC : ClsS S x) (hs : STR S I (x + 1) lb K np nc ns nl) (hW : WC S I (x + 1) lb W) (hlb : x + 942 ≤ lb)  (h : ∀ I2 M, FS x I I2 → Q (tailorP W K nc t y) S I2 M) : Vc mX11_tailor (d + 80) 0 0 [.ref x, .int t, .int y] S I L (ViQ Q) := by
  refine Vc.of rfl (Nat.le_of_ble_eq_true rfl) ?_
  have B := bs_X11_tailor
  show Vw mX11_tailor (d + 80) 0 0 0 0 (ViQ Q) 0 [(0, .ref x), (1, .int t), (2, .int y)] [] S I L
  have hT := hC.p0.p0
  have hR := hC.p1
  have hp := hC.p3
  have hN := hs.tn
  have h8 := hN.1
  have h10 := hN.2.1
  have hK := hs.tr
  refine Vw.iload_n (de_iload_1 (B 0 _ rfl)) 1 rfl (n := 1) rfl ?_
  refine Vw.isi1 (mi' := mX11_isTailor) (de_invokestatic (B 1 _ rfl) (B 2 _ rfl) (B 3 _ rfl)) ml_X11_162 ms_X11_isTailor (Nat.le_of_ble_eq_true rfl) (n := 4) rfl (c_X11_isTailor ?_)
  refine Vw.if_ne (tgt := 9) (n := 7) (de_if_ne (B 4 _ rfl) (B 5 _ rfl) (B 6 _ rfl)) rfl rfl (fun c_4 => ?_) (fun c_4 => ?_)
  · obtain ⟨j, hj, rfl⟩ := lie_n (N := 3) (by decide) c_4
    refine Vw.iload_n (de_iload_2 (B 9 _ rfl)) 2 rfl (n := 10) rfl ?_
    have hts_10 : decode mX11_tailor.2.1 10 = .ok (.tableswitch 68 0 2 #[26, 39, 52], 26) := by decide +kernel
    by_cases e_10_0 : y = (0 : Int32)
    · rw [e_10_0]
      refine Vw.tsIn (n := 36) hts_10 (by decide) (by decide) rfl rfl ?_
      refine Vw.aload_n (de_aload_0 (B 36 _ rfl)) 0 rfl (n := 37) rfl ?_
      refine Vw.getR (de_getfield (B 37 _ rfl) (B 38 _ rfl) (B 39 _ rfl)) fl_X11_12 rfl hC.k hC.f0 (n := 40) rfl ?_
      refine Vw.getR (de_getfield (B 40 _ rfl) (B 41 _ rfl) (B 42 _ rfl)) fl_X11_104 rfl hC.p0.k hC.p0.f0 (n := 43) rfl ?_
      refine Vw.getR (de_getfield (B 43 _ rfl) (B 44 _ rfl) (B 45 _ rfl)) fl_X11_168 rfl hC.p0.p0.k hC.p0.p0.f2 (n := 46) rfl ?_
      refine Vw.iload_n (de_iload_1 (B 46 _ rfl)) 1 rfl (n := 47) rfl ?_
      refine Vw.iald (de_iaload (B 47 _ rfl)) hC.p0.p0.r2 (vIx_n (k := j) rfl (by omega)) (n := 48) rfl ?_
      rw [(hK.2.2.2.2.2 j (by omega)).1]
      exact Vw.iret (de_ireturn (B 48 _ rfl)) rfl ⟨_, rfl, (qv (by unfold tailorP; rw [if_neg (fun z => z.elim c_4 (by rw [e_10_0]; decide)), if_pos e_10_0, nI_cl (by omega)]) (h I L FS.rfl))⟩
    by_cases e_10_1 : y = (1 : Int32)
    · rw [e_10_1]
      refine Vw.tsIn (n := 49) hts_10 (by decide) (by decide) rfl rfl ?_
      refine Vw.aload_n (de_aload_0 (B 49 _ rfl)) 0 rfl (n := 50) rfl ?_
      refine Vw.getR (de_getfield (B 50 _ rfl) (B 51 _ rfl) (B 52 _ rfl)) fl_X11_12 rfl hC.k hC.f0 (n := 53) rfl ?_
      refine Vw.getR (de_getfield (B 53 _ rfl) (B 54 _ rfl) (B 55 _ rfl)) fl_X11_104 rfl hC.p0.k hC.p0.f0 (n := 56) rfl ?_
      refine Vw.getR (de_getfield (B 56 _ rfl) (B 57 _ rfl) (B 58 _ rfl)) fl_X11_171 rfl hC.p0.p0.k hC.p0.p0.f3 (n := 59) rfl ?_
      refine Vw.iload_n (de_iload_1 (B 59 _ rfl)) 1 rfl (n := 60) rfl ?_
      refine Vw.iald (de_iaload (B 60 _ rfl)) hC.p0.p0.r3 (vIx_n (k := j) rfl (by omega)) (n := 61) rfl ?_
      rw [(hK.2.2.2.2.2 j (by omega)).2]
      exact Vw.iret (de_ireturn (B 61 _ rfl)) rfl ⟨_, rfl, (qv (by unfold tailorP; rw [if_neg (fun z => z.elim c_4 (by rw [e_10_1]; decide)), if_neg e_10_0, if_pos e_10_1, nI_cl (by omega)]) (h I L FS.rfl))⟩
    by_cases e_10_2 : y = (2 : Int32)
    · rw [e_10_2]
      refine Vw.tsIn (n := 62) hts_10 (by decide) (by decide) rfl rfl ?_
      refine Vw.aload_n (de_aload_0 (B 62 _ rfl)) 0 rfl (n := 63) rfl ?_
      refine Vw.getR (de_getfield (B 63 _ rfl) (B 64 _ rfl) (B 65 _ rfl)) fl_X11_12 rfl hC.k hC.f0 (n := 66) rfl ?_
      refine Vw.getR (de_getfield (B 66 _ rfl) (B 67 _ rfl) (B 68 _ rfl)) fl_X11_104 rfl hC.p0.k hC.p0.f0 (n := 69) rfl ?_
      refine Vw.iload_n (de_iload_1 (B 69 _ rfl)) 1 rfl (n := 70) rfl ?_
      refine Vw.aload_n (de_aload_0 (B 70 _ rfl)) 0 rfl (n := 71) rfl ?_
      refine Vw.getR (de_getfield (B 71 _ rfl) (B 72 _ rfl) (B 73 _ rfl)) fl_X11_21 rfl hC.k hC.f1 (n := 74) rfl ?_
      refine Vw.ivi2 (mi' := mX9_wouldGet) (de_invokevirtual (B 74 _ rfl) (B 75 _ rfl) (B 76 _ rfl)) ml_X11_174 mv_X9_wouldGet hC.p0.p0.k (Nat.le_of_ble_eq_true rfl) (n := 77) rfl (c_X9_wouldGet hT hK hN hR hW ⟨by omega, by omega, by omega, by omega⟩ (fun I2 M f2 m2 => ?_))
      exact Vw.iret (de_ireturn (B 77 _ rfl)) rfl ⟨_, rfl, (qv (by unfold tailorP; rw [if_neg (fun z => z.elim c_4 (by rw [e_10_2]; decide)), if_neg e_10_0, if_neg e_10_1]) (h I2 M f2.fs))⟩
    refine Vw.tsOut (n := 78) hts_10 (by have q0 := ne_ti e_10_0 0 rfl ; have q1 := ne_ti e_10_1 1 rfl ; have q2 := ne_ti e_10_2 2 rfl; omega) rfl ?_
    refine Vw.iconst (v := -1) (de_iconst_m1 (B 78 _ rfl)) rfl (n := 79) rfl ?_
    exact Vw.iret (de_ireturn (B 79 _ rfl)) rfl ⟨_, rfl, (qv (tailorP_n (Or.inr (by
    rcases zLie_01 y 0 2 with z | z
    · exact z
    · obtain ⟨k, k1, k2⟩ := lie_n (N := 2) (by decide) (show ¬ zLie y 0 (nI 2) = 0 from by rw [show nI 2 = 2 from rfl, z]; decide)
      rcases (show k = 0 ∨ k = 1 ∨ k = 2 by omega) with rfl | rfl | rfl
      · exact absurd k2 e_10_0
      · exact absurd k2 e_10_1
      · exact absurd k2 e_10_2))) (h I L FS.rfl))⟩
  refine Vw.iconst (v := -1) (de_iconst_m1 (B 7 _ rfl)) rfl (n := 8) rfl ?_
  exact Vw.iret (de_ireturn (B 8 _ rfl)) rfl ⟨_, rfl, (qv (tailorP_n (Or.inl c_4)) (h I L FS.rfl))⟩
theorem q_coat {d : Nat} {S : vS} {I : vI} {L : vL} {Q : Int32 → vS → vI → vL → Prop} {x lb np nc ns nl : Nat} {K : Nat → Int32} {W : tW} {ci y : Int32}  (hC : ClsS S x) (hs : STR S I (x + 1) lb K np nc ns nl) (hW : WC S I (x + 1) lb W) (hlb : x + 942 ≤ lb)  (h : ∀ I2 M, FS x I I2 → Q (coatP W K nc ci y) S I2 M) : Vc mX11_coat (d + 80) 0 0 [.ref x, .int ci, .int y] S I L (ViQ Q) := by
  refine Vc.of rfl (Nat.le_of_ble_eq_true rfl) ?_
  have B := bs_X11_coat
  show Vw mX11_coat (d + 80) 0 0 0 0 (ViQ Q) 0 [(0, .ref x), (1, .int ci), (2, .int y)] [] S I L
  have hT := hC.p0.p0
  have hR := hC.p1
  have hp := hC.p3
  have hN := hs.tn
  have h8 := hN.1
  have h10 := hN.2.1
  have hK := hs.tr
  refine Vw.aload_n (de_aload_0 (B 0 _ rfl)) 0 rfl (n := 1) rfl ?_
  refine Vw.getR (de_getfield (B 1 _ rfl) (B 2 _ rfl) (B 3 _ rfl)) fl_X11_12 rfl hC.k hC.f0 (n := 4) rfl ?_
  refine Vw.getR (de_getfield (B 4 _ rfl) (B 5 _ rfl) (B 6 _ rfl)) fl_X11_104 rfl hC.p0.k hC.p0.f0 (n := 7) rfl ?_
  refine Vw.astore_n (lv2 := [(0, _), (1, _), (2, _), (3, _)]) (de_astore_3 (B 7 _ rfl)) rfl (by decide) [1, 2, 3, 0] rfl (n := 8) rfl ?_
  refine Vw.aload_n (de_aload_3 (B 8 _ rfl)) 3 rfl (n := 9) rfl ?_
  refine Vw.iload_n (de_iload_1 (B 9 _ rfl)) 1 rfl (n := 10) rfl ?_
  refine Vw.ivi1 (mi' := mX9_hasCoat) (de_invokevirtual (B 10 _ rfl) (B 11 _ rfl) (B 12 _ rfl)) ml_X11_287 mv_X9_hasCoat hC.p0.p0.k (Nat.le_of_ble_eq_true rfl) (n := 13) rfl (c_X9_hasCoat hT hK.2.1 (by omega) ?_)
  refine Vw.if_ne (tgt := 18) (n := 16) (de_if_ne (B 13 _ rfl) (B 14 _ rfl) (B 15 _ rfl)) rfl rfl (fun c_13 => ?_) (fun c_13 => ?_)
  · obtain ⟨c, hc, rfl⟩ := lie_ex (n := nc) (by omega) c_13
    refine Vw.aload_n (de_aload_3 (B 18 _ rfl)) 3 rfl (n := 19) rfl ?_
    refine Vw.getR (de_getfield (B 19 _ rfl) (B 20 _ rfl) (B 21 _ rfl)) fl_X11_277 rfl hC.p0.p0.k hC.p0.p0.f1 (n := 22) rfl ?_
    refine Vw.iload_n (de_iload_1 (B 22 _ rfl)) 1 rfl (n := 23) rfl ?_
    refine Vw.aald0 (b := 0) (de_aaload (B 23 _ rfl)) hC.p0.p0.r1 (vIx_n (k := c) rfl (by omega)) (hT.cr (show c < 10 by omega)) (n := 24) rfl ?_
    refine Vw.astore (lv2 := [(0, _), (1, _), (2, _), (3, _), (4, _)]) (de_astore (B 24 _ rfl) (B 25 _ rfl)) (by decide) [1, 2, 3, 4, 0] rfl (n := 26) rfl ?_
    refine Vw.iload_n (de_iload_2 (B 26 _ rfl)) 2 rfl (n := 27) rfl ?_
    have hts_27 : decode mX11_coat.2.1 27 = .ok (.tableswitch 108 0 8 #[49, 55, 61, 67, 73, 79, 85, 91, 97], 49) := by decide +kernel
    by_cases e_27_0 : y = (0 : Int32)
    · rw [e_27_0]
      refine Vw.tsIn (n := 76) hts_27 (by decide) (by decide) rfl rfl ?_
      refine Vw.aload (de_aload (B 76 _ rfl) (B 77 _ rfl)) 4 rfl (n := 78) rfl ?_
      refine Vw.getI (de_getfield (B 78 _ rfl) (B 79 _ rfl) (B 80 _ rfl)) fl_X11_290 rfl (hT.ck (show c < 10 by omega)) (n := 81) rfl ?_
      rw [hK.2.2.2.2.1 c 0 hc (by decide)]
      exact Vw.iret (de_ireturn (B 81 _ rfl)) rfl ⟨_, rfl, (qv (by unfold coatP; rw [if_neg c_13, if_neg (by rw [e_27_0]; decide), if_neg (by rw [e_27_0]; decide), nI_cl (by omega), e_27_0]; rfl) (h I L FS.rfl))⟩
    by_cases e_27_1 : y = (1 : Int32)
    · rw [e_27_1]
      refine Vw.tsIn (n := 82) hts_27 (by decide) (by decide) rfl rfl ?_
      refine Vw.aload (de_aload (B 82 _ rfl) (B 83 _ rfl)) 4 rfl (n := 84) rfl ?_
      refine Vw.getI (de_getfield (B 84 _ rfl) (B 85 _ rfl) (B 86 _ rfl)) fl_X11_291 rfl (hT.ck (show c < 10 by omega)) (n := 87) rfl ?_
      rw [hK.2.2.2.2.1 c 1 hc (by decide)]
      exact Vw.iret (de_ireturn (B 87 _ rfl)) rfl ⟨_, rfl, (qv (by unfold coatP; rw [if_neg c_13, if_neg (by rw [e_27_1]; decide), if_neg (by rw [e_27_1]; decide), nI_cl (by omega), e_27_1]; rfl) (h I L FS.rfl))⟩
    by_cases e_27_2 : y = (2 : Int32)
    · rw [e_27_2]
      refine Vw.tsIn (n := 88) hts_27 (by decide) (by decide) rfl rfl ?_
      refine Vw.aload (de_aload (B 88 _ rfl) (B 89 _ rfl)) 4 rfl (n := 90) rfl ?_
      refine Vw.getI (de_getfield (B 90 _ rfl) (B 91 _ rfl) (B 92 _ rfl)) fl_X11_292 rfl (hT.ck (show c < 10 by omega)) (n := 93) rfl ?_
      rw [hK.2.2.2.2.1 c 2 hc (by decide)]
      exact Vw.iret (de_ireturn (B 93 _ rfl)) rfl ⟨_, rfl, (qv (by unfold coatP; rw [if_neg c_13, if_neg (by rw [e_27_2]; decide), if_neg (by rw [e_27_2]; decide), nI_cl (by omega), e_27_2]; rfl) (h I L FS.rfl))⟩
    by_cases e_27_3 : y = (3 : Int32)
    · rw [e_27_3]
      refine Vw.tsIn (n := 94) hts_27 (by decide) (by decide) rfl rfl ?_
      refine Vw.aload (de_aload (B 94 _ rfl) (B 95 _ rfl)) 4 rfl (n := 96) rfl ?_
      refine Vw.getI (de_getfield (B 96 _ rfl) (B 97 _ rfl) (B 98 _ rfl)) fl_X11_295 rfl (hT.ck (show c < 10 by omega)) (n := 99) rfl ?_
      rw [hK.2.2.2.2.1 c 3 hc (by decide)]
      exact Vw.iret (de_ireturn (B 99 _ rfl)) rfl ⟨_, rfl, (qv (by unfold coatP; rw [if_neg c_13, if_neg (by rw [e_27_3]; decide), if_neg (by rw [e_27_3]; decide), nI_cl (by omega), e_27_3]; rfl) (h I L FS.rfl))⟩
    by_cases e_27_4 : y = (4 : Int32)
    · rw [e_27_4]
      refine Vw.tsIn (n := 100) hts_27 (by decide) (by decide) rfl rfl ?_
      refine Vw.aload (de_aload (B 100 _ rfl) (B 101 _ rfl)) 4 rfl (n := 102) rfl ?_
      refine Vw.getI (de_getfield (B 102 _ rfl) (B 103 _ rfl) (B 104 _ rfl)) fl_X11_298 rfl (hT.ck (show c < 10 by omega)) (n := 105) rfl ?_
      rw [hK.2.2.2.2.1 c 4 hc (by decide)]
      exact Vw.iret (de_ireturn (B 105 _ rfl)) rfl ⟨_, rfl, (qv (by unfold coatP; rw [if_neg c_13, if_neg (by rw [e_27_4]; decide), if_neg (by rw [e_27_4]; decide), nI_cl (by omega), e_27_4]; rfl) (h I L FS.rfl))⟩
    by_cases e_27_5 : y = (5 : Int32)
    · rw [e_27_5]
      refine Vw.tsIn (n := 106) hts_27 (by decide) (by decide) rfl rfl ?_
      refine Vw.aload (de_aload (B 106 _ rfl) (B 107 _ rfl)) 4 rfl (n := 108) rfl ?_
      refine Vw.getI (de_getfield (B 108 _ rfl) (B 109 _ rfl) (B 110 _ rfl)) fl_X11_301 rfl (hT.ck (show c < 10 by omega)) (n := 111) rfl ?_
      rw [hK.2.2.2.2.1 c 5 hc (by decide)]
      exact Vw.iret (de_ireturn (B 111 _ rfl)) rfl ⟨_, rfl, (qv (by unfold coatP; rw [if_neg c_13, if_neg (by rw [e_27_5]; decide), if_neg (by rw [e_27_5]; decide), nI_cl (by omega), e_27_5]; rfl) (h I L FS.rfl))⟩
    by_cases e_27_6 : y = (6 : Int32)
    · rw [e_27_6]
      refine Vw.tsIn (n := 112) hts_27 (by decide) (by decide) rfl rfl ?_
      refine Vw.aload (de_aload (B 112 _ rfl) (B 113 _ rfl)) 4 rfl (n := 114) rfl ?_
      refine Vw.getI (de_getfield (B 114 _ rfl) (B 115 _ rfl) (B 116 _ rfl)) fl_X11_304 rfl (hT.ck (show c < 10 by omega)) (n := 117) rfl ?_
      rw [hK.2.2.2.2.1 c 6 hc (by decide)]
      exact Vw.iret (de_ireturn (B 117 _ rfl)) rfl ⟨_, rfl, (qv (by unfold coatP; rw [if_neg c_13, if_neg (by rw [e_27_6]; decide), if_neg (by rw [e_27_6]; decide), nI_cl (by omega), e_27_6]; rfl) (h I L FS.rfl))⟩
    by_cases e_27_7 : y = (7 : Int32)
    · rw [e_27_7]
      refine Vw.tsIn (n := 118) hts_27 (by decide) (by decide) rfl rfl ?_
      refine Vw.aload (de_aload (B 118 _ rfl) (B 119 _ rfl)) 4 rfl (n := 120) rfl ?_
      refine Vw.getI (de_getfield (B 120 _ rfl) (B 121 _ rfl) (B 122 _ rfl)) fl_X11_307 rfl (hT.ck (show c < 10 by omega)) (n := 123) rfl ?_
      rw [hK.2.2.2.2.1 c 7 hc (by decide)]
      exact Vw.iret (de_ireturn (B 123 _ rfl)) rfl ⟨_, rfl, (qv (by unfold coatP; rw [if_neg c_13, if_neg (by rw [e_27_7]; decide), if_neg (by rw [e_27_7]; decide), nI_cl (by omega), e_27_7]; rfl) (h I L FS.rfl))⟩
    by_cases e_27_8 : y = (8 : Int32)
    · rw [e_27_8]
      refine Vw.tsIn (n := 124) hts_27 (by decide) (by decide) rfl rfl ?_
      refine Vw.aload_n (de_aload_3 (B 124 _ rfl)) 3 rfl (n := 125) rfl ?_
      refine Vw.aload (de_aload (B 125 _ rfl) (B 126 _ rfl)) 4 rfl (n := 127) rfl ?_
      refine Vw.aload_n (de_aload_0 (B 127 _ rfl)) 0 rfl (n := 128) rfl ?_
      refine Vw.getR (de_getfield (B 128 _ rfl) (B 129 _ rfl) (B 130 _ rfl)) fl_X11_21 rfl hC.k hC.f1 (n := 131) rfl ?_
      refine Vw.ivi2 (mi' := mX9_payOf) (de_invokevirtual (B 131 _ rfl) (B 132 _ rfl) (B 133 _ rfl)) ml_X11_310 mv_X9_payOf hC.p0.p0.k (Nat.le_of_ble_eq_true rfl) (n := 134) rfl (c_X9_payOf hT hK hN hc hR hW ⟨by omega, by omega, by omega, by omega⟩ (fun w1 => ?_) (fun w1 I2 M f2 m2 => ?_))
      · exact Vw.iret (de_ireturn (B 134 _ rfl)) rfl ⟨_, rfl, (qv (by unfold coatP; rw [if_neg c_13, if_pos e_27_8, nI_cl (by omega), if_pos w1]) (h I L FS.rfl))⟩
      · exact Vw.iret (de_ireturn (B 134 _ rfl)) rfl ⟨_, rfl, (qv (by unfold coatP; rw [if_neg c_13, if_pos e_27_8, nI_cl (by omega), if_neg w1]) (h I2 M f2.fs))⟩
    refine Vw.tsOut (n := 135) hts_27 (by have q0 := ne_ti e_27_0 0 rfl ; have q1 := ne_ti e_27_1 1 rfl ; have q2 := ne_ti e_27_2 2 rfl ; have q3 := ne_ti e_27_3 3 rfl ; have q4 := ne_ti e_27_4 4 rfl ; have q5 := ne_ti e_27_5 5 rfl ; have q6 := ne_ti e_27_6 6 rfl ; have q7 := ne_ti e_27_7 7 rfl ; have q8 := ne_ti e_27_8 8 rfl; omega) rfl ?_
    refine Vw.iconst (v := -1) (de_iconst_m1 (B 135 _ rfl)) rfl (n := 136) rfl ?_
    exact Vw.iret (de_ireturn (B 136 _ rfl)) rfl ⟨_, rfl, (qv (by
    unfold coatP
    rw [if_neg c_13, if_neg e_27_8, if_pos ?_]
    rcases zLie_01 y 0 7 with z | z
    · exact z
    · obtain ⟨k, k1, k2⟩ := lie_n (N := 7) (by decide) (show ¬ zLie y 0 (nI 7) = 0 from by rw [show nI 7 = 7 from rfl, z]; decide)
      rcases (show k = 0 ∨ k = 1 ∨ k = 2 ∨ k = 3 ∨ k = 4 ∨ k = 5 ∨ k = 6 ∨ k = 7 by omega) with rfl | rfl | rfl | rfl | rfl | rfl | rfl | rfl
      · exact absurd k2 e_27_0
      · exact absurd k2 e_27_1
      · exact absurd k2 e_27_2
      · exact absurd k2 e_27_3
      · exact absurd k2 e_27_4
      · exact absurd k2 e_27_5
      · exact absurd k2 e_27_6
      · exact absurd k2 e_27_7) (h I L FS.rfl))⟩
  refine Vw.iconst (v := -1) (de_iconst_m1 (B 16 _ rfl)) rfl (n := 17) rfl ?_
  exact Vw.iret (de_ireturn (B 17 _ rfl)) rfl ⟨_, rfl, (qv (coatP_n c_13) (h I L FS.rfl))⟩
theorem q_asks {d : Nat} {S : vS} {I : vI} {L : vL} {Q : Int32 → vS → vI → vL → Prop} {x lb np nc ns nl : Nat} {K : Nat → Int32} {W : tW} {p t sz wd y : Int32}  (hC : ClsS S x) (hs : STR S I (x + 1) lb K np nc ns nl) (hW : WC S I (x + 1) lb W) (hlb : x + 942 ≤ lb)  (h : ∀ I2 M, FS x I I2 → Q (asksP W K np p t sz wd y) S I2 M) : Vc mX11_asks (d + 80) 0 0 [.ref x, .int p, .int t, .int sz, .int wd, .int y] S I L (ViQ Q) := by
  refine Vc.of rfl (Nat.le_of_ble_eq_true rfl) ?_
  have B := bs_X11_asks
  show Vw mX11_asks (d + 80) 0 0 0 0 (ViQ Q) 0 [(0, .ref x), (1, .int p), (2, .int t), (3, .int sz), (4, .int wd), (5, .int y)] [] S I L
  have hT := hC.p0.p0
  have hR := hC.p1
  have hp := hC.p3
  have hN := hs.tn
  have h8 := hN.1
  have h10 := hN.2.1
  have hK := hs.tr
  refine Vw.aload_n (de_aload_0 (B 0 _ rfl)) 0 rfl (n := 1) rfl ?_
  refine Vw.getR (de_getfield (B 1 _ rfl) (B 2 _ rfl) (B 3 _ rfl)) fl_X11_12 rfl hC.k hC.f0 (n := 4) rfl ?_
  refine Vw.getR (de_getfield (B 4 _ rfl) (B 5 _ rfl) (B 6 _ rfl)) fl_X11_104 rfl hC.p0.k hC.p0.f0 (n := 7) rfl ?_
  refine Vw.astore (lv2 := [(0, _), (1, _), (2, _), (3, _), (4, _), (5, _), (6, _)]) (de_astore (B 7 _ rfl) (B 8 _ rfl)) (by decide) [1, 2, 3, 4, 5, 6, 0] rfl (n := 9) rfl ?_
  refine Vw.aload (de_aload (B 9 _ rfl) (B 10 _ rfl)) 6 rfl (n := 11) rfl ?_
  refine Vw.iload_n (de_iload_1 (B 11 _ rfl)) 1 rfl (n := 12) rfl ?_
  refine Vw.ivi1 (mi' := mX9_hasPerson) (de_invokevirtual (B 12 _ rfl) (B 13 _ rfl) (B 14 _ rfl)) ml_X11_120 mv_X9_hasPerson hC.p0.p0.k (Nat.le_of_ble_eq_true rfl) (n := 15) rfl (c_X9_hasPerson hT hK.1 (by omega) ?_)
  refine Vw.if_eq (tgt := 34) (n := 18) (de_if_eq (B 15 _ rfl) (B 16 _ rfl) (B 17 _ rfl)) rfl rfl (fun c_15 => ?_) (fun c_15 => ?_)
  · refine Vw.iconst (v := -1) (de_iconst_m1 (B 34 _ rfl)) rfl (n := 35) rfl ?_
    exact Vw.iret (de_ireturn (B 35 _ rfl)) rfl ⟨_, rfl, (by first | exact qv (asksP_n (Or.inl c_15)) (h I L FS.rfl) | exact qv (asksP_n (Or.inr (Or.inl c_22))) (h I L FS.rfl) | exact qv (asksP_n (Or.inr (Or.inr c_31))) (h I L FS.rfl))⟩
  obtain ⟨q, hq, hpq⟩ := lie_ex (n := np) (by omega) c_15
  refine Vw.iload_n (de_iload_2 (B 18 _ rfl)) 2 rfl (n := 19) rfl ?_
  refine Vw.isi1 (mi' := mX11_isTailor) (de_invokestatic (B 19 _ rfl) (B 20 _ rfl) (B 21 _ rfl)) ml_X11_162 ms_X11_isTailor (Nat.le_of_ble_eq_true rfl) (n := 22) rfl (c_X11_isTailor ?_)
  refine Vw.if_eq (tgt := 34) (n := 25) (de_if_eq (B 22 _ rfl) (B 23 _ rfl) (B 24 _ rfl)) rfl rfl (fun c_22 => ?_) (fun c_22 => ?_)
  · refine Vw.iconst (v := -1) (de_iconst_m1 (B 34 _ rfl)) rfl (n := 35) rfl ?_
    exact Vw.iret (de_ireturn (B 35 _ rfl)) rfl ⟨_, rfl, (by first | exact qv (asksP_n (Or.inl c_15)) (h I L FS.rfl) | exact qv (asksP_n (Or.inr (Or.inl c_22))) (h I L FS.rfl) | exact qv (asksP_n (Or.inr (Or.inr c_31))) (h I L FS.rfl))⟩
  refine Vw.iload_n (de_iload_3 (B 25 _ rfl)) 3 rfl (n := 26) rfl ?_
  refine Vw.iload (de_iload (B 26 _ rfl) (B 27 _ rfl)) 4 rfl (n := 28) rfl ?_
  refine Vw.isi2 (mi' := mX11_canBeCoat) (de_invokestatic (B 28 _ rfl) (B 29 _ rfl) (B 30 _ rfl)) ml_X11_246 ms_X11_canBeCoat (Nat.le_of_ble_eq_true rfl) (n := 31) rfl (c_X11_canBeCoat ?_)
  refine Vw.if_ne (tgt := 36) (n := 34) (de_if_ne (B 31 _ rfl) (B 32 _ rfl) (B 33 _ rfl)) rfl rfl (fun c_31 => ?_) (fun c_31 => ?_)
  · subst hpq
    refine Vw.aload (de_aload (B 36 _ rfl) (B 37 _ rfl)) 6 rfl (n := 38) rfl ?_
    refine Vw.getR (de_getfield (B 38 _ rfl) (B 39 _ rfl) (B 40 _ rfl)) fl_X11_124 rfl hC.p0.p0.k hC.p0.p0.f0 (n := 41) rfl ?_
    refine Vw.iload_n (de_iload_1 (B 41 _ rfl)) 1 rfl (n := 42) rfl ?_
    refine Vw.aald3 (b := 0) (de_aaload (B 42 _ rfl)) hC.p0.p0.r0 (vIx_n (k := q) rfl (by omega)) (hT.pr (show q < 8 by omega)) (n := 43) rfl ?_
    refine Vw.astore (lv2 := [(0, _), (1, _), (2, _), (3, _), (4, _), (5, _), (6, _), (7, _)]) (de_astore (B 43 _ rfl) (B 44 _ rfl)) (by decide) [1, 2, 3, 4, 5, 6, 7, 0] rfl (n := 45) rfl ?_
    refine Vw.aload_n (de_aload_0 (B 45 _ rfl)) 0 rfl (n := 46) rfl ?_
    refine Vw.getR (de_getfield (B 46 _ rfl) (B 47 _ rfl) (B 48 _ rfl)) fl_X11_21 rfl hC.k hC.f1 (n := 49) rfl ?_
    refine Vw.iload_n (de_iload_2 (B 49 _ rfl)) 2 rfl (n := 50) rfl ?_
    refine Vw.iload_n (de_iload_3 (B 50 _ rfl)) 3 rfl (n := 51) rfl ?_
    refine Vw.iload (de_iload (B 51 _ rfl) (B 52 _ rfl)) 4 rfl (n := 53) rfl ?_
    refine Vw.ivv3 (mi' := mX6_lookAtCoat) (de_invokevirtual (B 53 _ rfl) (B 54 _ rfl) (B 55 _ rfl)) ml_X11_249 mv_X6_lookAtCoat hC.p1.k (Nat.le_of_ble_eq_true rfl) (n := 56) rfl (c_X6_lookAtCoat hR (fun I2 f2 a4 a5 a6 => ?_))
    have k2 : TR I2 (x + 1 + 1) K np nc := hK.of (fun b g1 g2 => f2 b (by omega)) h8 h10
    have w2 : WC S I2 (x + 1) lb W := hW.of (f2 _ (by omega)) (fun b hb => f2 b (by omega))
    refine Vw.iload (de_iload (B 56 _ rfl) (B 57 _ rfl)) 5 rfl (n := 58) rfl ?_
    have hts_58 : decode mX11_asks.2.1 58 = .ok (.tableswitch 103 0 3 #[30, 46, 62, 86], 30) := by decide +kernel
    by_cases e_58_0 : y = (0 : Int32)
    · rw [e_58_0]
      refine Vw.tsIn (n := 88) hts_58 (by decide) (by decide) rfl rfl ?_
      refine Vw.aload_n (de_aload_0 (B 88 _ rfl)) 0 rfl (n := 89) rfl ?_
      refine Vw.getR (de_getfield (B 89 _ rfl) (B 90 _ rfl) (B 91 _ rfl)) fl_X11_21 rfl hC.k hC.f1 (n := 92) rfl ?_
      refine Vw.aload (de_aload (B 92 _ rfl) (B 93 _ rfl)) 7 rfl (n := 94) rfl ?_
      refine Vw.iload_n (de_iload_1 (B 94 _ rfl)) 1 rfl (n := 95) rfl ?_
      refine Vw.aload (de_aload (B 95 _ rfl) (B 96 _ rfl)) 6 rfl (n := 97) rfl ?_
      refine Vw.getI (de_getfield (B 97 _ rfl) (B 98 _ rfl) (B 99 _ rfl)) fl_X11_142 rfl hC.p0.p0.k (n := 100) rfl ?_
      rw [k2.2.2.1]
      refine Vw.ivi3 (mi' := mX6_clothFor) (de_invokevirtual (B 100 _ rfl) (B 101 _ rfl) (B 102 _ rfl)) ml_X11_253 mv_X6_clothFor hC.p1.k (Nat.le_of_ble_eq_true rfl) (n := 103) rfl (c_X6_clothFor hR (hT.pk (show q < 8 by omega)) w2 (by omega) (fun I3 M f3 m3 => ?_))
      rw [a4, a5, a6, k2.per hq]
      exact Vw.iret (de_ireturn (B 103 _ rfl)) rfl ⟨_, rfl, (qv (by rw [asksP_y (by omega) c_15 c_22 c_31]; unfold askV; rw [if_pos e_58_0]) (h I3 M ((f2.fs (Or.inl rfl)).trans (f3.fs (Or.inr rfl)))))⟩
    by_cases e_58_1 : y = (1 : Int32)
    · rw [e_58_1]
      refine Vw.tsIn (n := 104) hts_58 (by decide) (by decide) rfl rfl ?_
      refine Vw.aload_n (de_aload_0 (B 104 _ rfl)) 0 rfl (n := 105) rfl ?_
      refine Vw.getR (de_getfield (B 105 _ rfl) (B 106 _ rfl) (B 107 _ rfl)) fl_X11_21 rfl hC.k hC.f1 (n := 108) rfl ?_
      refine Vw.aload (de_aload (B 108 _ rfl) (B 109 _ rfl)) 7 rfl (n := 110) rfl ?_
      refine Vw.iload_n (de_iload_1 (B 110 _ rfl)) 1 rfl (n := 111) rfl ?_
      refine Vw.aload (de_aload (B 111 _ rfl) (B 112 _ rfl)) 6 rfl (n := 113) rfl ?_
      refine Vw.getI (de_getfield (B 113 _ rfl) (B 114 _ rfl) (B 115 _ rfl)) fl_X11_142 rfl hC.p0.p0.k (n := 116) rfl ?_
      rw [k2.2.2.1]
      refine Vw.ivi3 (mi' := mX6_payBy) (de_invokevirtual (B 116 _ rfl) (B 117 _ rfl) (B 118 _ rfl)) ml_X11_256 mv_X6_payBy hC.p1.k (Nat.le_of_ble_eq_true rfl) (n := 119) rfl (c_X6_payBy hR (hT.pk (show q < 8 by omega)) w2 (by omega) (fun I3 M f3 m3 => ?_))
      rw [a4, a5, a6, k2.per hq]
      exact Vw.iret (de_ireturn (B 119 _ rfl)) rfl ⟨_, rfl, (qv (by rw [asksP_y (by omega) c_15 c_22 c_31]; unfold askV; rw [if_neg e_58_0, if_pos e_58_1]) (h I3 M ((f2.fs (Or.inl rfl)).trans (f3.fs (Or.inr rfl)))))⟩
    by_cases e_58_2 : y = (2 : Int32)
    · rw [e_58_2]
      refine Vw.tsIn (n := 120) hts_58 (by decide) (by decide) rfl rfl ?_
      refine Vw.aload_n (de_aload_0 (B 120 _ rfl)) 0 rfl (n := 121) rfl ?_
      refine Vw.getR (de_getfield (B 121 _ rfl) (B 122 _ rfl) (B 123 _ rfl)) fl_X11_21 rfl hC.k hC.f1 (n := 124) rfl ?_
      refine Vw.aload (de_aload (B 124 _ rfl) (B 125 _ rfl)) 7 rfl (n := 126) rfl ?_
      refine Vw.iload_n (de_iload_1 (B 126 _ rfl)) 1 rfl (n := 127) rfl ?_
      refine Vw.aload (de_aload (B 127 _ rfl) (B 128 _ rfl)) 6 rfl (n := 129) rfl ?_
      refine Vw.getI (de_getfield (B 129 _ rfl) (B 130 _ rfl) (B 131 _ rfl)) fl_X11_142 rfl hC.p0.p0.k (n := 132) rfl ?_
      rw [k2.2.2.1]
      refine Vw.ivi3 (mi' := mX6_isBarred) (de_invokevirtual (B 132 _ rfl) (B 133 _ rfl) (B 134 _ rfl)) ml_X11_259 mv_X6_isBarred hC.p1.k (Nat.le_of_ble_eq_true rfl) (n := 135) rfl (c_X6_isBarred hR (hT.pk (show q < 8 by omega)) w2 (by omega) (fun I3 M f3 m3 => ?_))
      rw [a4, a5, a6, k2.per hq]
      refine Vw.if_eq (tgt := 142) (n := 138) (de_if_eq (B 135 _ rfl) (B 136 _ rfl) (B 137 _ rfl)) rfl rfl (fun c_135 => ?_) (fun c_135 => ?_)
      · refine Vw.iconst (v := 0) (de_iconst_0 (B 142 _ rfl)) rfl (n := 143) rfl ?_
        exact Vw.iret (de_ireturn (B 143 _ rfl)) rfl ⟨_, rfl, (qv (by rw [asksP_y (by omega) c_15 c_22 c_31]; unfold askV; rw [if_neg e_58_0, if_neg e_58_1, if_pos e_58_2]; first | exact c_135 | exact barP_n1 c_135) (h I3 M ((f2.fs (Or.inl rfl)).trans (f3.fs (Or.inr rfl)))))⟩
      refine Vw.iconst (v := 1) (de_iconst_1 (B 138 _ rfl)) rfl (n := 139) rfl ?_
      refine Vw.goto_ (n := 143) (de_goto_ (B 139 _ rfl) (B 140 _ rfl) (B 141 _ rfl)) rfl ?_
      exact Vw.iret (de_ireturn (B 143 _ rfl)) rfl ⟨_, rfl, (qv (by rw [asksP_y (by omega) c_15 c_22 c_31]; unfold askV; rw [if_neg e_58_0, if_neg e_58_1, if_pos e_58_2]; first | exact c_135 | exact barP_n1 c_135) (h I3 M ((f2.fs (Or.inl rfl)).trans (f3.fs (Or.inr rfl)))))⟩
    by_cases e_58_3 : y = (3 : Int32)
    · rw [e_58_3]
      refine Vw.tsIn (n := 144) hts_58 (by decide) (by decide) rfl rfl ?_
      refine Vw.aload (de_aload (B 144 _ rfl) (B 145 _ rfl)) 7 rfl (n := 146) rfl ?_
      refine Vw.iload_n (de_iload_3 (B 146 _ rfl)) 3 rfl (n := 147) rfl ?_
      refine Vw.iload (de_iload (B 147 _ rfl) (B 148 _ rfl)) 4 rfl (n := 149) rfl ?_
      refine Vw.ivi2 (mi' := mX3_fitsInto) (de_invokevirtual (B 149 _ rfl) (B 150 _ rfl) (B 151 _ rfl)) ml_X11_263 mv_X3_fitsInto (hT.pk (show q < 8 by omega)) (Nat.le_of_ble_eq_true rfl) (n := 152) rfl (c_X3_fitsInto (hT.pk (show q < 8 by omega)) ?_)
      rw [k2.per hq]
      refine Vw.if_eq (tgt := 159) (n := 155) (de_if_eq (B 152 _ rfl) (B 153 _ rfl) (B 154 _ rfl)) rfl rfl (fun c_152 => ?_) (fun c_152 => ?_)
      · refine Vw.iconst (v := 0) (de_iconst_0 (B 159 _ rfl)) rfl (n := 160) rfl ?_
        exact Vw.iret (de_ireturn (B 160 _ rfl)) rfl ⟨_, rfl, (qv (by rw [asksP_y (by omega) c_15 c_22 c_31]; unfold askV; rw [if_neg e_58_0, if_neg e_58_1, if_neg e_58_2, if_pos e_58_3]; first | exact c_152 | exact fitP_n1 c_152) (h I2 L (f2.fs (Or.inl rfl))))⟩
      refine Vw.iconst (v := 1) (de_iconst_1 (B 155 _ rfl)) rfl (n := 156) rfl ?_
      refine Vw.goto_ (n := 160) (de_goto_ (B 156 _ rfl) (B 157 _ rfl) (B 158 _ rfl)) rfl ?_
      exact Vw.iret (de_ireturn (B 160 _ rfl)) rfl ⟨_, rfl, (qv (by rw [asksP_y (by omega) c_15 c_22 c_31]; unfold askV; rw [if_neg e_58_0, if_neg e_58_1, if_neg e_58_2, if_pos e_58_3]; first | exact c_152 | exact fitP_n1 c_152) (h I2 L (f2.fs (Or.inl rfl))))⟩
    refine Vw.tsOut (n := 161) hts_58 (by have q0 := ne_ti e_58_0 0 rfl ; have q1 := ne_ti e_58_1 1 rfl ; have q2 := ne_ti e_58_2 2 rfl ; have q3 := ne_ti e_58_3 3 rfl; omega) rfl ?_
    refine Vw.iconst (v := -1) (de_iconst_m1 (B 161 _ rfl)) rfl (n := 162) rfl ?_
    exact Vw.iret (de_ireturn (B 162 _ rfl)) rfl ⟨_, rfl, (qv (by rw [asksP_y (by omega) c_15 c_22 c_31]; unfold askV; rw [if_neg e_58_0, if_neg e_58_1, if_neg e_58_2, if_neg e_58_3]) (h I2 L (f2.fs (Or.inl rfl))))⟩
  refine Vw.iconst (v := -1) (de_iconst_m1 (B 34 _ rfl)) rfl (n := 35) rfl ?_
  exact Vw.iret (de_ireturn (B 35 _ rfl)) rfl ⟨_, rfl, (by first | exact qv (asksP_n (Or.inl c_15)) (h I L FS.rfl) | exact qv (asksP_n (Or.inr (Or.inl c_22))) (h I L FS.rfl) | exact qv (asksP_n (Or.inr (Or.inr c_31))) (h I L FS.rfl))⟩
