/-! Questions of the class: cutting, dress, drawn, count and what is only told -/
theorem nxtF_le {c l : Nat → Int32} {v : Int32} : ∀ {f t : Nat}, nxtF c l v f t ≤ t + f
  | 0, t => by rw [nxtF]; omega
  | f + 1, t => by
    rw [nxtF]
    split
    · omega
    · have := nxtF_le (c := c) (l := l) (v := v) (f := f) (t := t + 1); omega
theorem q_cutting {d : Nat} {S : vS} {I : vI} {L : vL} {Q : Int32 → vS → vI → vL → Prop} {x lb np nc ns nl : Nat} {K : Nat → Int32} {W : tW} {t n y : Int32}  (hC : ClsS S x) (hs : STR S I (x + 1) lb K np nc ns nl) (hW : WC S I (x + 1) lb W) (hlb : x + 942 ≤ lb)  (h : ∀ I2 M, FS x I I2 → Q (cutP W K np t n y) S I2 M) : Vc mX11_cutting (d + 80) 0 0 [.ref x, .int t, .int n, .int y] S I L (ViQ Q) := by
  refine Vc.of rfl (Nat.le_of_ble_eq_true rfl) ?_
  have B := bs_X11_cutting
  show Vw mX11_cutting (d + 80) 0 0 0 0 (ViQ Q) 0 [(0, .ref x), (1, .int t), (2, .int n), (3, .int y)] [] S I L
  have hT := hC.p0.p0
  have hR := hC.p1
  have hp := hC.p3
  have hN := hs.tn
  have h8 := hN.1
  have h10 := hN.2.1
  have hK := hs.tr
  refine Vw.iload_n (de_iload_1 (B 0 _ rfl)) 1 rfl (n := 1) rfl ?_
  refine Vw.isi1 (mi' := mX11_isTailor) (de_invokestatic (B 1 _ rfl) (B 2 _ rfl) (B 3 _ rfl)) ml_X11_162 ms_X11_isTailor (Nat.le_of_ble_eq_true rfl) (n := 4) rfl (c_X11_isTailor ?_)
  refine Vw.if_eq (tgt := 17) (n := 7) (de_if_eq (B 4 _ rfl) (B 5 _ rfl) (B 6 _ rfl)) rfl rfl (fun c_4 => ?_) (fun c_4 => ?_)
  · refine Vw.iconst (v := -1) (de_iconst_m1 (B 17 _ rfl)) rfl (n := 18) rfl ?_
    exact Vw.iret (de_ireturn (B 18 _ rfl)) rfl ⟨_, rfl, (by first | exact qv (by unfold cutP; rw [if_pos (Or.inl c_4)]) (h I L FS.rfl) | exact qv (by unfold cutP; rw [if_pos (Or.inr (Or.inl c_14))]) (h I L FS.rfl))⟩
  refine Vw.iload_n (de_iload_2 (B 7 _ rfl)) 2 rfl (n := 8) rfl ?_
  refine Vw.iconst (v := 1) (de_iconst_1 (B 8 _ rfl)) rfl (n := 9) rfl ?_
  refine Vw.bipush (v := 40) (de_bipush (B 9 _ rfl) (B 10 _ rfl)) rfl (n := 11) rfl ?_
  refine Vw.isi3 (mi' := mX11_isWithin) (de_invokestatic (B 11 _ rfl) (B 12 _ rfl) (B 13 _ rfl)) ml_X11_165 ms_X11_isWithin (Nat.le_of_ble_eq_true rfl) (n := 14) rfl (c_X11_isWithin ?_)
  refine Vw.if_ne (tgt := 19) (n := 17) (de_if_ne (B 14 _ rfl) (B 15 _ rfl) (B 16 _ rfl)) rfl rfl (fun c_14 => ?_) (fun c_14 => ?_)
  · obtain ⟨tl, htl, rfl⟩ := lie_n (N := 3) (by decide) c_4
    obtain ⟨m, m1, hm, rfl⟩ := lie_m (a := 1) (N := 40) (by decide) (by decide) c_14
    refine Vw.iload_n (de_iload_3 (B 19 _ rfl)) 3 rfl (n := 20) rfl ?_
    refine Vw.iconst (v := 0) (de_iconst_0 (B 20 _ rfl)) rfl (n := 21) rfl ?_
    refine Vw.iconst (v := 1) (de_iconst_1 (B 21 _ rfl)) rfl (n := 22) rfl ?_
    refine Vw.aload_n (de_aload_0 (B 22 _ rfl)) 0 rfl (n := 23) rfl ?_
    refine Vw.getR (de_getfield (B 23 _ rfl) (B 24 _ rfl) (B 25 _ rfl)) fl_X11_12 rfl hC.k hC.f0 (n := 26) rfl ?_
    refine Vw.getR (de_getfield (B 26 _ rfl) (B 27 _ rfl) (B 28 _ rfl)) fl_X11_104 rfl hC.p0.k hC.p0.f0 (n := 29) rfl ?_
    refine Vw.getI (de_getfield (B 29 _ rfl) (B 30 _ rfl) (B 31 _ rfl)) fl_X11_107 rfl hC.p0.p0.k (n := 32) rfl ?_
    rw [hK.1]
    refine Vw.iadd (de_iadd (B 32 _ rfl)) (n := 33) rfl ?_
    refine Vw.isi3 (mi' := mX11_isWithin) (de_invokestatic (B 33 _ rfl) (B 34 _ rfl) (B 35 _ rfl)) ml_X11_165 ms_X11_isWithin (Nat.le_of_ble_eq_true rfl) (n := 36) rfl (c_X11_isWithin ?_)
    refine Vw.if_ne (tgt := 41) (n := 39) (de_if_ne (B 36 _ rfl) (B 37 _ rfl) (B 38 _ rfl)) rfl rfl (fun c_36 => ?_) (fun c_36 => ?_)
    · obtain ⟨k, hk, rfl⟩ := lie_n (N := 1 + np) (by omega) (show ¬ zLie y 0 (nI (1 + np)) = 0 from by rw [nI_A]; exact c_36)
      obtain ⟨cl, cl1, cl2⟩ := hs.kb.2.1 tl (by omega)
      refine Vw.aload_n (de_aload_0 (B 41 _ rfl)) 0 rfl (n := 42) rfl ?_
      refine Vw.getR (de_getfield (B 42 _ rfl) (B 43 _ rfl) (B 44 _ rfl)) fl_X11_46 rfl hC.k hC.f4 (n := 45) rfl ?_
      refine Vw.iload_n (de_iload_1 (B 45 _ rfl)) 1 rfl (n := 46) rfl ?_
      refine Vw.iload_n (de_iload_2 (B 46 _ rfl)) 2 rfl (n := 47) rfl ?_
      refine Vw.ivv2 (mi' := mX1_planCutting) (de_invokevirtual (B 47 _ rfl) (B 48 _ rfl) (B 49 _ rfl)) ml_X11_357 mv_X1_planCutting hC.p4.k (Nat.le_of_ble_eq_true rfl) (n := 50) rfl (c_X1_planCutting (s := x + 1) hC.p4 hK hN hW (by omega) hs.kb.1 (by omega) hm cl1 cl2 (fun I2 M f2 m2 e11 e10 e71 => ?_))
      refine Vw.iload_n (de_iload_3 (B 50 _ rfl)) 3 rfl (n := 51) rfl ?_
      refine Vw.if_ne (tgt := 62) (n := 54) (de_if_ne (B 51 _ rfl) (B 52 _ rfl) (B 53 _ rfl)) rfl rfl (fun c_51 => ?_) (fun c_51 => ?_)
      · refine Vw.iload_n (de_iload_3 (B 62 _ rfl)) 3 rfl (n := 63) rfl ?_
        refine Vw.iconst (v := 1) (de_iconst_1 (B 63 _ rfl)) rfl (n := 64) rfl ?_
        refine Vw.icmp_ne (tgt := 77) (n := 67) (de_icmp_ne (B 64 _ rfl) (B 65 _ rfl) (B 66 _ rfl)) rfl rfl (fun c_64 => ?_) (fun c_64 => ?_)
        · have k2 : 2 ≤ k := by
            rcases (show k = 0 ∨ k = 1 ∨ 2 ≤ k by omega) with z | z | z
            · exact absurd (by rw [z]; rfl) c_51
            · exact absurd (by rw [z]; rfl) c_64
            · exact z
          refine Vw.aload_n (de_aload_0 (B 77 _ rfl)) 0 rfl (n := 78) rfl ?_
          refine Vw.getR (de_getfield (B 78 _ rfl) (B 79 _ rfl) (B 80 _ rfl)) fl_X11_46 rfl hC.k hC.f4 (n := 81) rfl ?_
          refine Vw.getR (de_getfield (B 81 _ rfl) (B 82 _ rfl) (B 83 _ rfl)) fl_X11_366 rfl hC.p4.k hC.p4.f9 (n := 84) rfl ?_
          refine Vw.iload_n (de_iload_3 (B 84 _ rfl)) 3 rfl (n := 85) rfl ?_
          refine Vw.iconst (v := 2) (de_iconst_2 (B 85 _ rfl)) rfl (n := 86) rfl ?_
          refine Vw.isub (de_isub (B 86 _ rfl)) (n := 87) rfl ?_
          refine Vw.iald (de_iaload (B 87 _ rfl)) hC.p4.r9 (vIx_n (k := k - 2) (nI_sub (a := k) (b := 2) (by omega) (by omega)) (by omega)) (n := 88) rfl ?_
          exact Vw.iret (de_ireturn (B 88 _ rfl)) rfl ⟨_, rfl, (by
    have e := h I2 M f2.fs
    unfold cutP at e
    rw [if_neg (by rintro (z | z | z); exact c_4 z; exact c_14 z; exact c_36 z), if_neg c_51, nI_cl (show m < 2147483648 by omega), nI_cl (show tl < 2147483648 by omega), cl2, nI_cl (show cl < 2147483648 by omega)] at e
    first
    | (rw [if_pos c_64] at e; exact e)
    | (rw [if_neg c_64, nI_cl (show k < 2147483648 by omega)] at e
       rw [show I2 (x + 66 + 6) (k - 2) = _ from e71 (k - 2) (by omega)]; exact e))⟩
        refine Vw.aload_n (de_aload_0 (B 67 _ rfl)) 0 rfl (n := 68) rfl ?_
        refine Vw.getR (de_getfield (B 68 _ rfl) (B 69 _ rfl) (B 70 _ rfl)) fl_X11_46 rfl hC.k hC.f4 (n := 71) rfl ?_
        refine Vw.getI (de_getfield (B 71 _ rfl) (B 72 _ rfl) (B 73 _ rfl)) fl_X11_363 rfl hC.p4.k (n := 74) rfl ?_
        rw [show I2 (x + 66) 10 = _ from e10]
        refine Vw.goto_ (n := 88) (de_goto_ (B 74 _ rfl) (B 75 _ rfl) (B 76 _ rfl)) rfl ?_
        exact Vw.iret (de_ireturn (B 88 _ rfl)) rfl ⟨_, rfl, (by
    have e := h I2 M f2.fs
    unfold cutP at e
    rw [if_neg (by rintro (z | z | z); exact c_4 z; exact c_14 z; exact c_36 z), if_neg c_51, nI_cl (show m < 2147483648 by omega), nI_cl (show tl < 2147483648 by omega), cl2, nI_cl (show cl < 2147483648 by omega)] at e
    first
    | (rw [if_pos c_64] at e; exact e)
    | (rw [if_neg c_64, nI_cl (show k < 2147483648 by omega)] at e
       rw [show I2 (x + 66 + 6) (k - 2) = _ from e71 (k - 2) (by omega)]; exact e))⟩
      refine Vw.aload_n (de_aload_0 (B 54 _ rfl)) 0 rfl (n := 55) rfl ?_
      refine Vw.getR (de_getfield (B 55 _ rfl) (B 56 _ rfl) (B 57 _ rfl)) fl_X11_46 rfl hC.k hC.f4 (n := 58) rfl ?_
      refine Vw.getI (de_getfield (B 58 _ rfl) (B 59 _ rfl) (B 60 _ rfl)) fl_X11_360 rfl hC.p4.k (n := 61) rfl ?_
      rw [show I2 (x + 66) 11 = _ from e11]
      exact Vw.iret (de_ireturn (B 61 _ rfl)) rfl ⟨_, rfl, (qv (by unfold cutP; rw [if_neg (by rintro (z | z | z); exact c_4 z; exact c_14 z; exact c_36 z), if_pos c_51, nI_cl (show m < 2147483648 by omega), nI_cl (show tl < 2147483648 by omega), cl2, nI_cl (show cl < 2147483648 by omega)]) (h I2 M f2.fs))⟩
    refine Vw.iconst (v := -1) (de_iconst_m1 (B 39 _ rfl)) rfl (n := 40) rfl ?_
    exact Vw.iret (de_ireturn (B 40 _ rfl)) rfl ⟨_, rfl, (qv (by unfold cutP; rw [if_pos (Or.inr (Or.inr c_36))]) (h I L FS.rfl))⟩
  refine Vw.iconst (v := -1) (de_iconst_m1 (B 17 _ rfl)) rfl (n := 18) rfl ?_
  exact Vw.iret (de_ireturn (B 18 _ rfl)) rfl ⟨_, rfl, (by first | exact qv (by unfold cutP; rw [if_pos (Or.inl c_4)]) (h I L FS.rfl) | exact qv (by unfold cutP; rw [if_pos (Or.inr (Or.inl c_14))]) (h I L FS.rfl))⟩
theorem q_dress {d : Nat} {S : vS} {I : vI} {L : vL} {Q : Int32 → vS → vI → vL → Prop} {x lb np nc ns nl : Nat} {K : Nat → Int32} {W : tW} {p n i : Int32}  (hC : ClsS S x) (hs : STR S I (x + 1) lb K np nc ns nl) (hW : WC S I (x + 1) lb W) (hlb : x + 942 ≤ lb)  (h : ∀ I2 M, FS x I I2 → Q (dressP W K np p n i) S I2 M) : Vc mX11_dress (d + 80) 0 0 [.ref x, .int p, .int n, .int i] S I L (ViQ Q) := by
  refine Vc.of rfl (Nat.le_of_ble_eq_true rfl) ?_
  have B := bs_X11_dress
  show Vw mX11_dress (d + 80) 0 0 0 0 (ViQ Q) 0 [(0, .ref x), (1, .int p), (2, .int n), (3, .int i)] [] S I L
  have hT := hC.p0.p0
  have hR := hC.p1
  have hp := hC.p3
  have hN := hs.tn
  have h8 := hN.1
  have h10 := hN.2.1
  have hK := hs.tr
  refine Vw.aload_n (de_aload_0 (B 0 _ rfl)) 0 rfl (n := 1) rfl ?_
  refine Vw.getR (de_getfield (B 1 _ rfl) (B 2 _ rfl) (B 3 _ rfl)) fl_X11_12 rfl hC.k hC.f0 (n := 4) rfl ?_
  refine Vw.getR (de_getfield (B 4 _ rfl) (B 5 _ rfl) (B 6 _ rfl)) fl_X11_104 rfl hC.p0.k hC.p0.f0 (n := 7) rfl ?_
  refine Vw.iload_n (de_iload_1 (B 7 _ rfl)) 1 rfl (n := 8) rfl ?_
  refine Vw.ivi1 (mi' := mX9_hasPerson) (de_invokevirtual (B 8 _ rfl) (B 9 _ rfl) (B 10 _ rfl)) ml_X11_120 mv_X9_hasPerson hC.p0.p0.k (Nat.le_of_ble_eq_true rfl) (n := 11) rfl (c_X9_hasPerson hT hK.1 (by omega) ?_)
  refine Vw.if_eq (tgt := 24) (n := 14) (de_if_eq (B 11 _ rfl) (B 12 _ rfl) (B 13 _ rfl)) rfl rfl (fun c_11 => ?_) (fun c_11 => ?_)
  · refine Vw.iconst (v := -1) (de_iconst_m1 (B 24 _ rfl)) rfl (n := 25) rfl ?_
    exact Vw.iret (de_ireturn (B 25 _ rfl)) rfl ⟨_, rfl, (by first | exact qv (by unfold dressP; rw [if_pos (Or.inl c_11)]) (h I L FS.rfl) | exact qv (by unfold dressP; rw [if_pos (Or.inr (Or.inl c_21))]) (h I L FS.rfl))⟩
  refine Vw.iload_n (de_iload_2 (B 14 _ rfl)) 2 rfl (n := 15) rfl ?_
  refine Vw.iconst (v := 0) (de_iconst_0 (B 15 _ rfl)) rfl (n := 16) rfl ?_
  refine Vw.bipush (v := 24) (de_bipush (B 16 _ rfl) (B 17 _ rfl)) rfl (n := 18) rfl ?_
  refine Vw.isi3 (mi' := mX11_isWithin) (de_invokestatic (B 18 _ rfl) (B 19 _ rfl) (B 20 _ rfl)) ml_X11_165 ms_X11_isWithin (Nat.le_of_ble_eq_true rfl) (n := 21) rfl (c_X11_isWithin ?_)
  refine Vw.if_ne (tgt := 26) (n := 24) (de_if_ne (B 21 _ rfl) (B 22 _ rfl) (B 23 _ rfl)) rfl rfl (fun c_21 => ?_) (fun c_21 => ?_)
  · obtain ⟨q, hq, rfl⟩ := lie_ex (n := np) (by omega) c_11
    obtain ⟨m, hm, rfl⟩ := lie_n (N := 24) (by decide) c_21
    refine Vw.iload_n (de_iload_3 (B 26 _ rfl)) 3 rfl (n := 27) rfl ?_
    refine Vw.iconst (v := -1) (de_iconst_m1 (B 27 _ rfl)) rfl (n := 28) rfl ?_
    refine Vw.iload_n (de_iload_2 (B 28 _ rfl)) 2 rfl (n := 29) rfl ?_
    refine Vw.isi3 (mi' := mX11_isWithin) (de_invokestatic (B 29 _ rfl) (B 30 _ rfl) (B 31 _ rfl)) ml_X11_165 ms_X11_isWithin (Nat.le_of_ble_eq_true rfl) (n := 32) rfl (c_X11_isWithin ?_)
    refine Vw.if_ne (tgt := 37) (n := 35) (de_if_ne (B 32 _ rfl) (B 33 _ rfl) (B 34 _ rfl)) rfl rfl (fun c_32 => ?_) (fun c_32 => ?_)
    · refine Vw.aload_n (de_aload_0 (B 37 _ rfl)) 0 rfl (n := 38) rfl ?_
      refine Vw.getR (de_getfield (B 38 _ rfl) (B 39 _ rfl) (B 40 _ rfl)) fl_X11_46 rfl hC.k hC.f4 (n := 41) rfl ?_
      refine Vw.iload_n (de_iload_1 (B 41 _ rfl)) 1 rfl (n := 42) rfl ?_
      refine Vw.iload_n (de_iload_2 (B 42 _ rfl)) 2 rfl (n := 43) rfl ?_
      refine Vw.ivv2 (mi' := mX1_planDressing) (de_invokevirtual (B 43 _ rfl) (B 44 _ rfl) (B 45 _ rfl)) ml_X11_369 mv_X1_planDressing hC.p4.k (Nat.le_of_ble_eq_true rfl) (n := 46) rfl (c_X1_planDressing (s := x + 1) hC.p4 hK hN hW (by omega) (hs.kb.1 q hq) hq hm (fun I2 M f2 m2 e72 e73 => ?_))
      refine Vw.iload_n (de_iload_3 (B 46 _ rfl)) 3 rfl (n := 47) rfl ?_
      refine Vw.iconst (v := -1) (de_iconst_m1 (B 47 _ rfl)) rfl (n := 48) rfl ?_
      refine Vw.icmp_ne (tgt := 61) (n := 51) (de_icmp_ne (B 48 _ rfl) (B 49 _ rfl) (B 50 _ rfl)) rfl rfl (fun c_48 => ?_) (fun c_48 => ?_)
      · obtain ⟨j, hj, rfl⟩ := lie_m1 (n := m) (by omega) c_32 c_48
        refine Vw.aload_n (de_aload_0 (B 61 _ rfl)) 0 rfl (n := 62) rfl ?_
        refine Vw.getR (de_getfield (B 62 _ rfl) (B 63 _ rfl) (B 64 _ rfl)) fl_X11_46 rfl hC.k hC.f4 (n := 65) rfl ?_
        refine Vw.iload_n (de_iload_3 (B 65 _ rfl)) 3 rfl (n := 66) rfl ?_
        refine Vw.ivi1 (mi' := mX1_isCutAt) (de_invokevirtual (B 66 _ rfl) (B 67 _ rfl) (B 68 _ rfl)) ml_X11_375 mv_X1_isCutAt hC.p4.k (Nat.le_of_ble_eq_true rfl) (n := 69) rfl (c_X1_isCutAt (s := x + 1) (g := nxtC (dCl W K q) m) hC.p4 (by omega) (fun k hk => ⟨e73 k (by omega), by unfold nxtC; have := nxtF_le (c := dCl W K q k) (l := leastT (dCl W K q) m (m + 1)) (v := leastT (dCl W K q) m (m + 1) k) (f := m - k) (t := k + 1); omega⟩) ?_)
        refine Vw.if_eq (tgt := 76) (n := 72) (de_if_eq (B 69 _ rfl) (B 70 _ rfl) (B 71 _ rfl)) rfl rfl (fun c_69 => ?_) (fun c_69 => ?_)
        · refine Vw.iconst (v := 0) (de_iconst_0 (B 76 _ rfl)) rfl (n := 77) rfl ?_
          exact Vw.iret (de_ireturn (B 77 _ rfl)) rfl ⟨_, rfl, (by
    have e := h I2 M f2.fs
    unfold dressP at e
    rw [if_neg (by rintro (z | z | z); exact c_11 z; exact c_21 z; exact c_32 z), if_neg c_48, nI_cl (show q < 2147483648 by omega), nI_cl (show m < 2147483648 by omega), nI_cl (show j < 2147483648 by omega), ct_reach] at e
    by_cases z : ctG (nxtC (dCl W K q) m) j 25 0 = j
    · rw [if_pos z] at e
      rw [decide_eq_true z] at c_69
      first | exact e | exact absurd c_69 (by decide)
    · rw [if_neg z] at e
      rw [decide_eq_false z] at c_69
      first | exact e | exact absurd rfl c_69)⟩
        refine Vw.iconst (v := 1) (de_iconst_1 (B 72 _ rfl)) rfl (n := 73) rfl ?_
        refine Vw.goto_ (n := 77) (de_goto_ (B 73 _ rfl) (B 74 _ rfl) (B 75 _ rfl)) rfl ?_
        exact Vw.iret (de_ireturn (B 77 _ rfl)) rfl ⟨_, rfl, (by
    have e := h I2 M f2.fs
    unfold dressP at e
    rw [if_neg (by rintro (z | z | z); exact c_11 z; exact c_21 z; exact c_32 z), if_neg c_48, nI_cl (show q < 2147483648 by omega), nI_cl (show m < 2147483648 by omega), nI_cl (show j < 2147483648 by omega), ct_reach] at e
    by_cases z : ctG (nxtC (dCl W K q) m) j 25 0 = j
    · rw [if_pos z] at e
      rw [decide_eq_true z] at c_69
      first | exact e | exact absurd c_69 (by decide)
    · rw [if_neg z] at e
      rw [decide_eq_false z] at c_69
      first | exact e | exact absurd rfl c_69)⟩
      refine Vw.aload_n (de_aload_0 (B 51 _ rfl)) 0 rfl (n := 52) rfl ?_
      refine Vw.getR (de_getfield (B 52 _ rfl) (B 53 _ rfl) (B 54 _ rfl)) fl_X11_46 rfl hC.k hC.f4 (n := 55) rfl ?_
      refine Vw.getR (de_getfield (B 55 _ rfl) (B 56 _ rfl) (B 57 _ rfl)) fl_X11_372 rfl hC.p4.k hC.p4.f12 (n := 58) rfl ?_
      refine Vw.iconst (v := 0) (de_iconst_0 (B 58 _ rfl)) rfl (n := 59) rfl ?_
      refine Vw.iald (de_iaload (B 59 _ rfl)) hC.p4.r12 (j := 0) ⟨rfl, by decide, by decide⟩ (n := 60) rfl ?_
      rw [show I2 (x + 66 + 7) 0 = _ from e72]
      exact Vw.iret (de_ireturn (B 60 _ rfl)) rfl ⟨_, rfl, (qv (by unfold dressP; rw [if_neg (by rintro (z | z | z); exact c_11 z; exact c_21 z; exact c_32 z), if_pos c_48, nI_cl (show q < 2147483648 by omega), nI_cl (show m < 2147483648 by omega)]) (h I2 M f2.fs))⟩
    refine Vw.iconst (v := -1) (de_iconst_m1 (B 35 _ rfl)) rfl (n := 36) rfl ?_
    exact Vw.iret (de_ireturn (B 36 _ rfl)) rfl ⟨_, rfl, (qv (by unfold dressP; rw [if_pos (Or.inr (Or.inr c_32))]) (h I L FS.rfl))⟩
  refine Vw.iconst (v := -1) (de_iconst_m1 (B 24 _ rfl)) rfl (n := 25) rfl ?_
  exact Vw.iret (de_ireturn (B 25 _ rfl)) rfl ⟨_, rfl, (by first | exact qv (by unfold dressP; rw [if_pos (Or.inl c_11)]) (h I L FS.rfl) | exact qv (by unfold dressP; rw [if_pos (Or.inr (Or.inl c_21))]) (h I L FS.rfl))⟩
theorem q_moths {d : Nat} {S : vS} {I : vI} {L : vL} {Q : Int32 → vS → vI → vL → Prop} {x : Nat} (hC : ClsS S x) (h : Q (I x 13) S I L) : Vc mX11_moths (d + 80) 0 0 [.ref x] S I L (ViQ Q) := by
  refine Vc.of rfl (Nat.le_of_ble_eq_true rfl) ?_
  have B := bs_X11_moths
  show Vw mX11_moths (d + 80) 0 0 0 0 (ViQ Q) 0 [(0, .ref x)] [] S I L
  refine Vw.aload_n (de_aload_0 (B 0 _ rfl)) 0 rfl (n := 1) rfl ?_
  refine Vw.getI (de_getfield (B 1 _ rfl) (B 2 _ rfl) (B 3 _ rfl)) fl_X11_201 rfl hC.k (n := 4) rfl ?_
  exact Vw.iret (de_ireturn (B 4 _ rfl)) rfl ⟨_, rfl, h⟩
theorem q_fault {d : Nat} {S : vS} {I : vI} {L : vL} {Q : Int32 → vS → vI → vL → Prop} {x : Nat} (hC : ClsS S x) (h : Q (I x 14) S I L) : Vc mX11_fault (d + 80) 0 0 [.ref x] S I L (ViQ Q) := by
  refine Vc.of rfl (Nat.le_of_ble_eq_true rfl) ?_
  have B := bs_X11_fault
  show Vw mX11_fault (d + 80) 0 0 0 0 (ViQ Q) 0 [(0, .ref x)] [] S I L
  refine Vw.aload_n (de_aload_0 (B 0 _ rfl)) 0 rfl (n := 1) rfl ?_
  refine Vw.getI (de_getfield (B 1 _ rfl) (B 2 _ rfl) (B 3 _ rfl)) fl_X11_86 rfl hC.k (n := 4) rfl ?_
  exact Vw.iret (de_ireturn (B 4 _ rfl)) rfl ⟨_, rfl, h⟩
theorem q_stopped {d : Nat} {S : vS} {I : vI} {L : vL} {Q : Int32 → vS → vI → vL → Prop} {x : Nat} (hC : ClsS S x) (h : Q (I x 15) S I L) : Vc mX11_stopped (d + 80) 0 0 [.ref x] S I L (ViQ Q) := by
  refine Vc.of rfl (Nat.le_of_ble_eq_true rfl) ?_
  have B := bs_X11_stopped
  show Vw mX11_stopped (d + 80) 0 0 0 0 (ViQ Q) 0 [(0, .ref x)] [] S I L
  refine Vw.aload_n (de_aload_0 (B 0 _ rfl)) 0 rfl (n := 1) rfl ?_
  refine Vw.getI (de_getfield (B 1 _ rfl) (B 2 _ rfl) (B 3 _ rfl)) fl_X11_90 rfl hC.k (n := 4) rfl ?_
  exact Vw.iret (de_ireturn (B 4 _ rfl)) rfl ⟨_, rfl, h⟩
theorem q_status {d : Nat} {S : vS} {I : vI} {L : vL} {Q : Int32 → vS → vI → vL → Prop} {x : Nat} (hC : ClsS S x) (h : Q (I x 16) S I L) : Vc mX11_status (d + 80) 0 0 [.ref x] S I L (ViQ Q) := by
  refine Vc.of rfl (Nat.le_of_ble_eq_true rfl) ?_
  have B := bs_X11_status
  show Vw mX11_status (d + 80) 0 0 0 0 (ViQ Q) 0 [(0, .ref x)] [] S I L
  refine Vw.aload_n (de_aload_0 (B 0 _ rfl)) 0 rfl (n := 1) rfl ?_
  refine Vw.getI (de_getfield (B 1 _ rfl) (B 2 _ rfl) (B 3 _ rfl)) fl_X11_410 rfl hC.k (n := 4) rfl ?_
  exact Vw.iret (de_ireturn (B 4 _ rfl)) rfl ⟨_, rfl, h⟩
theorem q_drawn {d : Nat} {S : vS} {I : vI} {L : vL} {Q : Int32 → vS → vI → vL → Prop} {x nd : Nat} {k y : Int32} {wd got : Nat → Int32} (hC : ClsS S x) (hd8 : nd ≤ 8) (hY : ¬ I (x + 34) 11 = 0 → I (x + 43) 4 = nI nd ∧ (∀ q, q < nd → I (x + 43 + 5 + q) 2 = wd q) ∧ ∀ t, t < 4 → I (x + 43 + 4) t = got t) (h : Q (drawnP (I (x + 34) 11) nd wd got k y) S I L) : Vc mX11_drawn (d + 80) 0 0 [.ref x, .int k, .int y] S I L (ViQ Q) := by
  refine Vc.of rfl (Nat.le_of_ble_eq_true rfl) ?_
  have B := bs_X11_drawn
  show Vw mX11_drawn (d + 80) 0 0 0 0 (ViQ Q) 0 [(0, .ref x), (1, .int k), (2, .int y)] [] S I L
  have hT := hC.p3.p10
  refine Vw.aload_n (de_aload_0 (B 0 _ rfl)) 0 rfl (n := 1) rfl ?_
  refine Vw.getR (de_getfield (B 1 _ rfl) (B 2 _ rfl) (B 3 _ rfl)) fl_X11_37 rfl hC.k hC.f3 (n := 4) rfl ?_
  refine Vw.getI (de_getfield (B 4 _ rfl) (B 5 _ rfl) (B 6 _ rfl)) fl_X11_401 rfl hC.p3.k (n := 7) rfl ?_
  refine Vw.if_ne (tgt := 12) (n := 10) (de_if_ne (B 7 _ rfl) (B 8 _ rfl) (B 9 _ rfl)) rfl rfl (fun c_7 => ?_) (fun c_7 => ?_)
  · obtain ⟨y1, y2, y3⟩ := hY c_7
    refine Vw.iload_n (de_iload_2 (B 12 _ rfl)) 2 rfl (n := 13) rfl ?_
    refine Vw.if_ne (tgt := 46) (n := 16) (de_if_ne (B 13 _ rfl) (B 14 _ rfl) (B 15 _ rfl)) rfl rfl (fun c_13 => ?_) (fun c_13 => ?_)
    · refine Vw.iload_n (de_iload_2 (B 46 _ rfl)) 2 rfl (n := 47) rfl ?_
      refine Vw.iconst (v := 1) (de_iconst_1 (B 47 _ rfl)) rfl (n := 48) rfl ?_
      refine Vw.icmp_ne (tgt := 71) (n := 51) (de_icmp_ne (B 48 _ rfl) (B 49 _ rfl) (B 50 _ rfl)) rfl rfl (fun c_48 => ?_) (fun c_48 => ?_)
      · refine Vw.iconst (v := -1) (de_iconst_m1 (B 71 _ rfl)) rfl (n := 72) rfl ?_
        exact Vw.iret (de_ireturn (B 72 _ rfl)) rfl ⟨_, rfl, (qv (by
    unfold drawnP
    rw [if_neg c_7]
    by_cases z : y = 0
    · rw [if_pos z]
      first
      | rw [if_pos c_27]
      | exact absurd z c_13
    · rw [if_neg z]
      first
      | rw [if_neg c_48]
      | (rw [if_pos c_48]; first | rw [if_pos c_55] | skip)) h)⟩
      refine Vw.iload_n (de_iload_1 (B 51 _ rfl)) 1 rfl (n := 52) rfl ?_
      refine Vw.isi1 (mi' := mX11_isTailor) (de_invokestatic (B 52 _ rfl) (B 53 _ rfl) (B 54 _ rfl)) ml_X11_162 ms_X11_isTailor (Nat.le_of_ble_eq_true rfl) (n := 55) rfl (c_X11_isTailor ?_)
      refine Vw.if_eq (tgt := 71) (n := 58) (de_if_eq (B 55 _ rfl) (B 56 _ rfl) (B 57 _ rfl)) rfl rfl (fun c_55 => ?_) (fun c_55 => ?_)
      · refine Vw.iconst (v := -1) (de_iconst_m1 (B 71 _ rfl)) rfl (n := 72) rfl ?_
        exact Vw.iret (de_ireturn (B 72 _ rfl)) rfl ⟨_, rfl, (qv (by
    unfold drawnP
    rw [if_neg c_7]
    by_cases z : y = 0
    · rw [if_pos z]
      first
      | rw [if_pos c_27]
      | exact absurd z c_13
    · rw [if_neg z]
      first
      | rw [if_neg c_48]
      | (rw [if_pos c_48]; first | rw [if_pos c_55] | skip)) h)⟩
      obtain ⟨tl, htl, rfl⟩ := lie_n (N := 3) (by decide) c_55
      refine Vw.aload_n (de_aload_0 (B 58 _ rfl)) 0 rfl (n := 59) rfl ?_
      refine Vw.getR (de_getfield (B 59 _ rfl) (B 60 _ rfl) (B 61 _ rfl)) fl_X11_37 rfl hC.k hC.f3 (n := 62) rfl ?_
      refine Vw.getR (de_getfield (B 62 _ rfl) (B 63 _ rfl) (B 64 _ rfl)) fl_X11_405 rfl hC.p3.k hC.p3.f10 (n := 65) rfl ?_
      refine Vw.getR (de_getfield (B 65 _ rfl) (B 66 _ rfl) (B 67 _ rfl)) fl_X11_171 rfl hC.p3.p10.k hC.p3.p10.f3 (n := 68) rfl ?_
      refine Vw.iload_n (de_iload_1 (B 68 _ rfl)) 1 rfl (n := 69) rfl ?_
      refine Vw.iald (de_iaload (B 69 _ rfl)) hC.p3.p10.r3 (vIx_n (k := tl) rfl (by omega)) (n := 70) rfl ?_
      rw [show I (x + 34 + 9 + 4) tl = got tl from y3 tl (by omega)]
      exact Vw.iret (de_ireturn (B 70 _ rfl)) rfl ⟨_, rfl, (qv (by
    unfold drawnP
    rw [if_neg c_7]
    have n0 : ¬ y = 0 := by rw [c_48]; decide
    rw [if_neg n0, if_pos c_48, if_neg c_55, nI_cl (by omega)]) h)⟩
    refine Vw.aload_n (de_aload_0 (B 16 _ rfl)) 0 rfl (n := 17) rfl ?_
    refine Vw.getR (de_getfield (B 17 _ rfl) (B 18 _ rfl) (B 19 _ rfl)) fl_X11_37 rfl hC.k hC.f3 (n := 20) rfl ?_
    refine Vw.getR (de_getfield (B 20 _ rfl) (B 21 _ rfl) (B 22 _ rfl)) fl_X11_405 rfl hC.p3.k hC.p3.f10 (n := 23) rfl ?_
    refine Vw.iload_n (de_iload_1 (B 23 _ rfl)) 1 rfl (n := 24) rfl ?_
    refine Vw.ivi1 (mi' := mX9_hasPerson) (de_invokevirtual (B 24 _ rfl) (B 25 _ rfl) (B 26 _ rfl)) ml_X11_120 mv_X9_hasPerson hC.p3.p10.k (Nat.le_of_ble_eq_true rfl) (n := 27) rfl (c_X9_hasPerson (t := x + 34 + 9) hT (n := nd) y1 (by omega) ?_)
    refine Vw.if_eq (tgt := 46) (n := 30) (de_if_eq (B 27 _ rfl) (B 28 _ rfl) (B 29 _ rfl)) rfl rfl (fun c_27 => ?_) (fun c_27 => ?_)
    · refine Vw.iload_n (de_iload_2 (B 46 _ rfl)) 2 rfl (n := 47) rfl ?_
      refine Vw.iconst (v := 1) (de_iconst_1 (B 47 _ rfl)) rfl (n := 48) rfl ?_
      refine Vw.icmp_ne (tgt := 71) (n := 51) (de_icmp_ne (B 48 _ rfl) (B 49 _ rfl) (B 50 _ rfl)) rfl rfl (fun c_48 => ?_) (fun c_48 => ?_)
      · refine Vw.iconst (v := -1) (de_iconst_m1 (B 71 _ rfl)) rfl (n := 72) rfl ?_
        exact Vw.iret (de_ireturn (B 72 _ rfl)) rfl ⟨_, rfl, (qv (by
    unfold drawnP
    rw [if_neg c_7]
    by_cases z : y = 0
    · rw [if_pos z]
      first
      | rw [if_pos c_27]
      | exact absurd z c_13
    · rw [if_neg z]
      first
      | rw [if_neg c_48]
      | (rw [if_pos c_48]; first | rw [if_pos c_55] | skip)) h)⟩
      refine Vw.iload_n (de_iload_1 (B 51 _ rfl)) 1 rfl (n := 52) rfl ?_
      refine Vw.isi1 (mi' := mX11_isTailor) (de_invokestatic (B 52 _ rfl) (B 53 _ rfl) (B 54 _ rfl)) ml_X11_162 ms_X11_isTailor (Nat.le_of_ble_eq_true rfl) (n := 55) rfl (c_X11_isTailor ?_)
      refine Vw.if_eq (tgt := 71) (n := 58) (de_if_eq (B 55 _ rfl) (B 56 _ rfl) (B 57 _ rfl)) rfl rfl (fun c_55 => ?_) (fun c_55 => ?_)
      · refine Vw.iconst (v := -1) (de_iconst_m1 (B 71 _ rfl)) rfl (n := 72) rfl ?_
        exact Vw.iret (de_ireturn (B 72 _ rfl)) rfl ⟨_, rfl, (qv (by
    unfold drawnP
    rw [if_neg c_7]
    by_cases z : y = 0
    · rw [if_pos z]
      first
      | rw [if_pos c_27]
      | exact absurd z c_13
    · rw [if_neg z]
      first
      | rw [if_neg c_48]
      | (rw [if_pos c_48]; first | rw [if_pos c_55] | skip)) h)⟩
      obtain ⟨tl, htl, rfl⟩ := lie_n (N := 3) (by decide) c_55
      refine Vw.aload_n (de_aload_0 (B 58 _ rfl)) 0 rfl (n := 59) rfl ?_
      refine Vw.getR (de_getfield (B 59 _ rfl) (B 60 _ rfl) (B 61 _ rfl)) fl_X11_37 rfl hC.k hC.f3 (n := 62) rfl ?_
      refine Vw.getR (de_getfield (B 62 _ rfl) (B 63 _ rfl) (B 64 _ rfl)) fl_X11_405 rfl hC.p3.k hC.p3.f10 (n := 65) rfl ?_
      refine Vw.getR (de_getfield (B 65 _ rfl) (B 66 _ rfl) (B 67 _ rfl)) fl_X11_171 rfl hC.p3.p10.k hC.p3.p10.f3 (n := 68) rfl ?_
      refine Vw.iload_n (de_iload_1 (B 68 _ rfl)) 1 rfl (n := 69) rfl ?_
      refine Vw.iald (de_iaload (B 69 _ rfl)) hC.p3.p10.r3 (vIx_n (k := tl) rfl (by omega)) (n := 70) rfl ?_
      rw [show I (x + 34 + 9 + 4) tl = got tl from y3 tl (by omega)]
      exact Vw.iret (de_ireturn (B 70 _ rfl)) rfl ⟨_, rfl, (qv (by
    unfold drawnP
    rw [if_neg c_7]
    have n0 : ¬ y = 0 := by rw [c_48]; decide
    rw [if_neg n0, if_pos c_48, if_neg c_55, nI_cl (by omega)]) h)⟩
    obtain ⟨q, hq, rfl⟩ := lie_ex (n := nd) (by omega) c_27
    refine Vw.aload_n (de_aload_0 (B 30 _ rfl)) 0 rfl (n := 31) rfl ?_
    refine Vw.getR (de_getfield (B 31 _ rfl) (B 32 _ rfl) (B 33 _ rfl)) fl_X11_37 rfl hC.k hC.f3 (n := 34) rfl ?_
    refine Vw.getR (de_getfield (B 34 _ rfl) (B 35 _ rfl) (B 36 _ rfl)) fl_X11_405 rfl hC.p3.k hC.p3.f10 (n := 37) rfl ?_
    refine Vw.getR (de_getfield (B 37 _ rfl) (B 38 _ rfl) (B 39 _ rfl)) fl_X11_124 rfl hC.p3.p10.k hC.p3.p10.f0 (n := 40) rfl ?_
    refine Vw.iload_n (de_iload_1 (B 40 _ rfl)) 1 rfl (n := 41) rfl ?_
    refine Vw.aald3 (b := 0) (de_aaload (B 41 _ rfl)) hC.p3.p10.r0 (vIx_n (k := q) rfl (by omega)) (hT.pr (show q < 8 by omega)) (n := 42) rfl ?_
    refine Vw.getI (de_getfield (B 42 _ rfl) (B 43 _ rfl) (B 44 _ rfl)) fl_X11_136 rfl (hT.pk (show q < 8 by omega)) (n := 45) rfl ?_
    rw [show I (x + 34 + 9 + 5 + q) 2 = wd q from y2 q hq]
    exact Vw.iret (de_ireturn (B 45 _ rfl)) rfl ⟨_, rfl, (qv (by unfold drawnP; rw [if_neg c_7, if_pos c_13, if_neg c_27, nI_cl (by omega)]) h)⟩
  refine Vw.iconst (v := -1) (de_iconst_m1 (B 10 _ rfl)) rfl (n := 11) rfl ?_
  exact Vw.iret (de_ireturn (B 11 _ rfl)) rfl ⟨_, rfl, (qv (by unfold drawnP; rw [if_pos c_7]) h)⟩
