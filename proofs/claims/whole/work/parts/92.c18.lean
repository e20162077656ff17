/-! Chances in the class -/
def LC (s : Nat) (L M : vL) : Prop := ∀ b k, ¬ (b = s + 28 ∧ k = 3) → b ≠ s + 30 → b ≠ s + 38 → b ≠ s + 39 → M b k = L b k
theorem LC.rfl {s : Nat} {L : vL} : LC s L L := fun _ _ _ _ _ _ => Eq.refl _
theorem LC.trans {s : Nat} {L M N : vL} (h : LC s L M) (g : LC s M N) : LC s L N := fun b k h1 h2 h3 h4 => (g b k h1 h2 h3 h4).trans (h b k h1 h2 h3 h4)
theorem Lev.lc {s : Nat} {L M : vL} (h : Lev (s + 28) L M) : LC s L M := fun b k h1 h2 _ _ => h b k h1 (by omega)
def sprC (W : tW) (p now : Int32) (P : tP) (F : Int32) (D : Nat → Int64) : Nat → Nat → Int64
  | 0 => fun _ => 0
  | w + 1 => if w < 5 ∨ D w = 0 then sprC W p now P F D w else
      upL (upL (sprC W p now P F D w) (sprTo W p now P w) (sprC W p now P F D w (sprTo W p now P w) + D w * (10 - F).toInt64)) (wMin (sprTo W p now P w))
        (upL (sprC W p now P F D w) (sprTo W p now P w) (sprC W p now P F D w (sprTo W p now P w) + D w * (10 - F).toInt64) (wMin (sprTo W p now P w)) + D w * F.toInt64)
theorem sprC_0 {W : tW} {p now : Int32} {P : tP} {F : Int32} {D : Nat → Int64} {w : Nat} (h : w < 5 ∨ D w = 0) : sprC W p now P F D (w + 1) = sprC W p now P F D w := by rw [sprC, if_pos h]
theorem sprC_5 {W : tW} {p now : Int32} {P : tP} {F : Int32} {D : Nat → Int64} (v : Nat) : sprC W p now P F D 5 v = 0 := by
  rw [sprC_0 (Or.inl (by decide)), sprC_0 (Or.inl (by decide)), sprC_0 (Or.inl (by decide)), sprC_0 (Or.inl (by decide)), sprC_0 (Or.inl (by decide)), sprC]
theorem sp_row {M : vL} {a c j g w : Nat} {P D : Nat → Int64} {A B : Int64} (hac : c ≠ a) (hP : ∀ v, v ≤ 200 → M a v = P v) (hj : j ≤ 200) (hg : g ≤ 200) (hD : M c w = D w) : ∀ v, v ≤ 200 → up2 (up2 M a j (M a j + M c w * A)) a g (up2 M a j (M a j + M c w * A) a g + up2 M a j (M a j + M c w * A) c w * B) a v = upL (upL P j (P j + D w * A)) g (upL P j (P j + D w * A) g + D w * B) v := by
  have h1 : ∀ v, v ≤ 200 → up2 M a j (M a j + M c w * A) a v = upL P j (P j + D w * A) v := by
    intro v hv
    by_cases z : v = j
    · rw [z, up2_s, upL_s, hP j hj, hD]
    · rw [up2_k z, upL_n z, hP v hv]
  intro v hv
  by_cases z : v = g
  · rw [z, up2_s, upL_s, h1 g hg, up2_a hac, hD]
  · rw [up2_k z, upL_n z, h1 v hv]
theorem c_X4_spread {d : Nat} {S : vS} {I : vI} {L : vL} {Q : vS → vI → vL → Prop} {s lb np nc : Nat} {K : Nat → Int32} {W : tW} {q k n2 : Nat} {D : Nat → Int64} (hp : PlanS S (s + 33) s (s + 28)) (hK : TR I (s + 1) K np nc) (hN : TN K np nc) (hW : WC S I s lb W) (hlb : s + 66 ≤ lb) (hq : q < np) (hP : PW I s (walkP W (nI q) (K 121) (perP K q)) n2) (hk : k ≤ n2) (hk8 : k ≤ 80) (hF : I s 4 = K 140) (hD : ∀ v, v ≤ 200 → L (s + 38) v = D v) (h : ∀ I2 M, FP s I I2 → (∀ b, s + 35 ≤ b → b ≤ s + 37 → I2 b = I b) → LC s L M → (∀ v, v ≤ 200 → M (s + 38) v = sprC W (nI q) (K 121 + nI k) (walkP W (nI q) (K 121) (perP K q) k) (K 140) D 201 v) → Q S I2 M) : Vc mX4_spread (d + 3) 0 0 [.ref (s + 33), .int (nI q), .int (nI k)] S I L (VvQ Q) := by
  refine Vc.of rfl (Nat.le_of_ble_eq_true rfl) ?_
  have B := bs_X4_spread
  show Vw mX4_spread (d + 3) 0 0 0 0 (VvQ Q) 0 [(0, .ref (s + 33)), (1, .int (nI q)), (2, .int (nI k))] [] S I L
  have h8 := hN.1
  have h10 := hN.2.1
  have hT := hp.p0.p0
  have hR := hp.p1
  have eP : ((walkP W (nI q) (K 121) (perP K q) k).1, (walkP W (nI q) (K 121) (perP K q) k).2.1, ((walkP W (nI q) (K 121) (perP K q) k).2.2.2)) = (I (s + 35) k, I (s + 36) k, K (4 * q + 3)) := by
    rw [(hP k hk).1, (hP k hk).2.1, walkP_fed (W := W) (p := nI q) (now := K 121) (P := perP K q) (k := k)]; rfl
  have loop : ∀ w, w ≤ 201 → 5 ≤ w → ∀ J M, FP s I J → (∀ b, s + 35 ≤ b → b ≤ s + 37 → J b = I b) → LC s L M → (∀ v, v ≤ 200 → M (s + 38) v = D v) → (∀ v, v ≤ 200 → M (s + 39) v = sprC W (nI q) (K 121 + nI k) (walkP W (nI q) (K 121) (perP K q) k) (K 140) D w v) → Vw mX4_spread (d + 3) 0 0 0 0 (VvQ Q) 36 [(0, .ref (s + 33)), (1, .int (nI q)), (2, .int (nI k)), (3, .int (K 140)), (4, .int (K (4 * q + 3))), (5, .int (nI w))] [] S J M := by
    refine loop_up (fun w hw2 ih => ?_)
    intro h5 J M fJ gJ fM dM tM
    refine Vw.iload (de_iload (B 36 _ rfl) (B 37 _ rfl)) 5 rfl (n := 38) rfl ?_
    refine Vw.sipush (v := 200) (de_sipush (B 38 _ rfl) (B 39 _ rfl) (B 40 _ rfl)) rfl (n := 41) rfl ?_
    refine Vw.icmp_gt (tgt := 176) (n := 44) (de_icmp_gt (B 41 _ rfl) (B 42 _ rfl) (B 43 _ rfl)) rfl rfl (fun c_41 => ?_) (fun c_41 => ?_)
    · have z_41 : w = 201 := by rcases Nat.lt_or_ge w 201 with z | z; exact absurd ((nI_leI (a := w) (b := 200) (by omega) (by omega)).mpr (by omega)) (Int32.not_le.mpr c_41); omega
      subst z_41
      refine Vw.aload_n (de_aload_0 (B 176 _ rfl)) 0 rfl (n := 177) rfl ?_
      refine Vw.getR (de_getfield (B 177 _ rfl) (B 178 _ rfl) (B 179 _ rfl)) fl_X4_32 rfl hp.k hp.f7 (n := 180) rfl ?_
      refine Vw.iconst (v := 0) (de_iconst_0 (B 180 _ rfl)) rfl (n := 181) rfl ?_
      refine Vw.aload_n (de_aload_0 (B 181 _ rfl)) 0 rfl (n := 182) rfl ?_
      refine Vw.getR (de_getfield (B 182 _ rfl) (B 183 _ rfl) (B 184 _ rfl)) fl_X4_28 rfl hp.k hp.f6 (n := 185) rfl ?_
      refine Vw.iconst (v := 0) (de_iconst_0 (B 185 _ rfl)) rfl (n := 186) rfl ?_
      refine Vw.sipush (v := 201) (de_sipush (B 186 _ rfl) (B 187 _ rfl) (B 188 _ rfl)) rfl (n := 189) rfl ?_
      refine Vw.copyL (de_invokestatic (B 189 _ rfl) (B 190 _ rfl) (B 191 _ rfl)) ml_X4_180 hp.r7 hp.r6 (sj := 0) (dj := 0) (nj := 201) rfl rfl rfl (by decide) (by decide) (by decide) (by decide) (n := 192) rfl ?_
      exact Vw.vret (de_return_ (B 192 _ rfl)) rfl ⟨rfl, (h J _ fJ gJ (fM.trans (fun b i y1 y2 y3 y4 => by unfold cpL; rw [if_neg (fun z => y3 z.1)])) (fun v hv => by
    have e := tM v hv
    unfold cpL
    rw [if_pos ⟨rfl, Nat.zero_le _, by omega⟩, show 0 + (v - 0) = v by omega]
    exact e))⟩
    have z_41 : w < 201 := by rcases Nat.lt_or_ge w 201 with z | z; exact z; exact absurd (Int32.not_le.mp (fun q => absurd ((nI_leI (a := w) (b := 200) (by omega) (by omega)).mp q) (by omega))) c_41
    refine Vw.aload_n (de_aload_0 (B 44 _ rfl)) 0 rfl (n := 45) rfl ?_
    refine Vw.getR (de_getfield (B 45 _ rfl) (B 46 _ rfl) (B 47 _ rfl)) fl_X4_28 rfl hp.k hp.f6 (n := 48) rfl ?_
    refine Vw.iload (de_iload (B 48 _ rfl) (B 49 _ rfl)) 5 rfl (n := 50) rfl ?_
    refine Vw.lald (de_laload (B 50 _ rfl)) hp.r6 (vIx_n (k := w) (by simp only [nI_A, nI_M, Int32.zero_add, Int32.add_zero] <;> rfl) (by omega)) (n := 51) rfl ?_
    rw [show M (s + 33 + 5) w = D w from dM w (by omega)]
    refine Vw.lconst (v := 0) (de_lconst_0 (B 51 _ rfl)) rfl (n := 52) rfl ?_
    refine Vw.lcmp (de_lcmp (B 52 _ rfl)) (n := 53) rfl ?_
    refine Vw.if_eq (tgt := 170) (n := 56) (de_if_eq (B 53 _ rfl) (B 54 _ rfl) (B 55 _ rfl)) rfl rfl (fun c_53 => ?_) (fun c_53 => ?_)
    · refine Vw.iinc (v := nI (w + 1)) (lv2 := [(0, _), (1, _), (2, _), (3, _), (4, _), (5, _)]) (de_iinc (B 170 _ rfl) (B 171 _ rfl) (B 172 _ rfl)) 5 rfl (nI_1 w) (by decide) [1, 2, 3, 4, 5, 0] rfl (n := 173) rfl ?_
      refine Vw.goto_ (n := 36) (de_goto_ (B 173 _ rfl) (B 174 _ rfl) (B 175 _ rfl)) rfl ?_
      first
      | exact ih z_41 (by omega) J M fJ gJ fM dM (fun v hv => by rw [sprC_0 (Or.inr ((lg_cmp_eq _ _).mp c_53))]; exact tM v hv)
      | (have f3p : FP s I2 I3 := f3.fp (Or.inr (Or.inl rfl))
         have d3 : ∀ v, v ≤ 200 → M3 (s + 33 + 5) v = D v := fun v hv => (m3 _ _ (by omega) (by omega)).trans (dM v hv)
         have t3 : ∀ v, v ≤ 200 → M3 (s + 33 + 6) v = sprC W (nI q) (K 121 + nI k) (walkP W (nI q) (K 121) (perP K q) k) (K 140) D w v := fun v hv => (m3 _ _ (by omega) (by omega)).trans (tM v hv)
         refine ih z_41 (by omega) I3 _ ((fJ.trans f2p).trans f3p) (fun b g1 g2 => ((f3 b (by omega)).trans (f2 b (by omega))).trans (gJ b g1 g2)) (fM.trans (m3.lc.trans (fun b i y1 y2 y3 y4 => by rw [up2_a (by omega), up2_a (by omega)]))) (fun v hv => by rw [up2_a (by omega), up2_a (by omega)]; exact d3 v hv) (fun v hv => ?_)
         rw [sprC, if_neg (fun z => z.elim (fun y => absurd y (by omega)) (fun y => c_53 ((lg_cmp_eq _ _).mpr y))), eto]
         exact sp_row (by omega) t3 hj hwm (d3 w (by omega)) v hv)
    refine Vw.aload_n (de_aload_0 (B 56 _ rfl)) 0 rfl (n := 57) rfl ?_
    refine Vw.getR (de_getfield (B 57 _ rfl) (B 58 _ rfl) (B 59 _ rfl)) fl_X4_12 rfl hp.k hp.f2 (n := 60) rfl ?_
    refine Vw.aload_n (de_aload_0 (B 60 _ rfl)) 0 rfl (n := 61) rfl ?_
    refine Vw.getR (de_getfield (B 61 _ rfl) (B 62 _ rfl) (B 63 _ rfl)) fl_X4_18 rfl hp.k hp.f3 (n := 64) rfl ?_
    refine Vw.iload_n (de_iload_2 (B 64 _ rfl)) 2 rfl (n := 65) rfl ?_
    refine Vw.iald (de_iaload (B 65 _ rfl)) hp.r3 (vIx_n (k := k) (by simp only [nI_A, nI_M, Int32.zero_add, Int32.add_zero] <;> rfl) (by omega)) (n := 66) rfl ?_
    refine Vw.aload_n (de_aload_0 (B 66 _ rfl)) 0 rfl (n := 67) rfl ?_
    refine Vw.getR (de_getfield (B 67 _ rfl) (B 68 _ rfl) (B 69 _ rfl)) fl_X4_22 rfl hp.k hp.f4 (n := 70) rfl ?_
    refine Vw.iload_n (de_iload_2 (B 70 _ rfl)) 2 rfl (n := 71) rfl ?_
    refine Vw.iald (de_iaload (B 71 _ rfl)) hp.r4 (vIx_n (k := k) (by simp only [nI_A, nI_M, Int32.zero_add, Int32.add_zero] <;> rfl) (by omega)) (n := 72) rfl ?_
    refine Vw.iload (de_iload (B 72 _ rfl) (B 73 _ rfl)) 5 rfl (n := 74) rfl ?_
    refine Vw.iload (de_iload (B 74 _ rfl) (B 75 _ rfl)) 4 rfl (n := 76) rfl ?_
    refine Vw.ivv4 (mi' := mX3_set) (de_invokevirtual (B 76 _ rfl) (B 77 _ rfl) (B 78 _ rfl)) ml_X4_93 mv_X3_set hp.ko2 (Nat.le_of_ble_eq_true rfl) (n := 79) rfl (c_X3_set hp.ko2 (fun I2 f2 e2 => ?_))
    have f2p : FP s J I2 := f2.fp (Or.inr (Or.inr ⟨by omega, by omega⟩))
    have k2 := f2p.tr (fJ.tr hK h8 h10) h8 h10
    refine Vw.aload_n (de_aload_0 (B 79 _ rfl)) 0 rfl (n := 80) rfl ?_
    refine Vw.getR (de_getfield (B 80 _ rfl) (B 81 _ rfl) (B 82 _ rfl)) fl_X4_53 rfl hp.k hp.f1 (n := 83) rfl ?_
    refine Vw.aload_n (de_aload_0 (B 83 _ rfl)) 0 rfl (n := 84) rfl ?_
    refine Vw.getR (de_getfield (B 84 _ rfl) (B 85 _ rfl) (B 86 _ rfl)) fl_X4_12 rfl hp.k hp.f2 (n := 87) rfl ?_
    refine Vw.iload_n (de_iload_1 (B 87 _ rfl)) 1 rfl (n := 88) rfl ?_
    refine Vw.aload_n (de_aload_0 (B 88 _ rfl)) 0 rfl (n := 89) rfl ?_
    refine Vw.getR (de_getfield (B 89 _ rfl) (B 90 _ rfl) (B 91 _ rfl)) fl_X4_49 rfl hp.k hp.f0 (n := 92) rfl ?_
    refine Vw.getR (de_getfield (B 92 _ rfl) (B 93 _ rfl) (B 94 _ rfl)) fl_X4_57 rfl hp.p0.k hp.p0.f0 (n := 95) rfl ?_
    refine Vw.getI (de_getfield (B 95 _ rfl) (B 96 _ rfl) (B 97 _ rfl)) fl_X4_74 rfl hp.p0.p0.k (n := 98) rfl ?_
    rw [k2.2.2.1]
    refine Vw.iload_n (de_iload_2 (B 98 _ rfl)) 2 rfl (n := 99) rfl ?_
    refine Vw.iadd (de_iadd (B 99 _ rfl)) (n := 100) rfl ?_
    refine Vw.ivi3 (mi' := mX6_wideningOf) (de_invokevirtual (B 100 _ rfl) (B 101 _ rfl) (B 102 _ rfl)) ml_X4_174 mv_X6_wideningOf hp.p1.k (Nat.le_of_ble_eq_true rfl) (n := 103) rfl (c_X6_wideningOf hR hp.ko2 (f2p.wc (fJ.wc hW hlb) hlb) (by omega) (fun I3 M3 f3 m3 => ?_))
    rw [e2, gJ _ (by omega) (by omega), gJ _ (by omega) (by omega), show (I (s + 33 + 2) k, I (s + 33 + 3) k, nI w, K (4 * q + 3)) = ((walkP W (nI q) (K 121) (perP K q) k).1, (walkP W (nI q) (K 121) (perP K q) k).2.1, nI w, (walkP W (nI q) (K 121) (perP K q) k).2.2.2) from by rw [show I (s + 33 + 2) k = (walkP W (nI q) (K 121) (perP K q) k).1 from (hP k hk).1, show I (s + 33 + 3) k = (walkP W (nI q) (K 121) (perP K q) k).2.1 from (hP k hk).2.1, walkP_fed (W := W) (p := nI q) (now := K 121) (P := perP K q) (k := k)]; rfl]
    refine Vw.istore (lv2 := [(0, _), (1, _), (2, _), (3, _), (4, _), (5, _), (6, _)]) (de_istore (B 103 _ rfl) (B 104 _ rfl)) (by decide) [1, 2, 3, 4, 5, 6, 0] rfl (n := 105) rfl ?_
    refine Vw.iload (de_iload (B 105 _ rfl) (B 106 _ rfl)) 5 rfl (n := 107) rfl ?_
    refine Vw.iload (de_iload (B 107 _ rfl) (B 108 _ rfl)) 6 rfl (n := 109) rfl ?_
    refine Vw.iadd (de_iadd (B 109 _ rfl)) (n := 110) rfl ?_
    refine Vw.iconst (v := 5) (de_iconst_5 (B 110 _ rfl)) rfl (n := 111) rfl ?_
    refine Vw.sipush (v := 200) (de_sipush (B 111 _ rfl) (B 112 _ rfl) (B 113 _ rfl)) rfl (n := 114) rfl ?_
    refine Vw.isni3 (mi' := mX11_nearest) (de_invokestatic (B 114 _ rfl) (B 115 _ rfl) (B 116 _ rfl)) (by decide) ms_X11_nearest (Nat.le_of_ble_eq_true rfl) (n := 117) rfl (c_X11_nearest ?_)
    obtain ⟨j, hj5, hj, ej⟩ := within_ex (nI w + widenP W (nI q) (K 121 + nI k) ((walkP W (nI q) (K 121) (perP K q) k).1, (walkP W (nI q) (K 121) (perP K q) k).2.1, nI w, (walkP W (nI q) (K 121) (perP K q) k).2.2.2))
    rw [ej]
    have eto : sprTo W (nI q) (K 121 + nI k) (walkP W (nI q) (K 121) (perP K q) k) w = j := by unfold sprTo; rw [ej, nI_cl (by omega)]
    have hwm := wMin_le j
    refine Vw.istore (lv2 := [(0, _), (1, _), (2, _), (3, _), (4, _), (5, _), (6, _), (7, _)]) (de_istore (B 117 _ rfl) (B 118 _ rfl)) (by decide) [1, 2, 3, 4, 5, 6, 7, 0] rfl (n := 119) rfl ?_
    refine Vw.aload_n (de_aload_0 (B 119 _ rfl)) 0 rfl (n := 120) rfl ?_
    refine Vw.getR (de_getfield (B 120 _ rfl) (B 121 _ rfl) (B 122 _ rfl)) fl_X4_32 rfl hp.k hp.f7 (n := 123) rfl ?_
    refine Vw.iload (de_iload (B 123 _ rfl) (B 124 _ rfl)) 7 rfl (n := 125) rfl ?_
    refine Vw.dup2 (de_dup2 (B 125 _ rfl)) rfl rfl (n := 126) rfl ?_
    refine Vw.lald (de_laload (B 126 _ rfl)) hp.r7 (vIx_n (k := j) (by simp only [nI_A, nI_M, Int32.zero_add, Int32.add_zero] <;> rfl) (by omega)) (n := 127) rfl ?_
    refine Vw.aload_n (de_aload_0 (B 127 _ rfl)) 0 rfl (n := 128) rfl ?_
    refine Vw.getR (de_getfield (B 128 _ rfl) (B 129 _ rfl) (B 130 _ rfl)) fl_X4_28 rfl hp.k hp.f6 (n := 131) rfl ?_
    refine Vw.iload (de_iload (B 131 _ rfl) (B 132 _ rfl)) 5 rfl (n := 133) rfl ?_
    refine Vw.lald (de_laload (B 133 _ rfl)) hp.r6 (vIx_n (k := w) (by simp only [nI_A, nI_M, Int32.zero_add, Int32.add_zero] <;> rfl) (by omega)) (n := 134) rfl ?_
    refine Vw.bipush (v := 10) (de_bipush (B 134 _ rfl) (B 135 _ rfl)) rfl (n := 136) rfl ?_
    refine Vw.iload_n (de_iload_3 (B 136 _ rfl)) 3 rfl (n := 137) rfl ?_
    refine Vw.isub (de_isub (B 137 _ rfl)) (n := 138) rfl ?_
    refine Vw.i2l (de_i2l (B 138 _ rfl)) (n := 139) rfl ?_
    refine Vw.lmul (de_lmul (B 139 _ rfl)) (n := 140) rfl ?_
    refine Vw.ladd (de_ladd (B 140 _ rfl)) (n := 141) rfl ?_
    refine Vw.last (de_lastore (B 141 _ rfl)) hp.r7 (vIx_n (k := j) (by simp only [nI_A, nI_M, Int32.zero_add, Int32.add_zero] <;> rfl) (by omega)) (n := 142) rfl ?_
    refine Vw.aload_n (de_aload_0 (B 142 _ rfl)) 0 rfl (n := 143) rfl ?_
    refine Vw.getR (de_getfield (B 143 _ rfl) (B 144 _ rfl) (B 145 _ rfl)) fl_X4_32 rfl hp.k hp.f7 (n := 146) rfl ?_
    refine Vw.iload (de_iload (B 146 _ rfl) (B 147 _ rfl)) 7 rfl (n := 148) rfl ?_
    refine Vw.iconst (v := 1) (de_iconst_1 (B 148 _ rfl)) rfl (n := 149) rfl ?_
    refine Vw.iadd (de_iadd (B 149 _ rfl)) (n := 150) rfl ?_
    refine Vw.sipush (v := 200) (de_sipush (B 150 _ rfl) (B 151 _ rfl) (B 152 _ rfl)) rfl (n := 153) rfl ?_
    refine Vw.mminI (de_invokestatic (B 153 _ rfl) (B 154 _ rfl) (B 155 _ rfl)) ml_X4_177 (Nat.le_of_ble_eq_true rfl) (n := 156) rfl ?_
    rw [min_w hj]
    refine Vw.dup2 (de_dup2 (B 156 _ rfl)) rfl rfl (n := 157) rfl ?_
    refine Vw.lald (de_laload (B 157 _ rfl)) hp.r7 (vIx_n (k := wMin j) (by simp only [nI_A, nI_M, Int32.zero_add, Int32.add_zero] <;> rfl) (by omega)) (n := 158) rfl ?_
    refine Vw.aload_n (de_aload_0 (B 158 _ rfl)) 0 rfl (n := 159) rfl ?_
    refine Vw.getR (de_getfield (B 159 _ rfl) (B 160 _ rfl) (B 161 _ rfl)) fl_X4_28 rfl hp.k hp.f6 (n := 162) rfl ?_
    refine Vw.iload (de_iload (B 162 _ rfl) (B 163 _ rfl)) 5 rfl (n := 164) rfl ?_
    refine Vw.lald (de_laload (B 164 _ rfl)) hp.r6 (vIx_n (k := w) (by simp only [nI_A, nI_M, Int32.zero_add, Int32.add_zero] <;> rfl) (by omega)) (n := 165) rfl ?_
    refine Vw.iload_n (de_iload_3 (B 165 _ rfl)) 3 rfl (n := 166) rfl ?_
    refine Vw.i2l (de_i2l (B 166 _ rfl)) (n := 167) rfl ?_
    refine Vw.lmul (de_lmul (B 167 _ rfl)) (n := 168) rfl ?_
    refine Vw.ladd (de_ladd (B 168 _ rfl)) (n := 169) rfl ?_
    refine Vw.last (de_lastore (B 169 _ rfl)) hp.r7 (vIx_n (k := wMin j) (by simp only [nI_A, nI_M, Int32.zero_add, Int32.add_zero] <;> rfl) (by omega)) (n := 170) rfl ?_
    refine Vw.iinc (v := nI (w + 1)) (lv2 := [(0, _), (1, _), (2, _), (3, _), (4, _), (5, _), (6, _), (7, _)]) (de_iinc (B 170 _ rfl) (B 171 _ rfl) (B 172 _ rfl)) 5 rfl (nI_1 w) (by decide) [1, 2, 3, 4, 5, 0, 6, 7] rfl (n := 173) rfl ?_
    refine Vw.goto_ (n := 36) (de_goto_ (B 173 _ rfl) (B 174 _ rfl) (B 175 _ rfl)) rfl ?_
    refine Vw.lvs (lv2 := [(0, _), (1, _), (2, _), (3, _), (4, _), (5, _)]) [0, 1, 2, 3, 4, 5] rfl ?_
    first
    | exact ih z_41 (by omega) J M fJ gJ fM dM (fun v hv => by rw [sprC_0 (Or.inr ((lg_cmp_eq _ _).mp c_53))]; exact tM v hv)
    | (have f3p : FP s I2 I3 := f3.fp (Or.inr (Or.inl rfl))
       have d3 : ∀ v, v ≤ 200 → M3 (s + 33 + 5) v = D v := fun v hv => (m3 _ _ (by omega) (by omega)).trans (dM v hv)
       have t3 : ∀ v, v ≤ 200 → M3 (s + 33 + 6) v = sprC W (nI q) (K 121 + nI k) (walkP W (nI q) (K 121) (perP K q) k) (K 140) D w v := fun v hv => (m3 _ _ (by omega) (by omega)).trans (tM v hv)
       refine ih z_41 (by omega) I3 _ ((fJ.trans f2p).trans f3p) (fun b g1 g2 => ((f3 b (by omega)).trans (f2 b (by omega))).trans (gJ b g1 g2)) (fM.trans (m3.lc.trans (fun b i y1 y2 y3 y4 => by rw [up2_a (by omega), up2_a (by omega)]))) (fun v hv => by rw [up2_a (by omega), up2_a (by omega)]; exact d3 v hv) (fun v hv => ?_)
       rw [sprC, if_neg (fun z => z.elim (fun y => absurd y (by omega)) (fun y => c_53 ((lg_cmp_eq _ _).mpr y))), eto]
       exact sp_row (by omega) t3 hj hwm (d3 w (by omega)) v hv)
  refine Vw.aload_n (de_aload_0 (B 0 _ rfl)) 0 rfl (n := 1) rfl ?_
  refine Vw.getR (de_getfield (B 1 _ rfl) (B 2 _ rfl) (B 3 _ rfl)) fl_X4_49 rfl hp.k hp.f0 (n := 4) rfl ?_
  refine Vw.getI (de_getfield (B 4 _ rfl) (B 5 _ rfl) (B 6 _ rfl)) fl_X4_172 rfl hp.p0.k (n := 7) rfl ?_
  rw [hF]
  refine Vw.istore_n (lv2 := [(0, _), (1, _), (2, _), (3, _)]) (de_istore_3 (B 7 _ rfl)) rfl (by decide) [1, 2, 3, 0] rfl (n := 8) rfl ?_
  refine Vw.aload_n (de_aload_0 (B 8 _ rfl)) 0 rfl (n := 9) rfl ?_
  refine Vw.getR (de_getfield (B 9 _ rfl) (B 10 _ rfl) (B 11 _ rfl)) fl_X4_49 rfl hp.k hp.f0 (n := 12) rfl ?_
  refine Vw.getR (de_getfield (B 12 _ rfl) (B 13 _ rfl) (B 14 _ rfl)) fl_X4_57 rfl hp.p0.k hp.p0.f0 (n := 15) rfl ?_
  refine Vw.getR (de_getfield (B 15 _ rfl) (B 16 _ rfl) (B 17 _ rfl)) fl_X4_62 rfl hp.p0.p0.k hp.p0.p0.f0 (n := 18) rfl ?_
  refine Vw.iload_n (de_iload_1 (B 18 _ rfl)) 1 rfl (n := 19) rfl ?_
  refine Vw.aald3 (b := 0) (de_aaload (B 19 _ rfl)) hp.p0.p0.r0 (vIx_n (k := q) rfl (by omega)) (hT.pr (show q < 8 by omega)) (n := 20) rfl ?_
  refine Vw.getI (de_getfield (B 20 _ rfl) (B 21 _ rfl) (B 22 _ rfl)) fl_X4_97 rfl (hT.pk (show q < 8 by omega)) (n := 23) rfl ?_
  rw [hK.2.2.2.1 q 3 hq (by decide)]
  refine Vw.istore (lv2 := [(0, _), (1, _), (2, _), (3, _), (4, _)]) (de_istore (B 23 _ rfl) (B 24 _ rfl)) (by decide) [1, 2, 3, 4, 0] rfl (n := 25) rfl ?_
  refine Vw.aload_n (de_aload_0 (B 25 _ rfl)) 0 rfl (n := 26) rfl ?_
  refine Vw.getR (de_getfield (B 26 _ rfl) (B 27 _ rfl) (B 28 _ rfl)) fl_X4_32 rfl hp.k hp.f7 (n := 29) rfl ?_
  refine Vw.lconst (v := 0) (de_lconst_0 (B 29 _ rfl)) rfl (n := 30) rfl ?_
  refine Vw.isv2 (mi' := mJ7_fill_d0a16) (de_invokestatic (B 30 _ rfl) (B 31 _ rfl) (B 32 _ rfl)) ml_X4_153 ms_J7_fill_d0a16 (Nat.le_of_ble_eq_true rfl) (n := 33) rfl (c_J7_fill_d0a16 hp.r7 (by decide) (fun M2 f2 z2 => ?_))
  refine Vw.iconst (v := 5) (de_iconst_5 (B 33 _ rfl)) rfl (n := 34) rfl ?_
  refine Vw.istore (lv2 := [(0, _), (1, _), (2, _), (3, _), (4, _), (5, _)]) (de_istore (B 34 _ rfl) (B 35 _ rfl)) (by decide) [1, 2, 3, 4, 5, 0] rfl (n := 36) rfl ?_
  exact loop 5 (by decide) (Nat.le_refl _) I M2 FP.rfl (fun _ _ _ => rfl) (fun b i y1 y2 y3 y4 => congrFun (f2 b y4) i) (fun v hv => by rw [f2 _ (by omega)]; exact hD v hv) (fun v hv => by rw [sprC_5]; exact z2 v (by omega))
def chD (W : tW) (K : Nat → Int32) (q : Nat) : Nat → Nat → Int64
  | 0 => fun w => if w = (zWithin (K (4 * q + 2)) 0 200).toNatClampNeg then 1 else 0
  | k + 1 => sprC W (nI q) (K 121 + nI k) (walkP W (nI q) (K 121) (perP K q) k) (K 140) (chD W K q k) 201
def mul10 (P : Int64) : Nat → Int64
  | 0 => P
  | j + 1 => mul10 P j * 10
theorem oddS_z {D : Nat → Int64} {x : Int32} : ∀ {w : Nat}, (∀ v, v < w → nI v < x) → oddS D x w = 0
  | 0, _ => rfl
  | w + 1, h => by rw [oddS, oddS_z (fun v hv => h v (by omega)), if_pos (h w (Nat.lt_succ_self w))]; rfl
theorem within0_ex (v : Int32) : ∃ j, j ≤ 200 ∧ zWithin v 0 200 = nI j := by
  unfold zWithin
  by_cases h1 : (0 : Int32) ≤ v
  · by_cases h2 : v ≤ 200
    · rw [if_pos h1, if_pos h2]
      rw [i32_le] at h1 h2
      have e5 : (0 : Int32).toInt = 0 := rfl
      have e2 : (200 : Int32).toInt = 200 := rfl
      obtain ⟨j, h3, h4⟩ := nI_ex (x := v) (n := 201) (by omega) (by omega)
      exact ⟨j, by omega, h4⟩
    · rw [if_pos h1, if_neg h2]; exact ⟨200, by decide, rfl⟩
  · rw [if_neg h1]; exact ⟨0, by decide, rfl⟩
theorem c_X4_chanceOf {d : Nat} {S : vS} {I : vI} {L : vL} {Q : Int64 → vS → vI → vL → Prop} {s lb np nc : Nat} {K : Nat → Int32} {W : tW} {q n : Nat} {x : Int32} (hp : PlanS S (s + 33) s (s + 28)) (hK : TR I (s + 1) K np nc) (hN : TN K np nc) (hW : WC S I s lb W) (hlb : s + 66 ≤ lb) (hq : q < np) (hn : n ≤ 12) (hF : I s 4 = K 140) (h : ∀ I2 M, FP s I I2 → LC s L M → Q (mul10 (oddS (chD W K q n) x 201) (12 - n)) S I2 M) : Vc mX4_chanceOf (d + 4) 0 0 [.ref (s + 33), .int (nI q), .int x, .int (nI n)] S I L (VlQ Q) := by
  refine Vc.of rfl (Nat.le_of_ble_eq_true rfl) ?_
  have B := bs_X4_chanceOf
  show Vw mX4_chanceOf (d + 4) 0 0 0 0 (VlQ Q) 0 [(0, .ref (s + 33)), (1, .int (nI q)), (2, .int x), (3, .int (nI n))] [] S I L
  have h8 := hN.1
  have h10 := hN.2.1
  have hT := hp.p0.p0
  have hR := hp.p1
  have tens : ∀ k, k ≤ 12 → n ≤ k → ∀ J M, FP s I J → LC s L M → Vw mX4_chanceOf (d + 4) 0 0 0 0 (VlQ Q) 94 [(0, .ref (s + 33)), (1, .int (nI q)), (2, .int x), (3, .int (nI n)), (4, .long (mul10 (oddS (chD W K q n) x 201) (k - n))), (6, .int (nI k))] [] S J M := by
    refine loop_up (fun k hk ih => ?_)
    intro hnk J M fJ fM
    refine Vw.iload (de_iload (B 94 _ rfl) (B 95 _ rfl)) 5 rfl (n := 96) rfl ?_
    refine Vw.bipush (v := 12) (de_bipush (B 96 _ rfl) (B 97 _ rfl)) rfl (n := 98) rfl ?_
    refine Vw.icmp_ge (tgt := 115) (n := 101) (de_icmp_ge (B 98 _ rfl) (B 99 _ rfl) (B 100 _ rfl)) rfl rfl (fun c_98 => ?_) (fun c_98 => ?_)
    · have z_98 : 12 ≤ k := ((nI_leI (a := 12) (b := k) (by omega) (by omega)).mp c_98)
      obtain rfl : k = 12 := by omega
      refine Vw.lload (de_lload (B 115 _ rfl) (B 116 _ rfl)) 4 rfl (n := 117) rfl ?_
      exact Vw.lret (de_lreturn (B 117 _ rfl)) rfl ⟨_, rfl, (h J M fJ fM)⟩
    have z_98 : k < 12 := by rcases Nat.lt_or_ge k 12 with z | z; exact z; exact absurd ((nI_leI (a := 12) (b := k) (by omega) (by omega)).mpr z) c_98
    refine Vw.lload (de_lload (B 101 _ rfl) (B 102 _ rfl)) 4 rfl (n := 103) rfl ?_
    refine Vw.ldc2 (de_ldc2_w (B 103 _ rfl) (B 104 _ rfl) (B 105 _ rfl)) kc_X4_170 (n := 106) rfl ?_
    refine Vw.lmul (de_lmul (B 106 _ rfl)) (n := 107) rfl ?_
    refine Vw.lstore (lv2 := [(0, _), (1, _), (2, _), (3, _), (4, _), (6, _)]) (de_lstore (B 107 _ rfl) (B 108 _ rfl)) (by decide) [1, 2, 3, 4, 0, 5] rfl (n := 109) rfl ?_
    refine Vw.iinc (v := nI (k + 1)) (lv2 := [(0, _), (1, _), (2, _), (3, _), (4, _), (6, _)]) (de_iinc (B 109 _ rfl) (B 110 _ rfl) (B 111 _ rfl)) 5 rfl (nI_1 k) (by decide) [1, 2, 3, 4, 5, 0] rfl (n := 112) rfl ?_
    refine Vw.goto_ (n := 94) (de_goto_ (B 112 _ rfl) (B 113 _ rfl) (B 114 _ rfl)) rfl ?_
    have z := ih z_98 (by omega) J M fJ fM
    rw [show k + 1 - n = k - n + 1 by omega, mul10] at z
    exact z
  have fin : ∀ J M b, FP s I J → LC s L M → Vw mX4_chanceOf (d + 4) 0 0 0 0 (VlQ Q) 91 [(0, .ref (s + 33)), (1, .int (nI q)), (2, .int x), (3, .int (nI n)), (4, .long (oddS (chD W K q n) x 201)), (6, .int b)] [] S J M := by
    intro J M b fJ fM
    refine Vw.iload_n (de_iload_3 (B 91 _ rfl)) 3 rfl (n := 92) rfl ?_
    refine Vw.istore (lv2 := [(0, _), (1, _), (2, _), (3, _), (4, _), (6, _)]) (de_istore (B 92 _ rfl) (B 93 _ rfl)) (by decide) [1, 2, 3, 4, 5, 0] rfl (n := 94) rfl ?_
    have z := tens n hn (Nat.le_refl _) J M fJ fM
    rw [show n - n = 0 by omega, mul10] at z
    exact z
  have sums : ∀ w, w ≤ 201 → ∀ J M, FP s I J → LC s L M → (∀ v, v < w → v < 201) → (∀ i, nI i < x → i < 201 → i < w) → (∀ v, v ≤ 200 → M (s + 38) v = (chD W K q n) v) → Vw mX4_chanceOf (d + 4) 0 0 0 0 (VlQ Q) 65 [(0, .ref (s + 33)), (1, .int (nI q)), (2, .int x), (3, .int (nI n)), (4, .long (oddS (chD W K q n) x w)), (6, .int (nI w))] [] S J M := by
    refine loop_up (fun w hw ih => ?_)
    intro J M fJ fM _ hx dM
    refine Vw.iload (de_iload (B 65 _ rfl) (B 66 _ rfl)) 5 rfl (n := 67) rfl ?_
    refine Vw.sipush (v := 200) (de_sipush (B 67 _ rfl) (B 68 _ rfl) (B 69 _ rfl)) rfl (n := 70) rfl ?_
    refine Vw.icmp_gt (tgt := 91) (n := 73) (de_icmp_gt (B 70 _ rfl) (B 71 _ rfl) (B 72 _ rfl)) rfl rfl (fun c_70 => ?_) (fun c_70 => ?_)
    · have z_70 : w = 201 := by rcases Nat.lt_or_ge w 201 with z | z; exact absurd ((nI_leI (a := w) (b := 200) (by omega) (by omega)).mpr (by omega)) (Int32.not_le.mpr c_70); omega
      subst z_70
      exact fin J M _ fJ fM
    have z_70 : w < 201 := by rcases Nat.lt_or_ge w 201 with z | z; exact z; exact absurd (Int32.not_le.mp (fun q => absurd ((nI_leI (a := w) (b := 200) (by omega) (by omega)).mp q) (by omega))) c_70
    refine Vw.lload (de_lload (B 73 _ rfl) (B 74 _ rfl)) 4 rfl (n := 75) rfl ?_
    refine Vw.aload_n (de_aload_0 (B 75 _ rfl)) 0 rfl (n := 76) rfl ?_
    refine Vw.getR (de_getfield (B 76 _ rfl) (B 77 _ rfl) (B 78 _ rfl)) fl_X4_28 rfl hp.k hp.f6 (n := 79) rfl ?_
    refine Vw.iload (de_iload (B 79 _ rfl) (B 80 _ rfl)) 5 rfl (n := 81) rfl ?_
    refine Vw.lald (de_laload (B 81 _ rfl)) hp.r6 (vIx_n (k := w) (by simp only [nI_A, nI_M, Int32.zero_add, Int32.add_zero] <;> rfl) (by omega)) (n := 82) rfl ?_
    rw [show M (s + 33 + 5) w = (chD W K q n) w from dM w (by omega)]
    refine Vw.ladd (de_ladd (B 82 _ rfl)) (n := 83) rfl ?_
    refine Vw.lstore (lv2 := [(0, _), (1, _), (2, _), (3, _), (4, _), (6, _)]) (de_lstore (B 83 _ rfl) (B 84 _ rfl)) (by decide) [1, 2, 3, 4, 0, 5] rfl (n := 85) rfl ?_
    refine Vw.iinc (v := nI (w + 1)) (lv2 := [(0, _), (1, _), (2, _), (3, _), (4, _), (6, _)]) (de_iinc (B 85 _ rfl) (B 86 _ rfl) (B 87 _ rfl)) 5 rfl (nI_1 w) (by decide) [1, 2, 3, 4, 5, 0] rfl (n := 88) rfl ?_
    refine Vw.goto_ (n := 65) (de_goto_ (B 88 _ rfl) (B 89 _ rfl) (B 90 _ rfl)) rfl ?_
    have z := ih z_70 J M fJ fM (fun v hv => by omega) (fun i h1 h2 => Nat.lt_succ_of_lt (hx i h1 h2)) dM
    rw [oddS, if_neg (fun z => absurd (hx w z z_70) (Nat.lt_irrefl _))] at z
    exact z
  have far : ∀ J M, FP s I J → LC s L M → 200 < x → Vw mX4_chanceOf (d + 4) 0 0 0 0 (VlQ Q) 65 [(0, .ref (s + 33)), (1, .int (nI q)), (2, .int x), (3, .int (nI n)), (4, .long (0 : Int64)), (6, .int x)] [] S J M := by
    intro J M fJ fM hx
    rw [show (0 : Int64) = oddS (chD W K q n) x 201 from (oddS_z (fun v hv => Int32.lt_of_le_of_lt ((nI_leI (a := v) (b := 200) (by omega) (by omega)).mpr (by omega)) hx)).symm]
    refine Vw.iload (de_iload (B 65 _ rfl) (B 66 _ rfl)) 5 rfl (n := 67) rfl ?_
    refine Vw.sipush (v := 200) (de_sipush (B 67 _ rfl) (B 68 _ rfl) (B 69 _ rfl)) rfl (n := 70) rfl ?_
    refine Vw.icmp_gt (tgt := 91) (n := 73) (de_icmp_gt (B 70 _ rfl) (B 71 _ rfl) (B 72 _ rfl)) rfl rfl (fun c_70 => ?_) (fun c_70 => ?_)
    · exact fin J M _ fJ fM
    exact absurd hx c_70
  have go : ∀ k, k ≤ n → ∀ J M, FP s I J → LC s L M → PW J s (walkP W (nI q) (K 121) (perP K q)) n → (∀ v, v ≤ 200 → M (s + 38) v = chD W K q k v) → Vw mX4_chanceOf (d + 4) 0 0 0 0 (VlQ Q) 36 [(0, .ref (s + 33)), (1, .int (nI q)), (2, .int x), (3, .int (nI n)), (4, .int (nI k))] [] S J M := by
    refine loop_up (fun k hk ih => ?_)
    intro J M fJ fM pJ dM
    refine Vw.iload (de_iload (B 36 _ rfl) (B 37 _ rfl)) 4 rfl (n := 38) rfl ?_
    refine Vw.iload_n (de_iload_3 (B 38 _ rfl)) 3 rfl (n := 39) rfl ?_
    refine Vw.icmp_ge (tgt := 55) (n := 42) (de_icmp_ge (B 39 _ rfl) (B 40 _ rfl) (B 41 _ rfl)) rfl rfl (fun c_39 => ?_) (fun c_39 => ?_)
    · have z_39 : n ≤ k := ((nI_leI (a := n) (b := k) (by omega) (by omega)).mp c_39)
      obtain rfl : k = n := by omega
      refine Vw.lconst (v := 0) (de_lconst_0 (B 55 _ rfl)) rfl (n := 56) rfl ?_
      refine Vw.lstore (lv2 := [(0, _), (1, _), (2, _), (3, _), (4, _)]) (de_lstore (B 56 _ rfl) (B 57 _ rfl)) (by decide) [1, 2, 3, 4, 0] rfl (n := 58) rfl ?_
      refine Vw.iload_n (de_iload_2 (B 58 _ rfl)) 2 rfl (n := 59) rfl ?_
      refine Vw.iconst (v := 0) (de_iconst_0 (B 59 _ rfl)) rfl (n := 60) rfl ?_
      refine Vw.mmaxI (de_invokestatic (B 60 _ rfl) (B 61 _ rfl) (B 62 _ rfl)) ml_X4_165 (Nat.le_of_ble_eq_true rfl) (n := 63) rfl ?_
      refine Vw.istore (lv2 := [(0, _), (1, _), (2, _), (3, _), (4, _), (6, _)]) (de_istore (B 63 _ rfl) (B 64 _ rfl)) (by decide) [1, 2, 3, 4, 5, 0] rfl (n := 65) rfl ?_
      by_cases hx : 200 < x
      · have e : zMax 0 x = x := by unfold zMax; rw [if_pos (Int32.le_of_lt (Int32.lt_of_le_of_lt (by decide) hx))]
        rw [e]
        exact far J M fJ fM hx
      · have hx2 : x ≤ 200 := Int32.not_lt.mp hx
        by_cases h0 : (0 : Int32) ≤ x
        · have e : zMax 0 x = x := by unfold zMax; rw [if_pos h0]
          rw [e]
          rw [i32_le] at h0 hx2
          have e5 : (0 : Int32).toInt = 0 := rfl
          have e2 : (200 : Int32).toInt = 200 := rfl
          obtain ⟨w0, h3, h4⟩ := nI_ex (x := x) (n := 201) (by omega) (by omega)
          have z := sums w0 (by omega) J M fJ fM (fun v hv => by omega) (fun i h1 h2 => by rw [h4] at h1; exact Nat.lt_of_not_le (fun y => absurd ((nI_leI (a := w0) (b := i) (by omega) (by omega)).mpr y) (Int32.not_le.mpr h1))) dM
          rw [oddS_z (fun v hv => by rw [h4]; exact Int32.not_le.mp (fun y => absurd ((nI_leI (a := w0) (b := v) (by omega) (by omega)).mp y) (by omega))), ← h4] at z
          exact z
        · have e : zMax 0 x = 0 := by unfold zMax; rw [if_neg h0]
          rw [e]
          exact sums 0 (Nat.zero_le _) J M fJ fM (fun v hv => absurd hv (Nat.not_lt_zero _)) (fun i h1 h2 => absurd (Int32.le_of_lt (Int32.lt_of_le_of_lt ((nI_leI (a := 0) (b := i) (by omega) (by omega)).mpr (Nat.zero_le _)) h1)) h0) dM
    have z_39 : k < n := by rcases Nat.lt_or_ge k n with z | z; exact z; exact absurd ((nI_leI (a := n) (b := k) (by omega) (by omega)).mpr z) c_39
    refine Vw.aload_n (de_aload_0 (B 42 _ rfl)) 0 rfl (n := 43) rfl ?_
    refine Vw.iload_n (de_iload_1 (B 43 _ rfl)) 1 rfl (n := 44) rfl ?_
    refine Vw.iload (de_iload (B 44 _ rfl) (B 45 _ rfl)) 4 rfl (n := 46) rfl ?_
    refine Vw.ivv2 (mi' := mX4_spread) (de_invokevirtual (B 46 _ rfl) (B 47 _ rfl) (B 48 _ rfl)) ml_X4_162 mv_X4_spread hp.k (Nat.le_of_ble_eq_true rfl) (n := 49) rfl (c_X4_spread hp (fJ.tr hK h8 h10) hN (fJ.wc hW hlb) hlb hq pJ (show k ≤ n by omega) (by omega) (by rw [fJ s (by omega) (by omega) (by omega)]; exact hF) dM (fun I3 M3 f3 g3 m3 d3 => ?_))
    refine Vw.iinc (v := nI (k + 1)) (lv2 := [(0, _), (1, _), (2, _), (3, _), (4, _)]) (de_iinc (B 49 _ rfl) (B 50 _ rfl) (B 51 _ rfl)) 4 rfl (nI_1 k) (by decide) [1, 2, 3, 4, 0] rfl (n := 52) rfl ?_
    refine Vw.goto_ (n := 36) (de_goto_ (B 52 _ rfl) (B 53 _ rfl) (B 54 _ rfl)) rfl ?_
    exact ih z_39 I3 M3 (fJ.trans f3) (fM.trans m3) (pJ.of g3) d3
  refine Vw.aload_n (de_aload_0 (B 0 _ rfl)) 0 rfl (n := 1) rfl ?_
  refine Vw.iload_n (de_iload_1 (B 1 _ rfl)) 1 rfl (n := 2) rfl ?_
  refine Vw.iload_n (de_iload_3 (B 2 _ rfl)) 3 rfl (n := 3) rfl ?_
  refine Vw.ivv2 (mi' := mX4_walk) (de_invokevirtual (B 3 _ rfl) (B 4 _ rfl) (B 5 _ rfl)) ml_X4_115 mv_X4_walk hp.k (Nat.le_of_ble_eq_true rfl) (n := 6) rfl (c_X4_walk hp hK hN hW hlb hq (show n ≤ 80 by omega) (fun I2 M2 f2 m2 p2 o2 => ?_))
  have e37 : I2 (s + 33 + 4) 0 = K (4 * q + 2) := (p2 0 (Nat.zero_le _)).2.2
  refine Vw.aload_n (de_aload_0 (B 6 _ rfl)) 0 rfl (n := 7) rfl ?_
  refine Vw.getR (de_getfield (B 7 _ rfl) (B 8 _ rfl) (B 9 _ rfl)) fl_X4_28 rfl hp.k hp.f6 (n := 10) rfl ?_
  refine Vw.lconst (v := 0) (de_lconst_0 (B 10 _ rfl)) rfl (n := 11) rfl ?_
  refine Vw.isv2 (mi' := mJ7_fill_d0a16) (de_invokestatic (B 11 _ rfl) (B 12 _ rfl) (B 13 _ rfl)) ml_X4_153 ms_J7_fill_d0a16 (Nat.le_of_ble_eq_true rfl) (n := 14) rfl (c_J7_fill_d0a16 hp.r6 (by decide) (fun M3 f3 z3 => ?_))
  refine Vw.aload_n (de_aload_0 (B 14 _ rfl)) 0 rfl (n := 15) rfl ?_
  refine Vw.getR (de_getfield (B 15 _ rfl) (B 16 _ rfl) (B 17 _ rfl)) fl_X4_28 rfl hp.k hp.f6 (n := 18) rfl ?_
  refine Vw.aload_n (de_aload_0 (B 18 _ rfl)) 0 rfl (n := 19) rfl ?_
  refine Vw.getR (de_getfield (B 19 _ rfl) (B 20 _ rfl) (B 21 _ rfl)) fl_X4_25 rfl hp.k hp.f5 (n := 22) rfl ?_
  refine Vw.iconst (v := 0) (de_iconst_0 (B 22 _ rfl)) rfl (n := 23) rfl ?_
  refine Vw.iald (de_iaload (B 23 _ rfl)) hp.r5 (vIx_n (k := 0) rfl (by decide)) (n := 24) rfl ?_
  rw [e37]
  refine Vw.iconst (v := 0) (de_iconst_0 (B 24 _ rfl)) rfl (n := 25) rfl ?_
  refine Vw.sipush (v := 200) (de_sipush (B 25 _ rfl) (B 26 _ rfl) (B 27 _ rfl)) rfl (n := 28) rfl ?_
  refine Vw.isni3 (mi' := mX11_nearest) (de_invokestatic (B 28 _ rfl) (B 29 _ rfl) (B 30 _ rfl)) (by decide) ms_X11_nearest (Nat.le_of_ble_eq_true rfl) (n := 31) rfl (c_X11_nearest ?_)
  obtain ⟨j, hj, ej⟩ := within0_ex (K (4 * q + 2))
  rw [ej]
  refine Vw.lconst (v := 1) (de_lconst_1 (B 31 _ rfl)) rfl (n := 32) rfl ?_
  refine Vw.last (de_lastore (B 32 _ rfl)) hp.r6 (vIx_n (k := j) (by simp only [nI_A, nI_M, Int32.zero_add, Int32.add_zero] <;> rfl) (by omega)) (n := 33) rfl ?_
  refine Vw.iconst (v := 0) (de_iconst_0 (B 33 _ rfl)) rfl (n := 34) rfl ?_
  refine Vw.istore (lv2 := [(0, _), (1, _), (2, _), (3, _), (4, _)]) (de_istore (B 34 _ rfl) (B 35 _ rfl)) (by decide) [1, 2, 3, 4, 0] rfl (n := 36) rfl ?_
  refine go 0 (Nat.zero_le _) I2 _ f2 (m2.lc.trans (fun b i y1 y2 y3 y4 => by rw [up2_a (by omega), f3 b y3])) p2 (fun v hv => ?_)
  rw [chD, ej, nI_cl (by omega)]
  show up2 M3 (s + 33 + 5) j 1 (s + 33 + 5) v = if v = j then 1 else 0
  by_cases z : v = j
  · rw [if_pos z, z]; exact up2_s ..
  · rw [if_neg z, up2_k z]; exact z3 v (by omega)
