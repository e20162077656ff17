/-! undo, sew -/
theorem tells_d {law : Option (List tC)} {hd lo hi wo M : Int32} {nv : Nat → Int32} (h0 : lo.toInt ≤ hi.toInt) (hM : hi.toInt ≤ M.toInt) (h1 : lo.toInt ≤ wo.toInt) (h2 : wo.toInt ≤ M.toInt) : lo.toInt ≤ (tellsP law hd lo hi wo nv).toInt ∧ (tellsP law hd lo hi wo nv).toInt ≤ M.toInt := by
  unfold tellsP
  cases law with
  | none => exact ⟨h1, h2⟩
  | some cs =>
    have key : ∀ (cs : List tC) (v : Int64), lo.toInt ≤ v.toInt → v.toInt ≤ M.toInt → lo.toInt ≤ (cs.foldl (tStep hd lo hi nv) v).toInt ∧ (cs.foldl (tStep hd lo hi nv) v).toInt ≤ M.toInt := by
      intro cs
      induction cs with
      | nil => exact fun v a b => ⟨a, b⟩
      | cons c cs ih =>
        intro v a b
        rw [List.foldl_cons]
        have e : lo.toInt ≤ (tStep hd lo hi nv v c).toInt ∧ (tStep hd lo hi nv v c).toInt ≤ M.toInt := by
          unfold tStep
          split
          · split
            · rename_i s _
              have := tClamp_b (lo := lo) (hi := hi) (s := s) (by omega)
              exact ⟨this.1, by omega⟩
            · exact ⟨a, b⟩
          · exact ⟨a, b⟩
        exact ih _ e.1 e.2
    have k := key cs wo.toInt64 (by rw [Int32.toInt_toInt64]; exact h1) (by rw [Int32.toInt_toInt64]; exact h2)
    simp only
    have r1 := i32_rng lo
    have r2 := i32_rng M
    rw [Int64.toInt_toInt32, bm32 (by omega) (by omega)]
    exact k
theorem zSize_m {s w : Int32} (h : ¬ zSize s w = 0) : ∃ a b, 20 ≤ a ∧ a ≤ 300 ∧ 5 ≤ b ∧ b ≤ 250 ∧ s = nI a ∧ w = nI b := by
  unfold zSize at h
  have z1 : ¬ zLie s 20 300 = 0 := fun q => by rw [if_pos q] at h; exact h rfl
  rw [if_neg z1] at h
  have z2 : ¬ zLie w 5 250 = 0 := fun q => by rw [if_pos q] at h; exact h rfl
  obtain ⟨a, a1, a2, a3⟩ := lie_m (a := 20) (N := 300) (by decide) (by decide) z1
  obtain ⟨b, b1, b2, b3⟩ := lie_m (a := 5) (N := 250) (by decide) (by decide) z2
  exact ⟨a, b, a1, a2, b1, b2, a3, b3⟩
theorem clothP_b {W : tW} {p tl s w now : Int32} {P : tP} (h : ¬ zSize s w = 0) : ∃ c, clothP W p tl s w now P = nI c ∧ c ≤ 1500 := by
  obtain ⟨a, b, a1, a2, b1, b2, rfl, rfl⟩ := zSize_m h
  have m : a * b ≤ 300 * 250 := Nat.mul_le_mul a2 b2
  have e : (nI a : Int32) * nI b / 50 = nI (a * b / 50) := by rw [show nI a * nI b = nI (a * b) from i32_eq (by rw [i32_mul (by rw [nI_ti (by omega), nI_ti (by omega)]; exact Int.le_trans (by decide) (Int.natCast_nonneg (a * b))) (by rw [nI_ti (by omega), nI_ti (by omega)]; exact Int.lt_of_le_of_lt (Int.ofNat_le.mpr m) (by decide)), nI_ti (by omega), nI_ti (by omega), nI_ti (by omega)]; rfl)]; exact nI_div (a := a * b) (b := 50) (by omega) (by decide)
  have k := tells_d (law := W.1) (hd := 3) (lo := 0) (hi := 999) (wo := nI a * nI b / 50) (M := 1500) (nv := nvA p P.1 P.2.2.2 (nI a) (nI b) tl now W.2) (by decide) (by decide) (by rw [e, nI_ti (by omega)]; show (0 : Int) ≤ _; omega) (by rw [e, nI_ti (by omega)]; show _ ≤ (1500 : Int); omega)
  obtain ⟨c, c1, c2⟩ := nI_ex (x := clothP W p tl (nI a) (nI b) now P) (n := 1501) k.1 (by have := k.2; show _ < ((1501 : Nat) : Int); exact Int.lt_of_le_of_lt this (by decide))
  exact ⟨c, c2, by omega⟩
theorem sewK_o {K : Nat → Int32} {c a b q y : Nat} {sz wd cl : Int32} (h1 : y ≠ 113 + 2 * a) (h2 : ¬ (32 + 8 * c ≤ y ∧ y ≤ 32 + 8 * c + 7)) (h3 : y ≠ 112) : sewK K c a b q sz wd cl y = K y := by
  unfold sewK
  rw [upK_n h3, upK_n (by omega), upK_n (by omega), upK_n (by omega), upK_n (by omega), upK_n (by omega), upK_n (by omega), upK_n (by omega), upK_n (by omega), upK_n h1]
theorem sewK_c {K : Nat → Int32} {c a b q : Nat} {sz wd cl : Int32} (hc : c < 10) : sewK K c a b q sz wd cl (32 + 8 * c) = sz ∧ sewK K c a b q sz wd cl (32 + 8 * c + 1) = wd ∧ sewK K c a b q sz wd cl (32 + 8 * c + 2) = nI a ∧ sewK K c a b q sz wd cl (32 + 8 * c + 3) = nI b ∧ sewK K c a b q sz wd cl (32 + 8 * c + 4) = nI q ∧ sewK K c a b q sz wd cl (32 + 8 * c + 5) = 2 ∧ sewK K c a b q sz wd cl (32 + 8 * c + 6) = 3 ∧ sewK K c a b q sz wd cl (32 + 8 * c + 7) = 0 := by
  unfold sewK
  refine ⟨?_, ?_, ?_, ?_, ?_, ?_, ?_, ?_⟩
  · rw [upK_n (by omega), upK_n (by omega), upK_n (by omega), upK_n (by omega), upK_n (by omega), upK_n (by omega), upK_n (by omega), upK_n (by omega), upK_s]
  · rw [upK_n (by omega), upK_n (by omega), upK_n (by omega), upK_n (by omega), upK_n (by omega), upK_n (by omega), upK_n (by omega), upK_s]
  · rw [upK_n (by omega), upK_n (by omega), upK_n (by omega), upK_n (by omega), upK_n (by omega), upK_n (by omega), upK_s]
  · rw [upK_n (by omega), upK_n (by omega), upK_n (by omega), upK_n (by omega), upK_n (by omega), upK_s]
  · rw [upK_n (by omega), upK_n (by omega), upK_n (by omega), upK_n (by omega), upK_s]
  · rw [upK_n (by omega), upK_n (by omega), upK_n (by omega), upK_s]
  · rw [upK_n (by omega), upK_n (by omega), upK_s]
  · rw [upK_n (by omega), upK_s]
theorem sewK_112 {K : Nat → Int32} {c a b q : Nat} {sz wd cl : Int32} : sewK K c a b q sz wd cl 112 = nI (c + 1) := by unfold sewK; rw [upK_s]
theorem sewK_cl {K : Nat → Int32} {c a b q : Nat} {sz wd cl : Int32} (hc : c < 10) : sewK K c a b q sz wd cl (113 + 2 * a) = K (113 + 2 * a) - cl := by
  unfold sewK
  rw [upK_n (by omega), upK_n (by omega), upK_n (by omega), upK_n (by omega), upK_n (by omega), upK_n (by omega), upK_n (by omega), upK_n (by omega), upK_n (by omega), upK_s]
theorem TN.sew {K : Nat → Int32} {np nc a b q : Nat} {sz wd cl : Int32} (h : TN K np nc) (hc : nc < 10) (ha : a < 4) (hb : b < 4) (hq : q < np) : TN (sewK K nc a b q sz wd cl) np (nc + 1) := by
  obtain ⟨t1, t2, t3, t4, t5⟩ := h
  obtain ⟨-, -, s2, s3, s4, -⟩ := sewK_c (K := K) (a := a) (b := b) (q := q) (sz := sz) (wd := wd) (cl := cl) hc
  refine ⟨t1, hc, by rw [sewK_o (by omega) (by omega) (by omega)]; exact t3, sewK_112, fun c hc2 => ?_⟩
  by_cases z : c = nc
  · subst z
    exact ⟨⟨a, ha, s2⟩, ⟨b, hb, s3⟩, Or.inr ⟨q, hq, s4⟩⟩
  · obtain ⟨c1, c3, c4⟩ := t5 c (by omega)
    exact ⟨by rw [sewK_o (by omega) (by omega) (by omega)]; exact c1, by rw [sewK_o (by omega) (by omega) (by omega)]; exact c3, by rw [sewK_o (by omega) (by omega) (by omega)]; exact c4⟩
theorem KB.sew {K : Nat → Int32} {np nc a b q c : Nat} {sz wd : Int32} (h : KB K np nc) (h8 : np ≤ 8) (hc : nc < 10) (ha : a < 4) (hz : ¬ zSize sz wd = 0) (hcl : c ≤ 1500) (hle : nI c ≤ K (113 + 2 * a)) : KB (sewK K nc a b q sz wd (nI c)) np (nc + 1) := by
  obtain ⟨b1, b2, b3, b4⟩ := h
  obtain ⟨s0, s1, -, -, -, s5, s6, -⟩ := sewK_c (K := K) (a := a) (b := b) (q := q) (sz := sz) (wd := wd) (cl := nI c) hc
  obtain ⟨za, zb, a1, a2, a3, a4, rfl, rfl⟩ := zSize_m hz
  refine ⟨fun p hp => ?_, fun t ht => ?_, fun c2 hc2 => ?_, ?_⟩
  · have ep : perP (sewK K nc a b q (nI za) (nI zb) (nI c)) p = perP K p := by unfold perP; rw [sewK_o (by omega) (by omega) (by omega), sewK_o (by omega) (by omega) (by omega), sewK_o (by omega) (by omega) (by omega), sewK_o (by omega) (by omega) (by omega)]
    rw [ep]; exact b1 p hp
  · by_cases z : t = a
    · subst z
      obtain ⟨k, k1, k2⟩ := b2 t ht
      rw [sewK_cl hc]
      rw [k2, i32_le, nI_ti (by omega), nI_ti (by omega)] at hle
      exact ⟨k - c, by omega, by rw [k2]; exact nI_sub (by omega) (by omega)⟩
    · rw [sewK_o (by omega) (by omega) (by omega)]; exact b2 t ht
  · by_cases z : c2 = nc
    · subst z
      exact ⟨za, zb, 2, 3, s0, s1, s5, s6, by omega, by omega⟩
    · obtain ⟨a, b, hh, u, q1, q2, q3, q4, q5⟩ := b3 c2 (by omega)
      exact ⟨a, b, hh, u, by rw [sewK_o (by omega) (by omega) (by omega)]; exact q1, by rw [sewK_o (by omega) (by omega) (by omega)]; exact q2, by rw [sewK_o (by omega) (by omega) (by omega)]; exact q3, by rw [sewK_o (by omega) (by omega) (by omega)]; exact q4, q5⟩
  · unfold NB; rw [sewK_o (by omega) (by omega) (by omega)]; exact b4
theorem TR.sew {I J : vI} {t np nc a b q : Nat} {K : Nat → Int32} {sz wd cl : Int32} (h : TR I t K np nc) (h8 : np ≤ 8) (hc : nc < 10) (ha : a < 4) (e : ∀ b, t < b → b ≤ t + 22 → b ≠ t + 3 → b ≠ t + 13 + nc → J b = I b) (e4 : J t 4 = I t 4) (e5 : J t 5 = nI (nc + 1)) (e6 : J t 6 = I t 6) (e3 : ∀ k, J (t + 3) k = if k = a then K (113 + 2 * a) - cl else I (t + 3) k) (c0 : J (t + 13 + nc) 0 = sz) (c1 : J (t + 13 + nc) 1 = wd) (c2 : J (t + 13 + nc) 2 = nI a) (c3 : J (t + 13 + nc) 3 = nI b) (c4 : J (t + 13 + nc) 4 = nI q) (c5 : J (t + 13 + nc) 5 = 2) (c6 : J (t + 13 + nc) 6 = 3) (c7 : J (t + 13 + nc) 7 = 0) : TR J t (sewK K nc a b q sz wd cl) np (nc + 1) := by
  obtain ⟨t1, t2, t3, t4, t5, t6⟩ := h
  obtain ⟨s0, s1, s2, s3, s4, s5, s6, s7⟩ := sewK_c (K := K) (a := a) (b := b) (q := q) (sz := sz) (wd := wd) (cl := cl) hc
  refine ⟨e4.trans t1, e5, by rw [e6, sewK_o (by omega) (by omega) (by omega)]; exact t3, fun p k hp hk => by rw [e _ (by omega) (by omega) (by omega) (by omega), sewK_o (by omega) (by omega) (by omega)]; exact t4 p k hp hk, fun c k hc2 hk => ?_, fun j hj => ?_⟩
  · by_cases z : c = nc
    · subst z
      rcases (show k = 0 ∨ k = 1 ∨ k = 2 ∨ k = 3 ∨ k = 4 ∨ k = 5 ∨ k = 6 ∨ k = 7 by omega) with rfl | rfl | rfl | rfl | rfl | rfl | rfl | rfl
      · exact c0.trans s0.symm
      · exact c1.trans s1.symm
      · exact c2.trans s2.symm
      · exact c3.trans s3.symm
      · exact c4.trans s4.symm
      · exact c5.trans s5.symm
      · exact c6.trans s6.symm
      · exact c7.trans s7.symm
    · rw [e _ (by omega) (by omega) (by omega) (by omega), sewK_o (by omega) (by omega) (by omega)]; exact t5 c k (by omega) hk
  · rw [e (t + 4) (by omega) (by omega) (by omega) (by omega), sewK_o (y := 113 + 2 * j + 1) (by omega) (by omega) (by omega)]
    refine ⟨?_, (t6 j hj).2⟩
    rw [e3]
    by_cases z : j = a
    · rw [if_pos z, z, sewK_cl hc]
    · rw [if_neg z, sewK_o (by omega) (by omega) (by omega)]; exact (t6 j hj).1
theorem k_sew {d : Nat} {S : vS} {I : vI} {L : vL} {Q : Int32 → vS → vI → vL → Prop} {x lb np nc ns nl : Nat} {K : Nat → Int32} {l : List tH} {f sc pp sz wd : Int32} {W : tW} (hC : ClsS S x) (hs : STR S I (x + 1) lb K np nc ns nl) (hH : HC I (x + 89) l np) (hlb : x + 942 ≤ lb) (hW : WC S I (x + 1) lb W) (h1 : zLie f 0 3 = 0 ∨ zLie sc 0 3 = 0 ∨ zSize sz wd = 0 → Q (-1) S (cRef I x (-1) 1) L) (h2 : ¬ zLie f 0 3 = 0 → ¬ zLie sc 0 3 = 0 → ¬ zSize sz wd = 0 → zLie pp 0 (nI np - 1) = 0 → Q (-2) S (cRef I x (-2) 2) L) (h3 : ∀ a b q, a ≤ 3 → b ≤ 3 → q < np → f = nI a → sc = nI b → pp = nI q → ¬ zSize sz wd = 0 → ¬ canSew W K a q sz wd → ∀ I2 M, FW (x + 1) (x + 89) I I2 → TR I2 (x + 1 + 1) K np nc → HC I2 (x + 89) l np → Q (-3) S (cRef I2 x (-3) 3) M) (h4 : ∀ a b q, a ≤ 3 → b ≤ 3 → q < np → f = nI a → sc = nI b → pp = nI q → ¬ zSize sz wd = 0 → canSew W K a q sz wd → nc = 10 → ∀ I2 M, FW (x + 1) (x + 89) I I2 → TR I2 (x + 1 + 1) K np nc → HC I2 (x + 89) l np → Q (-5) S (cRef I2 x (-5) 5) M) (h : ∀ a b q, a ≤ 3 → b ≤ 3 → q < np → f = nI a → sc = nI b → pp = nI q → ¬ zSize sz wd = 0 → canSew W K a q sz wd → nc < 10 → ∀ I2 M, FW (x + 1) (x + 89) I I2 → TR I2 (x + 1 + 1) (sewK K nc a b q sz wd (clothP W (nI q) (nI a) sz wd (K 121) (perP K q))) np (nc + 1) → HC I2 (x + 89) (psh l (K, 0)) np → Q (nI nc) S (cAcc I2 x) M) : Vc mX11_sew (d + 80) 0 0 [.ref x, .int f, .int sc, .int pp, .int sz, .int wd] S I L (ViQ Q) := by
  refine Vc.of rfl (Nat.le_of_ble_eq_true rfl) ?_
  have B := bs_X11_sew
  show Vw mX11_sew (d + 80) 0 0 0 0 (ViQ Q) 0 [(0, .ref x), (1, .int f), (2, .int sc), (3, .int pp), (4, .int sz), (5, .int wd)] [] S I L
  have hT := hC.p0.p0
  have hN := hs.tn
  have h8 := hN.1
  have h10 := hN.2.1
  have hK := hs.tr
  have hold : ∃ old, old < 16 ∧ I (x + 89) 2 = nI old := by obtain ⟨_, _, old, o1, o2, _⟩ := hH; exact ⟨old, o1, o2⟩
  refine Vw.iload_n (de_iload_1 (B 0 _ rfl)) 1 rfl (n := 1) rfl ?_
  refine Vw.isi1 (mi' := mX11_isTailor) (de_invokestatic (B 1 _ rfl) (B 2 _ rfl) (B 3 _ rfl)) ml_X11_162 ms_X11_isTailor (Nat.le_of_ble_eq_true rfl) (n := 4) rfl (c_X11_isTailor ?_)
  refine Vw.if_eq (tgt := 24) (n := 7) (de_if_eq (B 4 _ rfl) (B 5 _ rfl) (B 6 _ rfl)) rfl rfl (fun c_4 => ?_) (fun c_4 => ?_)
  · refine Vw.aload_n (de_aload_0 (B 24 _ rfl)) 0 rfl (n := 25) rfl ?_
    refine Vw.iconst (v := -1) (de_iconst_m1 (B 25 _ rfl)) rfl (n := 26) rfl ?_
    refine Vw.ivi1 (mi' := mX11_refuse) (de_invokevirtual (B 26 _ rfl) (B 27 _ rfl) (B 28 _ rfl)) ml_X11_100 mv_X11_refuse hC.k (Nat.le_of_ble_eq_true rfl) (n := 29) rfl (c_X11_refuse (j := 1) hC rfl (by decide) ?_)
    exact Vw.iret (de_ireturn (B 29 _ rfl)) rfl ⟨_, rfl, (h1 (by first | exact Or.inl c_4 | exact Or.inr (Or.inl c_11) | exact Or.inr (Or.inr c_21)))⟩
  refine Vw.iload_n (de_iload_2 (B 7 _ rfl)) 2 rfl (n := 8) rfl ?_
  refine Vw.isi1 (mi' := mX11_isTailor) (de_invokestatic (B 8 _ rfl) (B 9 _ rfl) (B 10 _ rfl)) ml_X11_162 ms_X11_isTailor (Nat.le_of_ble_eq_true rfl) (n := 11) rfl (c_X11_isTailor ?_)
  refine Vw.if_eq (tgt := 24) (n := 14) (de_if_eq (B 11 _ rfl) (B 12 _ rfl) (B 13 _ rfl)) rfl rfl (fun c_11 => ?_) (fun c_11 => ?_)
  · refine Vw.aload_n (de_aload_0 (B 24 _ rfl)) 0 rfl (n := 25) rfl ?_
    refine Vw.iconst (v := -1) (de_iconst_m1 (B 25 _ rfl)) rfl (n := 26) rfl ?_
    refine Vw.ivi1 (mi' := mX11_refuse) (de_invokevirtual (B 26 _ rfl) (B 27 _ rfl) (B 28 _ rfl)) ml_X11_100 mv_X11_refuse hC.k (Nat.le_of_ble_eq_true rfl) (n := 29) rfl (c_X11_refuse (j := 1) hC rfl (by decide) ?_)
    exact Vw.iret (de_ireturn (B 29 _ rfl)) rfl ⟨_, rfl, (h1 (by first | exact Or.inl c_4 | exact Or.inr (Or.inl c_11) | exact Or.inr (Or.inr c_21)))⟩
  refine Vw.iload (de_iload (B 14 _ rfl) (B 15 _ rfl)) 4 rfl (n := 16) rfl ?_
  refine Vw.iload (de_iload (B 16 _ rfl) (B 17 _ rfl)) 5 rfl (n := 18) rfl ?_
  refine Vw.isi2 (mi' := mX11_canBeCoat) (de_invokestatic (B 18 _ rfl) (B 19 _ rfl) (B 20 _ rfl)) ml_X11_246 ms_X11_canBeCoat (Nat.le_of_ble_eq_true rfl) (n := 21) rfl (c_X11_canBeCoat ?_)
  refine Vw.if_ne (tgt := 30) (n := 24) (de_if_ne (B 21 _ rfl) (B 22 _ rfl) (B 23 _ rfl)) rfl rfl (fun c_21 => ?_) (fun c_21 => ?_)
  · refine Vw.aload_n (de_aload_0 (B 30 _ rfl)) 0 rfl (n := 31) rfl ?_
    refine Vw.getR (de_getfield (B 31 _ rfl) (B 32 _ rfl) (B 33 _ rfl)) fl_X11_12 rfl hC.k hC.f0 (n := 34) rfl ?_
    refine Vw.getR (de_getfield (B 34 _ rfl) (B 35 _ rfl) (B 36 _ rfl)) fl_X11_104 rfl hC.p0.k hC.p0.f0 (n := 37) rfl ?_
    refine Vw.astore (lv2 := [(0, _), (1, _), (2, _), (3, _), (4, _), (5, _), (6, _)]) (de_astore (B 37 _ rfl) (B 38 _ rfl)) (by decide) [1, 2, 3, 4, 5, 6, 0] rfl (n := 39) rfl ?_
    refine Vw.aload (de_aload (B 39 _ rfl) (B 40 _ rfl)) 6 rfl (n := 41) rfl ?_
    refine Vw.iload_n (de_iload_3 (B 41 _ rfl)) 3 rfl (n := 42) rfl ?_
    refine Vw.ivi1 (mi' := mX9_hasPerson) (de_invokevirtual (B 42 _ rfl) (B 43 _ rfl) (B 44 _ rfl)) ml_X11_120 mv_X9_hasPerson hC.p0.p0.k (Nat.le_of_ble_eq_true rfl) (n := 45) rfl (c_X9_hasPerson hT hK.1 (by omega) ?_)
    refine Vw.if_ne (tgt := 55) (n := 48) (de_if_ne (B 45 _ rfl) (B 46 _ rfl) (B 47 _ rfl)) rfl rfl (fun c_45 => ?_) (fun c_45 => ?_)
    · obtain ⟨a, ha, rfl⟩ := lie_n (N := 3) (by decide) c_4
      obtain ⟨b, hb, rfl⟩ := lie_n (N := 3) (by decide) c_11
      obtain ⟨q, hq, rfl⟩ := lie_ex (by omega) c_45
      refine Vw.aload_n (de_aload_0 (B 55 _ rfl)) 0 rfl (n := 56) rfl ?_
      refine Vw.getR (de_getfield (B 56 _ rfl) (B 57 _ rfl) (B 58 _ rfl)) fl_X11_30 rfl hC.k hC.f2 (n := 59) rfl ?_
      refine Vw.iload_n (de_iload_1 (B 59 _ rfl)) 1 rfl (n := 60) rfl ?_
      refine Vw.iload_n (de_iload_3 (B 60 _ rfl)) 3 rfl (n := 61) rfl ?_
      refine Vw.iload (de_iload (B 61 _ rfl) (B 62 _ rfl)) 4 rfl (n := 63) rfl ?_
      refine Vw.iload (de_iload (B 63 _ rfl) (B 64 _ rfl)) 5 rfl (n := 65) rfl ?_
      refine Vw.ivi4 (mi' := mX10_clothToSew) (de_invokevirtual (B 65 _ rfl) (B 66 _ rfl) (B 67 _ rfl)) ml_X11_266 mv_X10_clothToSew hC.p2.k (Nat.le_of_ble_eq_true rfl) (n := 68) rfl (c_X10_clothToSew (s := x + 1) hC.p2 hK hN hW (by omega) (show a < 4 by omega) hq (fun I2 M f2 _ ns => ?_) (fun I2 M f2 _ ys => ?_))
      · refine Vw.istore (lv2 := [(0, _), (1, _), (2, _), (3, _), (4, _), (5, _), (6, _), (7, _)]) (de_istore (B 68 _ rfl) (B 69 _ rfl)) (by decide) [1, 2, 3, 4, 5, 6, 7, 0] rfl (n := 70) rfl ?_
        refine Vw.iload (de_iload (B 70 _ rfl) (B 71 _ rfl)) 7 rfl (n := 72) rfl ?_
        refine Vw.iconst (v := -1) (de_iconst_m1 (B 72 _ rfl)) rfl (n := 73) rfl ?_
        refine Vw.icmp_ne (tgt := 83) (n := 76) (de_icmp_ne (B 73 _ rfl) (B 74 _ rfl) (B 75 _ rfl)) rfl rfl (fun c_73 => ?_) (fun c_73 => ?_)
        · exact absurd c_73 (by decide)
        refine Vw.aload_n (de_aload_0 (B 76 _ rfl)) 0 rfl (n := 77) rfl ?_
        refine Vw.bipush (v := -3) (de_bipush (B 77 _ rfl) (B 78 _ rfl)) rfl (n := 79) rfl ?_
        refine Vw.ivi1 (mi' := mX11_refuse) (de_invokevirtual (B 79 _ rfl) (B 80 _ rfl) (B 81 _ rfl)) ml_X11_100 mv_X11_refuse hC.k (Nat.le_of_ble_eq_true rfl) (n := 82) rfl (c_X11_refuse (j := 3) hC rfl (by decide) ?_)
        exact Vw.iret (de_ireturn (B 82 _ rfl)) rfl ⟨_, rfl, (h3 a b q ha hb hq rfl rfl rfl c_21 ns I2 M (fun b g1 g2 g3 g4 => f2 b (by omega) (by omega)) (hK.of (fun b g1 g2 => f2 b (by omega) (by omega)) h8 h10) (hH.of h8 (fun b g1 g2 => f2 b (by omega) (by omega))))⟩
      · refine Vw.istore (lv2 := [(0, _), (1, _), (2, _), (3, _), (4, _), (5, _), (6, _), (7, _)]) (de_istore (B 68 _ rfl) (B 69 _ rfl)) (by decide) [1, 2, 3, 4, 5, 6, 7, 0] rfl (n := 70) rfl ?_
        refine Vw.iload (de_iload (B 70 _ rfl) (B 71 _ rfl)) 7 rfl (n := 72) rfl ?_
        refine Vw.iconst (v := -1) (de_iconst_m1 (B 72 _ rfl)) rfl (n := 73) rfl ?_
        refine Vw.icmp_ne (tgt := 83) (n := 76) (de_icmp_ne (B 73 _ rfl) (B 74 _ rfl) (B 75 _ rfl)) rfl rfl (fun c_73 => ?_) (fun c_73 => ?_)
        · have k2 : TR I2 (x + 1 + 1) K np nc := (hK.of (fun b g1 g2 => f2 b (by omega) (by omega)) h8 h10)
          refine Vw.aload (de_aload (B 83 _ rfl) (B 84 _ rfl)) 6 rfl (n := 85) rfl ?_
          refine Vw.getI (de_getfield (B 85 _ rfl) (B 86 _ rfl) (B 87 _ rfl)) fl_X11_270 rfl hC.p0.p0.k (n := 88) rfl ?_
          rw [k2.2.1]
          refine Vw.bipush (v := 10) (de_bipush (B 88 _ rfl) (B 89 _ rfl)) rfl (n := 90) rfl ?_
          refine Vw.icmp_lt (tgt := 100) (n := 93) (de_icmp_lt (B 90 _ rfl) (B 91 _ rfl) (B 92 _ rfl)) rfl rfl (fun c_90 => ?_) (fun c_90 => ?_)
          · have nc10 : nc < 10 := by rcases Nat.lt_or_ge nc 10 with z | z; exact z; exact absurd (i32_lt.mp c_90) (by rw [nI_ti (by omega)]; show ¬ (nc : Int) < 10; omega)
            refine Vw.aload_n (de_aload_0 (B 100 _ rfl)) 0 rfl (n := 101) rfl ?_
            refine Vw.getR (de_getfield (B 101 _ rfl) (B 102 _ rfl) (B 103 _ rfl)) fl_X11_60 rfl hC.k hC.f6 (n := 104) rfl ?_
            refine Vw.iconst (v := 0) (de_iconst_0 (B 104 _ rfl)) rfl (n := 105) rfl ?_
            refine Vw.aload (de_aload (B 105 _ rfl) (B 106 _ rfl)) 6 rfl (n := 107) rfl ?_
            refine Vw.ivv2 (mi' := mX2_push) (de_invokevirtual (B 107 _ rfl) (B 108 _ rfl) (B 109 _ rfl)) ml_X11_273 mv_X2_push hC.p6.k (Nat.le_of_ble_eq_true rfl) (n := 110) rfl (c_X2_push hC.p6 hT (hH.of h8 (fun b g1 g2 => f2 b (by omega) (by omega))) k2 h8 h10 hN.2.2.2.1 (by omega) (fun I3 f3 hc3 => ?_))
            have k3 : TR I3 (x + 1 + 1) K np nc := k2.of (fun b g1 g2 => f3 b (by omega)) h8 h10
            refine Vw.aload (de_aload (B 110 _ rfl) (B 111 _ rfl)) 6 rfl (n := 112) rfl ?_
            refine Vw.getR (de_getfield (B 112 _ rfl) (B 113 _ rfl) (B 114 _ rfl)) fl_X11_168 rfl hC.p0.p0.k hC.p0.p0.f2 (n := 115) rfl ?_
            refine Vw.iload_n (de_iload_1 (B 115 _ rfl)) 1 rfl (n := 116) rfl ?_
            refine Vw.dup2 (de_dup2 (B 116 _ rfl)) rfl rfl (n := 117) rfl ?_
            refine Vw.iald (de_iaload (B 117 _ rfl)) hC.p0.p0.r2 (vIx_n (k := a) rfl (by omega)) (n := 118) rfl ?_
            rw [(k3.2.2.2.2.2 a (by omega)).1]
            refine Vw.iload (de_iload (B 118 _ rfl) (B 119 _ rfl)) 7 rfl (n := 120) rfl ?_
            refine Vw.isub (de_isub (B 120 _ rfl)) (n := 121) rfl ?_
            refine Vw.iast (de_iastore (B 121 _ rfl)) hC.p0.p0.r2 (vIx_n (k := a) rfl (by omega)) (n := 122) rfl ?_
            refine Vw.aload (de_aload (B 122 _ rfl) (B 123 _ rfl)) 6 rfl (n := 124) rfl ?_
            refine Vw.getI (de_getfield (B 124 _ rfl) (B 125 _ rfl) (B 126 _ rfl)) fl_X11_270 rfl hC.p0.p0.k (n := 127) rfl ?_
            rw [up2_row (by omega), k3.2.1]
            refine Vw.istore (lv2 := [(0, _), (1, _), (2, _), (3, _), (4, _), (5, _), (6, _), (7, _), (8, _)]) (de_istore (B 127 _ rfl) (B 128 _ rfl)) (by decide) [1, 2, 3, 4, 5, 6, 7, 8, 0] rfl (n := 129) rfl ?_
            refine Vw.aload (de_aload (B 129 _ rfl) (B 130 _ rfl)) 6 rfl (n := 131) rfl ?_
            refine Vw.getR (de_getfield (B 131 _ rfl) (B 132 _ rfl) (B 133 _ rfl)) fl_X11_277 rfl hC.p0.p0.k hC.p0.p0.f1 (n := 134) rfl ?_
            refine Vw.iload (de_iload (B 134 _ rfl) (B 135 _ rfl)) 8 rfl (n := 136) rfl ?_
            refine Vw.aald0 (b := 0) (de_aaload (B 136 _ rfl)) hC.p0.p0.r1 (vIx_n (k := nc) rfl (by omega)) (hT.cr (show nc < 10 by omega)) (n := 137) rfl ?_
            refine Vw.iload_n (de_iload_1 (B 137 _ rfl)) 1 rfl (n := 138) rfl ?_
            refine Vw.iload_n (de_iload_2 (B 138 _ rfl)) 2 rfl (n := 139) rfl ?_
            refine Vw.iload_n (de_iload_3 (B 139 _ rfl)) 3 rfl (n := 140) rfl ?_
            refine Vw.iload (de_iload (B 140 _ rfl) (B 141 _ rfl)) 4 rfl (n := 142) rfl ?_
            refine Vw.iload (de_iload (B 142 _ rfl) (B 143 _ rfl)) 5 rfl (n := 144) rfl ?_
            refine Vw.ivv5 (mi' := mX0_sewn) (de_invokevirtual (B 144 _ rfl) (B 145 _ rfl) (B 146 _ rfl)) ml_X11_281 mv_X0_sewn (hT.ck (show nc < 10 by omega)) (Nat.le_of_ble_eq_true rfl) (n := 147) rfl (c_X0_sewn (hT.ck (show nc < 10 by omega)) (fun I4 f4 w0 w1 w2 w3 w4 w5 w6 w7 => ?_))
            refine Vw.aload (de_aload (B 147 _ rfl) (B 148 _ rfl)) 6 rfl (n := 149) rfl ?_
            refine Vw.dup (de_dup (B 149 _ rfl)) rfl (n := 150) rfl ?_
            refine Vw.getI (de_getfield (B 150 _ rfl) (B 151 _ rfl) (B 152 _ rfl)) fl_X11_270 rfl hC.p0.p0.k (n := 153) rfl ?_
            rw [f4 _ (by omega), up2_row (by omega), k3.2.1]
            refine Vw.iconst (v := 1) (de_iconst_1 (B 153 _ rfl)) rfl (n := 154) rfl ?_
            refine Vw.iadd (de_iadd (B 154 _ rfl)) (n := 155) rfl ?_
            rw [nI_1]
            refine Vw.putI (de_putfield (B 155 _ rfl) (B 156 _ rfl) (B 157 _ rfl)) fl_X11_270 hC.p0.p0.k rfl rfl (n := 158) rfl ?_
            refine Vw.aload_n (de_aload_0 (B 158 _ rfl)) 0 rfl (n := 159) rfl ?_
            refine Vw.iload (de_iload (B 159 _ rfl) (B 160 _ rfl)) 8 rfl (n := 161) rfl ?_
            refine Vw.ivi1 (mi' := mX11_accept) (de_invokevirtual (B 161 _ rfl) (B 162 _ rfl) (B 163 _ rfl)) ml_X11_117 mv_X11_accept hC.k (Nat.le_of_ble_eq_true rfl) (n := 164) rfl (c_X11_accept hC ?_)
            exact Vw.iret (de_ireturn (B 164 _ rfl)) rfl ⟨_, rfl, (h a b q ha hb hq rfl rfl rfl c_21 ys nc10 _ M (fun b g1 g2 g3 g4 => by rw [up2_row (by omega), f4 b (by omega), up2_row (by omega), f3 b (by omega), f2 b (by omega) (by omega)]) (k3.sew h8 nc10 (by omega) (fun b g1 g2 g3 g4 => by rw [up2_row (by omega), f4 b (by omega), up2_row (by omega)]) (by rw [up2_k (by decide), f4 _ (by omega), up2_row (by omega)]) (up2_s _ _ _ _) (by rw [up2_k (by decide), f4 _ (by omega), up2_row (by omega)]) (fun k => by rw [up2_row (by omega), f4 _ (by omega)]; by_cases z : k = a; rw [if_pos z, z, up2_s]; rw [if_neg z, up2_k z]) (by rw [up2_row (by omega)]; exact w0) (by rw [up2_row (by omega)]; exact w1) (by rw [up2_row (by omega)]; exact w2) (by rw [up2_row (by omega)]; exact w3) (by rw [up2_row (by omega)]; exact w4) (by rw [up2_row (by omega)]; exact w5) (by rw [up2_row (by omega)]; exact w6) (by rw [up2_row (by omega)]; exact w7)) (hc3.of h8 (fun b g1 g2 => by rw [up2_row (by omega), f4 b (by omega), up2_row (by omega)])))⟩
          refine Vw.aload_n (de_aload_0 (B 93 _ rfl)) 0 rfl (n := 94) rfl ?_
          refine Vw.bipush (v := -5) (de_bipush (B 94 _ rfl) (B 95 _ rfl)) rfl (n := 96) rfl ?_
          refine Vw.ivi1 (mi' := mX11_refuse) (de_invokevirtual (B 96 _ rfl) (B 97 _ rfl) (B 98 _ rfl)) ml_X11_100 mv_X11_refuse hC.k (Nat.le_of_ble_eq_true rfl) (n := 99) rfl (c_X11_refuse (j := 5) hC rfl (by decide) ?_)
          exact Vw.iret (de_ireturn (B 99 _ rfl)) rfl ⟨_, rfl, (h4 a b q ha hb hq rfl rfl rfl c_21 ys (by rcases Nat.lt_or_ge nc 10 with z | z; exact absurd (i32_lt.mpr (by rw [nI_ti (by omega)]; show (nc : Int) < 10; omega)) c_90; omega) I2 M (fun b g1 g2 g3 g4 => f2 b (by omega) (by omega)) k2 (hH.of h8 (fun b g1 g2 => f2 b (by omega) (by omega))))⟩
        exact absurd c_73 (by obtain ⟨cc, cc1, cc2⟩ := clothP_b (W := W) (p := nI q) (tl := nI a) (now := K 121) (P := perP K q) c_21; rw [cc1]; exact nI_m1 (by omega))
    refine Vw.aload_n (de_aload_0 (B 48 _ rfl)) 0 rfl (n := 49) rfl ?_
    refine Vw.bipush (v := -2) (de_bipush (B 49 _ rfl) (B 50 _ rfl)) rfl (n := 51) rfl ?_
    refine Vw.ivi1 (mi' := mX11_refuse) (de_invokevirtual (B 51 _ rfl) (B 52 _ rfl) (B 53 _ rfl)) ml_X11_100 mv_X11_refuse hC.k (Nat.le_of_ble_eq_true rfl) (n := 54) rfl (c_X11_refuse (j := 2) hC rfl (by decide) ?_)
    exact Vw.iret (de_ireturn (B 54 _ rfl)) rfl ⟨_, rfl, (h2 c_4 c_11 c_21 c_45)⟩
  refine Vw.aload_n (de_aload_0 (B 24 _ rfl)) 0 rfl (n := 25) rfl ?_
  refine Vw.iconst (v := -1) (de_iconst_m1 (B 25 _ rfl)) rfl (n := 26) rfl ?_
  refine Vw.ivi1 (mi' := mX11_refuse) (de_invokevirtual (B 26 _ rfl) (B 27 _ rfl) (B 28 _ rfl)) ml_X11_100 mv_X11_refuse hC.k (Nat.le_of_ble_eq_true rfl) (n := 29) rfl (c_X11_refuse (j := 1) hC rfl (by decide) ?_)
  exact Vw.iret (de_ireturn (B 29 _ rfl)) rfl ⟨_, rfl, (h1 (by first | exact Or.inl c_4 | exact Or.inr (Or.inl c_11) | exact Or.inr (Or.inr c_21)))⟩
theorem lie_3 {a : Nat} (h : a ≤ 3) : ¬ zLie (nI a) 0 3 = 0 := by rw [zLie_iff, nI_ti (by omega)]; show (0 : Int) ≤ _ ∧ _ ≤ (3 : Int); omega
/-- what the reference has scribbled does not matter -/
theorem REL.refm {S : vS} {I J : vI} {x r lb j : Nat} {k : Int32} (h : REL S I x r lb) (f : Fr r (cRef I x k j) J) (hj : j < 7) : REL S (mRef J r k j) x r lb := by
  have e0 : REL S (mRef (cRef I x k j) r k j) x r lb := h.ref hj
  have er : r = x + 914 := by obtain ⟨_, _, _, _, _, _, _, _, _, _, _, _, er, _⟩ := h; exact er
  refine e0.rq (fun a b h1 h2 h3 => ?_)
  have q := f a b (by omega) h2
  unfold mRef
  have q1 : J (r + 1) j = cRef I x k j (r + 1) j := f _ _ (by omega) (by omega)
  by_cases z : a = r + 1 ∧ b = j
  · rw [z.1, z.2, up2_s, up2_s, q1]
  · rw [up2_n z, up2_n z]
    by_cases y : a = r ∧ b = 0
    · rw [y.1, y.2, up2_s, up2_s]
    · rw [up2_n y, up2_n y]; exact q
theorem pr_sew {S : vS} {I : vI} {L : vL} {x r lb : Nat} {fst sc pp sz wd : Int32} (hR : REL S I x r lb) : PR mX11_sew mX12_sew 0 0 [.int fst, .int sc, .int pp, .int sz, .int wd] x r lb S I L := by
  intro d Q h
  obtain ⟨l, np, nc, ns, nl, hCP, hL, h32, hWd, hSP⟩ := hR
  have hR : REL S I x r lb := ⟨l, np, nc, ns, nl, hCP, hL, h32, hWd, hSP⟩
  have hs := hCP.1
  have hH := hCP.2.1
  have hN := hs.tn
  obtain ⟨hC, hM, hst, er, el, hl2⟩ := id hSP
  have h8 := hN.1
  have h10 := hN.2.1
  obtain ⟨W, wC, wD⟩ := hs.w
  have inj : ∀ {a b q a2 b2 q2 : Nat}, a ≤ 3 → b ≤ 3 → q < np → fst = nI a → sc = nI b → pp = nI q → a2 ≤ 3 → b2 ≤ 3 → q2 < np → fst = nI a2 → sc = nI b2 → pp = nI q2 → a2 = a ∧ b2 = b ∧ q2 = q := fun q1 q2 q3 q4 q5 q6 w1 w2 w3 w4 w5 w6 => ⟨nI_inj (by omega) (by omega) (w4.symm.trans q4), nI_inj (by omega) (by omega) (w5.symm.trans q5), nI_inj (by omega) (by omega) (w6.symm.trans q6)⟩
  have low : ∀ b, b < x → ∀ J : vI, ∀ k j, mRef J r k j b = J b := fun b hb J k j => mRef_o (by omega) (by omega)
  refine k_sew hC hs hH (by omega) wC (fun c1 => h _ S _ L (fun _ _ => rfl) (fun d2 Q2 g => ?_)) (fun c1 c2 c3 c4 => h _ S _ L (fun _ _ => rfl) (fun d2 Q2 g => ?_)) (fun a b q q1 q2 q3 q4 q5 q6 c3 ns I2 M f t hh => h _ S _ M (fun _ _ => rfl) (fun d2 Q2 g => ?_)) (fun a b q q1 q2 q3 q4 q5 q6 c3 ys c10 I2 M f t hh => h _ S _ M (fun _ _ => rfl) (fun d2 Q2 g => ?_)) (fun a b q q1 q2 q3 q4 q5 q6 c3 ys c10 I2 M f t hh => h _ S _ M (fun _ _ => rfl) (fun d2 Q2 g => ?_))
  · have e0 : cRef I x (-1) 1 (r + 2) = I (r + 2) := cRef_o (by omega) (by omega)
    have e1 : cRef I x (-1) 1 r 32 = nI l.length := by rw [cRef_o (by omega) (by omega)]; exact h32
    have no : ∀ a b, a ≤ 3 → b ≤ 3 → fst = nI a → sc = nI b → ¬ zSize sz wd = 0 → False := fun a b a1 a2 a3 a4 a5 => by
      rcases c1 with z | z | z
      · rw [a3] at z; exact lie_3 a1 z
      · rw [a4] at z; exact lie_3 a2 z
      · exact a5 z
    exact c_X12_sew (d := d2 + 15) (np := np) (nc := nc) (u := l.length) (W := W) hM (by rw [e0]; exact wD) (by rw [e0]; exact hN) e1 hH.1 (fun _ => g _ _ (hR.ref (k := (-1)) (j := 1) (by decide)) (fun b hb => by rw [mRef_o (by omega) (by omega), cRef_o (by omega) (by omega)])) (fun q1 q2 q3 => absurd c1 (fun z => z.elim q1 (fun z => z.elim q2 q3))) (fun a b q I2 a1 a2 _ a3 a4 _ a5 => (no a b a1 a2 a3 a4 a5).elim) (fun a b q I2 a1 a2 _ a3 a4 _ a5 => (no a b a1 a2 a3 a4 a5).elim) (fun a b q I2 a1 a2 _ a3 a4 _ a5 => (no a b a1 a2 a3 a4 a5).elim)
  · have e0 : cRef I x (-2) 2 (r + 2) = I (r + 2) := cRef_o (by omega) (by omega)
    have e1 : cRef I x (-2) 2 r 32 = nI l.length := by rw [cRef_o (by omega) (by omega)]; exact h32
    have no : ∀ q, q < np → pp = nI q → False := fun q q1 q2 => by rw [q2] at c4; exact (lie_q (by omega) h8).mpr q1 c4
    exact c_X12_sew (d := d2 + 15) (np := np) (nc := nc) (u := l.length) (W := W) hM (by rw [e0]; exact wD) (by rw [e0]; exact hN) e1 hH.1 (fun z => absurd z (fun z => z.elim c1 (fun z => z.elim c2 c3))) (fun _ _ _ _ => g _ _ (hR.ref (k := (-2)) (j := 2) (by decide)) (fun b hb => by rw [mRef_o (by omega) (by omega), cRef_o (by omega) (by omega)])) (fun a b q I2 _ _ a1 _ _ a2 => (no q a1 a2).elim) (fun a b q I2 _ _ a1 _ _ a2 => (no q a1 a2).elim) (fun a b q I2 _ _ a1 _ _ a2 => (no q a1 a2).elim)
  · have e0 : cRef I2 x (-3) 3 (r + 2) = I (r + 2) := by rw [cRef_o (by omega) (by omega), f _ (by omega) (by omega) (by omega) (by omega)]
    have e1 : cRef I2 x (-3) 3 r 32 = nI l.length := by rw [cRef_o (by omega) (by omega), f _ (by omega) (by omega) (by omega) (by omega)]; exact h32
    have SM := REL.same hCP hL h32 hWd hSP f t hh
    refine c_X12_sew (d := d2 + 15) (np := np) (nc := nc) (u := l.length) (W := W) hM (by rw [e0]; exact wD) (by rw [e0]; exact hN) e1 hH.1 (fun z => ?_) (fun _ _ _ z => absurd z (by rw [q6]; exact (lie_q (by omega) h8).mpr q3)) (fun a b q Jr _ _ _ _ _ _ _ _ fj => ?_) (fun a2 b2 q2b Jr w1 w2 w3 w4 w5 w6 _ y2 => ?_) (fun a2 b2 q2b Jr w1 w2 w3 w4 w5 w6 _ y2 => ?_)
    · rcases z with z | z | z
      · exact absurd z (by rw [q4]; exact lie_3 q1)
      · exact absurd z (by rw [q5]; exact lie_3 q2)
      · exact absurd z c3
    · exact g _ _ (SM.1.refm fj (by decide)) (fun y hy => by rw [low y hy, ← SM.2 y hy, ← cRef_o (I := I2) (x := x) (k := -3) (j := 3) (b := y) (by omega) (by omega)]; exact funext fun k => fj y k (by omega) (by omega))
    · obtain ⟨rfl, rfl, rfl⟩ := inj q1 q2 q3 q4 q5 q6 w1 w2 w3 w4 w5 w6
      rw [e0] at y2; exact absurd y2 ns
    · obtain ⟨rfl, rfl, rfl⟩ := inj q1 q2 q3 q4 q5 q6 w1 w2 w3 w4 w5 w6
      rw [e0] at y2; exact absurd y2 ns
  · have e0 : cRef I2 x (-5) 5 (r + 2) = I (r + 2) := by rw [cRef_o (by omega) (by omega), f _ (by omega) (by omega) (by omega) (by omega)]
    have e1 : cRef I2 x (-5) 5 r 32 = nI l.length := by rw [cRef_o (by omega) (by omega), f _ (by omega) (by omega) (by omega) (by omega)]; exact h32
    have SM := REL.same hCP hL h32 hWd hSP f t hh
    refine c_X12_sew (d := d2 + 15) (np := np) (nc := nc) (u := l.length) (W := W) hM (by rw [e0]; exact wD) (by rw [e0]; exact hN) e1 hH.1 (fun z => ?_) (fun _ _ _ z => absurd z (by rw [q6]; exact (lie_q (by omega) h8).mpr q3)) (fun a2 b2 q2b Jr w1 w2 w3 w4 w5 w6 _ y2 => ?_) (fun a b q Jr _ _ _ _ _ _ _ _ _ fj => ?_) (fun a2 b2 q2b Jr w1 w2 w3 w4 w5 w6 _ y2 y3 => absurd y3 (by omega))
    · rcases z with z | z | z
      · exact absurd z (by rw [q4]; exact lie_3 q1)
      · exact absurd z (by rw [q5]; exact lie_3 q2)
      · exact absurd z c3
    · obtain ⟨rfl, rfl, rfl⟩ := inj q1 q2 q3 q4 q5 q6 w1 w2 w3 w4 w5 w6
      rw [e0] at y2; exact absurd ys y2
    · exact g _ _ (SM.1.refm fj (by decide)) (fun y hy => by rw [low y hy, ← SM.2 y hy, ← cRef_o (I := I2) (x := x) (k := -5) (j := 5) (b := y) (by omega) (by omega)]; exact funext fun k => fj y k (by omega) (by omega))
  · have e0 : cAcc I2 x (r + 2) = I (r + 2) := by rw [cAcc_o (by omega), f _ (by omega) (by omega) (by omega) (by omega)]
    have e1 : cAcc I2 x r 32 = nI l.length := by rw [cAcc_o (by omega), f _ (by omega) (by omega) (by omega) (by omega)]; exact h32
    refine c_X12_sew (d := d2 + 15) (np := np) (nc := nc) (u := l.length) (W := W) hM (by rw [e0]; exact wD) (by rw [e0]; exact hN) e1 hH.1 (fun z => ?_) (fun _ _ _ z => absurd z (by rw [q6]; exact (lie_q (by omega) h8).mpr q3)) (fun a2 b2 q2b Jr w1 w2 w3 w4 w5 w6 _ y2 => ?_) (fun a2 b2 q2b Jr w1 w2 w3 w4 w5 w6 _ y2 y3 => absurd y3 (by omega)) (fun a2 b2 q2b Jr w1 w2 w3 w4 w5 w6 _ y2 y3 fk eK => ?_)
    · rcases z with z | z | z
      · exact absurd z (by rw [q4]; exact lie_3 q1)
      · exact absurd z (by rw [q5]; exact lie_3 q2)
      · exact absurd z c3
    · obtain ⟨rfl, rfl, rfl⟩ := inj q1 q2 q3 q4 q5 q6 w1 w2 w3 w4 w5 w6
      rw [e0] at y2; exact absurd ys y2
    · obtain ⟨rfl, rfl, rfl⟩ := inj q1 q2 q3 q4 q5 q6 w1 w2 w3 w4 w5 w6
      rw [e0] at eK
      obtain ⟨cc, cc1, cc2⟩ := clothP_b (W := W) (p := nI q2b) (tl := nI a2) (now := I (r + 2) 121) (P := perP (I (r + 2)) q2b) c3
      have fin := REL.kept (I2 := I2) (Jr := Jr) (nc2 := nc + 1) (k := 0) hCP hL h32 hWd hSP f fk (by rw [eK]; exact t) (by rw [eK]; exact hN.sew c10 (by omega) (by omega) q3) (by rw [eK, cc1]; exact hs.kb.sew h8 c10 (by omega) c3 cc2 (by rw [← cc1]; exact ys.2.2.2)) (fun y w1 w2 _ => by rw [eK, sewK_o (by omega) (by omega) (by omega)]) hh
      exact g _ _ fin.1 fin.2
theorem k_undo {d : Nat} {S : vS} {I : vI} {L : vL} {Q : Int32 → vS → vI → vL → Prop} {x lb np nc ns nl : Nat} {K : Nat → Int32} {l : List tH} (hC : ClsS S x) (hs : STR S I (x + 1) lb K np nc ns nl) (hH : HC I (x + 89) l np) (hlb : x + 942 ≤ lb) (h1 : l = [] → Q (-3) S (cRef I x (-3) 3) L) (h : ∀ m k c, l = m ++ [(k, c)] → ∀ I2 n2, n2 ≤ 10 → k 112 = nI n2 → (∀ b, ¬ (x + 2 ≤ b ∧ b ≤ x + 24) → b ≠ x + 89 → I2 b = I b) → HC I2 (x + 89) m np → TR I2 (x + 1 + 1) k np n2 → Q c S (cAcc I2 x) L) : Vc mX11_undo (d + 80) 0 0 [.ref x] S I L (ViQ Q) := by
  refine Vc.of rfl (Nat.le_of_ble_eq_true rfl) ?_
  have B := bs_X11_undo
  show Vw mX11_undo (d + 80) 0 0 0 0 (ViQ Q) 0 [(0, .ref x)] [] S I L
  have hT := hC.p0.p0
  have hN := hs.tn
  have h8 := hN.1
  have h10 := hN.2.1
  have hK := hs.tr
  have hold : ∃ old, old < 16 ∧ I (x + 89) 2 = nI old := by obtain ⟨_, _, old, o1, o2, _⟩ := hH; exact ⟨old, o1, o2⟩
  refine Vw.aload_n (de_aload_0 (B 0 _ rfl)) 0 rfl (n := 1) rfl ?_
  refine Vw.getR (de_getfield (B 1 _ rfl) (B 2 _ rfl) (B 3 _ rfl)) fl_X11_60 rfl hC.k hC.f6 (n := 4) rfl ?_
  refine Vw.getI (de_getfield (B 4 _ rfl) (B 5 _ rfl) (B 6 _ rfl)) fl_X11_325 rfl hC.p6.k (n := 7) rfl ?_
  rw [hH.2.1]
  have l16 := hH.1
  refine Vw.if_ne (tgt := 17) (n := 10) (de_if_ne (B 7 _ rfl) (B 8 _ rfl) (B 9 _ rfl)) rfl rfl (fun c_7 => ?_) (fun c_7 => ?_)
  · have ln : l ≠ [] := fun z => c_7 (by rw [z]; rfl)
    obtain ⟨m, ⟨k, c⟩, em⟩ : ∃ m e, l = m ++ [e] := ⟨l.dropLast, l.getLast ln, (List.dropLast_concat_getLast ln).symm⟩
    subst em
    refine Vw.aload_n (de_aload_0 (B 17 _ rfl)) 0 rfl (n := 18) rfl ?_
    refine Vw.aload_n (de_aload_0 (B 18 _ rfl)) 0 rfl (n := 19) rfl ?_
    refine Vw.getR (de_getfield (B 19 _ rfl) (B 20 _ rfl) (B 21 _ rfl)) fl_X11_60 rfl hC.k hC.f6 (n := 22) rfl ?_
    refine Vw.aload_n (de_aload_0 (B 22 _ rfl)) 0 rfl (n := 23) rfl ?_
    refine Vw.getR (de_getfield (B 23 _ rfl) (B 24 _ rfl) (B 25 _ rfl)) fl_X11_12 rfl hC.k hC.f0 (n := 26) rfl ?_
    refine Vw.getR (de_getfield (B 26 _ rfl) (B 27 _ rfl) (B 28 _ rfl)) fl_X11_104 rfl hC.p0.k hC.p0.f0 (n := 29) rfl ?_
    refine Vw.ivi1 (mi' := mX2_pop) (de_invokevirtual (B 29 _ rfl) (B 30 _ rfl) (B 31 _ rfl)) ml_X11_328 mv_X2_pop hC.p6.k (Nat.le_of_ble_eq_true rfl) (n := 32) rfl (c_X2_pop hC.p6 hT hH h8 (by omega) (fun I2 n2 n21 n22 f2 h2 t2 => ?_))
    refine Vw.ivi1 (mi' := mX11_accept) (de_invokevirtual (B 32 _ rfl) (B 33 _ rfl) (B 34 _ rfl)) ml_X11_117 mv_X11_accept hC.k (Nat.le_of_ble_eq_true rfl) (n := 35) rfl (c_X11_accept hC ?_)
    exact Vw.iret (de_ireturn (B 35 _ rfl)) rfl ⟨_, rfl, (h m k c rfl I2 n2 n21 n22 (fun b g1 g2 => f2 b (by omega) g2) h2 t2)⟩
  refine Vw.aload_n (de_aload_0 (B 10 _ rfl)) 0 rfl (n := 11) rfl ?_
  refine Vw.bipush (v := -3) (de_bipush (B 11 _ rfl) (B 12 _ rfl)) rfl (n := 13) rfl ?_
  refine Vw.ivi1 (mi' := mX11_refuse) (de_invokevirtual (B 13 _ rfl) (B 14 _ rfl) (B 15 _ rfl)) ml_X11_100 mv_X11_refuse hC.k (Nat.le_of_ble_eq_true rfl) (n := 16) rfl (c_X11_refuse (j := 3) hC rfl (by decide) ?_)
  exact Vw.iret (de_ireturn (B 16 _ rfl)) rfl ⟨_, rfl, (h1 (List.length_eq_zero_iff.mp (nI_inj (a := l.length) (b := 0) (by omega) (by decide) c_7)))⟩
theorem pr_undo {S : vS} {I : vI} {L : vL} {x r lb : Nat} (hR : REL S I x r lb) : PR mX11_undo mX12_undo 0 0 [] x r lb S I L := by
  intro d Q h
  obtain ⟨l, np, nc, ns, nl, hCP, hL, h32, hWd, hSP⟩ := hR
  have hR : REL S I x r lb := ⟨l, np, nc, ns, nl, hCP, hL, h32, hWd, hSP⟩
  have hs := hCP.1
  have hH := hCP.2.1
  have hN := hs.tn
  obtain ⟨hC, hM, hst, er, el, hl2⟩ := id hSP
  have h8 := hN.1
  have l16 := hH.1
  refine k_undo hC hs hH (by omega) (fun c1 => h _ S _ L (fun _ _ => rfl) (fun d2 Q2 g => ?_)) (fun m k c em I2 n2 n21 n22 f hh t => h _ S _ L (fun _ _ => rfl) (fun d2 Q2 g => ?_))
  · have e0 : cRef I x (-3) 3 (r + 2) = I (r + 2) := cRef_o (by omega) (by omega)
    have e1 : cRef I x (-3) 3 r 32 = nI l.length := by rw [cRef_o (by omega) (by omega)]; exact h32
    exact c_X12_undo (d := d2 + 59) hM e1 l16 (fun _ => g _ _ (hR.ref (k := (-3)) (j := 3) (by decide)) (fun b hb => by rw [mRef_o (by omega) (by omega), cRef_o (by omega) (by omega)])) (fun v q => absurd q (by rw [c1]; exact fun q => absurd q (by show ¬ 0 = v + 1; omega)))
  · have e0 : cAcc I2 x (r + 2) = I (r + 2) := by rw [cAcc_o (by omega), f _ (by omega) (by omega)]
    have e14 : cAcc I2 x (r + 14) = I (r + 14) := by rw [cAcc_o (by omega), f _ (by omega) (by omega)]
    have e1 : cAcc I2 x r 32 = nI l.length := by rw [cAcc_o (by omega), f _ (by omega) (by omega)]; exact h32
    have lm : l.length = m.length + 1 := by rw [em, List.length_append]; rfl
    refine c_X12_undo (d := d2 + 59) hM e1 l16 (fun q => absurd q (by omega)) (fun v q => ?_)
    obtain rfl : v = m.length := by omega
    obtain ⟨f1, f2, n3, n31, n32, n33, n34⟩ := hL m.length k c (by rw [em, List.getElem?_append_right (Nat.le_refl _), Nat.sub_self]; rfl)
    obtain rfl : n3 = n2 := nI_inj (by omega) (by omega) (n32.symm.trans n22)
    rw [e14, f2]
    obtain ⟨J, eJ⟩ : ∃ J : vI, J = cpR (up2 (cAcc I2 x) r 32 (nI m.length)) (r + 14) (r + 2) (123 * m.length) 0 122 := ⟨_, rfl⟩
    have eK1 : ∀ y, y < 122 → J (r + 2) y = k y := fun y hy => by rw [eJ, cpR_i (by omega) (by omega), up2_row (by omega), e14, Nat.sub_zero]; exact f1 y hy
    have eK2 : ∀ y, 122 ≤ y → J (r + 2) y = I (r + 2) y := fun y hy => by rw [eJ, cpR_u (by omega), up2_row (by omega), e0]
    have row : ∀ b, b ≠ r + 2 → b ≠ r → J b = cAcc I2 x b := fun b g1 g2 => funext fun j => by rw [eJ, cpR_o g1, up2_row g2]
    have rk : ∀ j, j ≠ 32 → J r j = cAcc I2 x r j := fun j hj => by rw [eJ, cpR_o (by omega), up2_k hj]
    unfold mUndo
    rw [← eJ]
    have fa : FA x I I2 := FA.of (fun b g1 g2 g3 g4 => f b (by omega) g4)
    have hold := hCP.2.2.1
    have kb : KB (J (r + 2)) np n3 := n34.of h8 n31 (fun y hy => eK1 y (by omega))
    have tn : TN (J (r + 2)) np n3 := ⟨h8, n31, (eK2 _ (by omega)).trans hN.2.2.1, (eK1 _ (by omega)).trans n32, fun c2 hc2 => by
      obtain ⟨c1, c3, c4⟩ := n33 c2 hc2
      exact ⟨by rw [eK1 _ (by omega)]; exact c1, by rw [eK1 _ (by omega)]; exact c3, by rw [eK1 _ (by omega)]; exact c4⟩⟩
    have tr : TR I2 (x + 1 + 1) (J (r + 2)) np n3 := by
      obtain ⟨t1, t2, t3, t4, t5, t6⟩ := t
      exact ⟨t1, t2, by rw [eK1 _ (by omega)]; exact t3, fun q k hq hk => by rw [eK1 _ (by omega)]; exact t4 q k hq hk, fun c k hc hk => by rw [eK1 _ (by omega)]; exact t5 c k hc hk, fun j hj => by rw [eK1 _ (by omega), eK1 _ (by omega)]; exact t6 j hj⟩
    have st : STR S I2 (x + 1) lb (J (r + 2)) np n3 ns nl := hs.town tr tn kb (fun y g1 g2 _ => eK2 y g1) (f _ (by omega) (by omega)) (fun b g1 g2 => f _ (by omega) (by omega)) (fun b hb => f _ (by omega) (by omega))
    have fin := REL.fin (J := mGood J r) hCP hWd hSP fa.acc (fun b hb => by rw [mGood_o (by omega), row b (by omega) (by omega)]) (fun b hb => by rw [mGood_o (by omega), row b (by omega) (by omega)]) (fun k hk => by rw [mGood_k (by omega), rk k (by omega)]) (by rw [mGood_0, cAcc_16]) (by rw [cAcc_o (by omega), f (x + 460) (by omega) (by omega)]; exact hold) (np2 := np) (nc2 := n3) (ns2 := ns) (nl2 := nl) (l2 := m) (by rw [mGood_o (by omega)]; exact st.of (fun b g1 g2 => cAcc_o (by omega)) (fun b hb => cAcc_o (by omega))) (hh.of h8 (fun b g1 g2 => cAcc_o (by omega))) (by
        rw [mGood_o (by omega), row (r + 14) (by omega) (by omega), e14]
        intro i k c q
        have : i < m.length := by rcases Nat.lt_or_ge i m.length with z | z; exact z; rw [List.getElem?_eq_none z] at q; cases q
        exact hL i k c (by rw [em, List.getElem?_append_left this]; exact q)) (by rw [mGood_k (by decide), eJ, cpR_o (by omega), up2_s])
    exact g _ _ fin.1 fin.2
