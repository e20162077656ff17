/-! The town of the class -/
def TR (I : vI) (t : Nat) (K : Nat → Int32) (np nc : Nat) : Prop := I t 4 = nI np ∧ I t 5 = nI nc ∧ I t 6 = K 121 ∧ (∀ q k, q < np → k < 4 → I (t + 5 + q) k = K (4 * q + k)) ∧ (∀ c k, c < nc → k < 8 → I (t + 13 + c) k = K (32 + 8 * c + k)) ∧ ∀ j, j < 4 → I (t + 3) j = K (113 + 2 * j) ∧ I (t + 4) j = K (113 + 2 * j + 1)
theorem TR.per {I : vI} {t np nc q : Nat} {K : Nat → Int32} (h : TR I t K np nc) (hq : q < np) : perA I (t + 5 + q) = perP K q := by
  unfold perA perP
  rw [h.2.2.2.1 q 0 hq (by decide), h.2.2.2.1 q 1 hq (by decide), h.2.2.2.1 q 2 hq (by decide), h.2.2.2.1 q 3 hq (by decide)]; rfl
theorem TR.co {I : vI} {t np nc c k : Nat} {K : Nat → Int32} (h : TR I t K np nc) (hc : c < nc) (hk : k < 8) : I (t + 13 + c) k = K (32 + 8 * c + k) := h.2.2.2.2.1 c k hc hk
theorem TR.co0 {I : vI} {t np nc c : Nat} {K : Nat → Int32} (h : TR I t K np nc) (hc : c < nc) : I (t + 13 + c) 0 = K (32 + 8 * c) := h.2.2.2.2.1 c 0 hc (by decide)
theorem TR.of {I J : vI} {t np nc : Nat} {K : Nat → Int32} (h : TR I t K np nc) (e : ∀ b, t ≤ b → b ≤ t + 22 → J b = I b) (h8 : np ≤ 8) (h10 : nc ≤ 10) : TR J t K np nc := by
  obtain ⟨h1, h2, h3, h4, h5, h6⟩ := h
  refine ⟨by rw [e t (by omega) (by omega)]; exact h1, by rw [e t (by omega) (by omega)]; exact h2, by rw [e t (by omega) (by omega)]; exact h3, fun q k hq hk => by rw [e _ (by omega) (by omega)]; exact h4 q k hq hk, fun c k hc hk => by rw [e _ (by omega) (by omega)]; exact h5 c k hc hk, fun j hj => by rw [e _ (by omega) (by omega), e _ (by omega) (by omega)]; exact h6 j hj⟩
/-- where a town, the state, the rules lie apart -/
def Dj (t s u lb : Nat) : Prop := (s < t ∨ t + 22 < s) ∧ (u + 1 < t ∨ t + 22 < u) ∧ t + 23 ≤ lb ∧ u + 2 ≤ lb
/-- only the town and what the rules look at have changed -/
def Ft (t u : Nat) (I I2 : vI) : Prop := ∀ b, ¬ (t ≤ b ∧ b ≤ t + 22) → b ≠ u → b ≠ u + 1 → I2 b = I b
theorem Ft.trans {t u : Nat} {I I2 I3 : vI} (h : Ft t u I I2) (g : Ft t u I2 I3) : Ft t u I I3 := fun b h1 h2 h3 => (g b h1 h2 h3).trans (h b h1 h2 h3)
theorem Ft.rfl {t u : Nat} {I : vI} : Ft t u I I := fun _ _ _ _ => Eq.refl _
def Fr2 (u : Nat) (I I2 : vI) : Prop := ∀ b, b ≠ u → b ≠ u + 1 → I2 b = I b
theorem Fr2.ft {t u : Nat} {I I2 : vI} (h : Fr2 u I I2) : Ft t u I I2 := fun b _ h2 h3 => h b h2 h3
theorem Fr2.trans {u : Nat} {I I2 I3 : vI} (h : Fr2 u I I2) (g : Fr2 u I2 I3) : Fr2 u I I3 := fun b h2 h3 => (g b h2 h3).trans (h b h2 h3)
theorem Lev.trans {u : Nat} {L M N : vL} (h : Lev u L M) (g : Lev u M N) : Lev u L N := fun b k h1 h2 => (g b k h1 h2).trans (h b k h1 h2)
theorem zl_a {q : Int32} {n : Nat} (hn : n ≤ 100) (h : q < 0) : zLie q 0 (nI n - 1) = 0 := by unfold zLie; rw [if_pos h]
theorem zl_b {q : Int32} {n : Nat} (hn : n ≤ 100) (h : nI n ≤ q) : zLie q 0 (nI n - 1) = 0 := by
  rcases zLie_01 q 0 (nI n - 1) with z | z
  · exact z
  · obtain ⟨j, h1, h2⟩ := lie_ex (p := q) (n := n) (by omega) (by rw [z]; decide)
    rw [h2] at h
    have := (nI_leI (a := n) (b := j) (by omega) (by omega)).mp h
    omega
theorem zl_c {q : Int32} {n : Nat} (hn : n ≤ 100) (h1 : ¬ q < 0) (h2 : ¬ nI n ≤ q) : zLie q 0 (nI n - 1) = 1 := by
  rcases zLie_01 q 0 (nI n - 1) with z | z
  · have a1 : 0 ≤ q.toInt := by have := i32_le.mp (Int32.not_lt.mp h1); exact this
    have a2 : q.toInt < n := by have := i32_lt.mp (Int32.not_le.mp h2); rw [nI_ti (by omega)] at this; exact this
    obtain ⟨j, h3, h4⟩ := nI_ex (x := q) (n := n) a1 a2
    refine absurd z ((zLie_iff _ _ _).mpr ?_)
    rw [h4, i32_sub (by rw [nI_ti (by omega)]; show _ ≤ _ - (1 : Int); omega) (by rw [nI_ti (by omega)]; show _ - (1 : Int) < _; omega), nI_ti (by omega), nI_ti (by omega)]
    show (0 : Int) ≤ _ ∧ _ ≤ _ - (1 : Int)
    omega
  · exact z
theorem c_X9_hasPerson {d : Nat} {S : vS} {I : vI} {L : vL} {Q : Int32 → vS → vI → vL → Prop} {t n : Nat} {q : Int32} (hT : TownS S t) (hp : I t 4 = nI n) (hn : n ≤ 100) (h : Q (zLie q 0 (nI n - 1)) S I L) : Vc mX9_hasPerson d 0 0 [.ref t, .int q] S I L (ViQ Q) := by
  refine Vc.of rfl (Nat.le_of_ble_eq_true rfl) ?_
  have B := bs_X9_hasPerson
  show Vw mX9_hasPerson d 0 0 0 0 (ViQ Q) 0 [(0, .ref t), (1, .int q)] [] S I L
  refine Vw.iload_n (de_iload_1 (B 0 _ rfl)) 1 rfl (n := 1) rfl ?_
  refine Vw.if_lt (tgt := 16) (n := 4) (de_if_lt (B 1 _ rfl) (B 2 _ rfl) (B 3 _ rfl)) rfl rfl (fun c_1 => ?_) (fun c_1 => ?_)
  · refine Vw.iconst (v := 0) (de_iconst_0 (B 16 _ rfl)) rfl (n := 17) rfl ?_
    exact Vw.zret (de_ireturn (B 17 _ rfl)) rfl rfl ⟨_, rfl, (by first | exact qv (zl_a hn c_1) h | exact qv (zl_b hn c_9) h | exact qv (zl_c hn c_1 c_9) h)⟩
  refine Vw.iload_n (de_iload_1 (B 4 _ rfl)) 1 rfl (n := 5) rfl ?_
  refine Vw.aload_n (de_aload_0 (B 5 _ rfl)) 0 rfl (n := 6) rfl ?_
  refine Vw.getI (de_getfield (B 6 _ rfl) (B 7 _ rfl) (B 8 _ rfl)) fl_X9_32 rfl hT.k (n := 9) rfl ?_
  rw [hp]
  refine Vw.icmp_ge (tgt := 16) (n := 12) (de_icmp_ge (B 9 _ rfl) (B 10 _ rfl) (B 11 _ rfl)) rfl rfl (fun c_9 => ?_) (fun c_9 => ?_)
  · refine Vw.iconst (v := 0) (de_iconst_0 (B 16 _ rfl)) rfl (n := 17) rfl ?_
    exact Vw.zret (de_ireturn (B 17 _ rfl)) rfl rfl ⟨_, rfl, (by first | exact qv (zl_a hn c_1) h | exact qv (zl_b hn c_9) h | exact qv (zl_c hn c_1 c_9) h)⟩
  refine Vw.iconst (v := 1) (de_iconst_1 (B 12 _ rfl)) rfl (n := 13) rfl ?_
  refine Vw.goto_ (n := 17) (de_goto_ (B 13 _ rfl) (B 14 _ rfl) (B 15 _ rfl)) rfl ?_
  exact Vw.zret (de_ireturn (B 17 _ rfl)) rfl rfl ⟨_, rfl, (by first | exact qv (zl_a hn c_1) h | exact qv (zl_b hn c_9) h | exact qv (zl_c hn c_1 c_9) h)⟩
theorem c_X9_hasCoat {d : Nat} {S : vS} {I : vI} {L : vL} {Q : Int32 → vS → vI → vL → Prop} {t n : Nat} {q : Int32} (hT : TownS S t) (hp : I t 5 = nI n) (hn : n ≤ 100) (h : Q (zLie q 0 (nI n - 1)) S I L) : Vc mX9_hasCoat d 0 0 [.ref t, .int q] S I L (ViQ Q) := by
  refine Vc.of rfl (Nat.le_of_ble_eq_true rfl) ?_
  have B := bs_X9_hasCoat
  show Vw mX9_hasCoat d 0 0 0 0 (ViQ Q) 0 [(0, .ref t), (1, .int q)] [] S I L
  refine Vw.iload_n (de_iload_1 (B 0 _ rfl)) 1 rfl (n := 1) rfl ?_
  refine Vw.if_lt (tgt := 16) (n := 4) (de_if_lt (B 1 _ rfl) (B 2 _ rfl) (B 3 _ rfl)) rfl rfl (fun c_1 => ?_) (fun c_1 => ?_)
  · refine Vw.iconst (v := 0) (de_iconst_0 (B 16 _ rfl)) rfl (n := 17) rfl ?_
    exact Vw.zret (de_ireturn (B 17 _ rfl)) rfl rfl ⟨_, rfl, (by first | exact qv (zl_a hn c_1) h | exact qv (zl_b hn c_9) h | exact qv (zl_c hn c_1 c_9) h)⟩
  refine Vw.iload_n (de_iload_1 (B 4 _ rfl)) 1 rfl (n := 5) rfl ?_
  refine Vw.aload_n (de_aload_0 (B 5 _ rfl)) 0 rfl (n := 6) rfl ?_
  refine Vw.getI (de_getfield (B 6 _ rfl) (B 7 _ rfl) (B 8 _ rfl)) fl_X9_36 rfl hT.k (n := 9) rfl ?_
  rw [hp]
  refine Vw.icmp_ge (tgt := 16) (n := 12) (de_icmp_ge (B 9 _ rfl) (B 10 _ rfl) (B 11 _ rfl)) rfl rfl (fun c_9 => ?_) (fun c_9 => ?_)
  · refine Vw.iconst (v := 0) (de_iconst_0 (B 16 _ rfl)) rfl (n := 17) rfl ?_
    exact Vw.zret (de_ireturn (B 17 _ rfl)) rfl rfl ⟨_, rfl, (by first | exact qv (zl_a hn c_1) h | exact qv (zl_b hn c_9) h | exact qv (zl_c hn c_1 c_9) h)⟩
  refine Vw.iconst (v := 1) (de_iconst_1 (B 12 _ rfl)) rfl (n := 13) rfl ?_
  refine Vw.goto_ (n := 17) (de_goto_ (B 13 _ rfl) (B 14 _ rfl) (B 15 _ rfl)) rfl ?_
  exact Vw.zret (de_ireturn (B 17 _ rfl)) rfl rfl ⟨_, rfl, (by first | exact qv (zl_a hn c_1) h | exact qv (zl_b hn c_9) h | exact qv (zl_c hn c_1 c_9) h)⟩
theorem TR.add {I J : vI} {t np nc : Nat} {K : Nat → Int32} {a s w : Int32} (h : TR I t K np nc) (h8 : np < 8) (h10 : nc ≤ 10) (e : ∀ b, b ≠ t + 5 + np → b ≠ t → J b = I b) (e4 : J t 4 = nI (np + 1)) (e5 : J t 5 = I t 5) (e6 : J t 6 = I t 6) (ep : perA J (t + 5 + np) = (a, s, w, 0)) : TR J t (addK K np a s w) (np + 1) nc := by
  obtain ⟨h1, h2, h3, h4, h5, h6⟩ := h
  have z := perAe ep
  unfold addK
  refine ⟨e4, e5.trans h2, ?_, fun q k hq hk => ?_, fun c k hc hk => ?_, fun j hj => ?_⟩
  · rw [e6, h3, upK_n (by omega), upK_n (by omega), upK_n (by omega), upK_n (by omega), upK_n (by omega)]
  · by_cases g : q = np
    · subst g
      rw [upK_n (by omega)]
      rcases (show k = 0 ∨ k = 1 ∨ k = 2 ∨ k = 3 by omega) with rfl | rfl | rfl | rfl
      · rw [upK_n (by omega), upK_n (by omega), upK_n (by omega), show 4 * q + 0 = 4 * q from rfl, upK_s]; exact z.1
      · rw [upK_n (by omega), upK_n (by omega), upK_s]; exact z.2.1
      · rw [upK_n (by omega), upK_s]; exact z.2.2.1
      · rw [upK_s]; exact z.2.2.2
    · rw [e _ (by omega) (by omega), h4 q k (by omega) hk, upK_n (by omega), upK_n (by omega), upK_n (by omega), upK_n (by omega), upK_n (by omega)]
  · rw [e _ (by omega) (by omega), h5 c k hc hk, upK_n (by omega), upK_n (by omega), upK_n (by omega), upK_n (by omega), upK_n (by omega)]
  · rw [e _ (by omega) (by omega), e _ (by omega) (by omega), (h6 j hj).1, (h6 j hj).2, upK_n (by omega), upK_n (by omega), upK_n (by omega), upK_n (by omega), upK_n (by omega), upK_n (by omega), upK_n (by omega), upK_n (by omega), upK_n (by omega), upK_n (by omega)]
    exact ⟨rfl, rfl⟩
theorem c_X9_addPerson {d : Nat} {S : vS} {I : vI} {L : vL} {Q : Int32 → vS → vI → vL → Prop} {t np nc : Nat} {a s w : Int32} {K : Nat → Int32} (hT : TownS S t) (hK : TR I t K np nc) (h8 : np < 8) (h10 : nc ≤ 10) (h : ∀ I2, (∀ b, ¬ (t ≤ b ∧ b ≤ t + 22) → I2 b = I b) → TR I2 t (addK K np a s w) (np + 1) nc → Q (nI np) S I2 L) : Vc mX9_addPerson (d + 1) 0 0 [.ref t, .int a, .int s, .int w] S I L (ViQ Q) := by
  refine Vc.of rfl (Nat.le_of_ble_eq_true rfl) ?_
  have B := bs_X9_addPerson
  show Vw mX9_addPerson (d + 1) 0 0 0 0 (ViQ Q) 0 [(0, .ref t), (1, .int a), (2, .int s), (3, .int w)] [] S I L
  refine Vw.aload_n (de_aload_0 (B 0 _ rfl)) 0 rfl (n := 1) rfl ?_
  refine Vw.getI (de_getfield (B 1 _ rfl) (B 2 _ rfl) (B 3 _ rfl)) fl_X9_32 rfl hT.k (n := 4) rfl ?_
  rw [hK.1]
  refine Vw.istore (lv2 := [(0, _), (1, _), (2, _), (3, _), (4, _)]) (de_istore (B 4 _ rfl) (B 5 _ rfl)) (by decide) [1, 2, 3, 4, 0] rfl (n := 6) rfl ?_
  refine Vw.aload_n (de_aload_0 (B 6 _ rfl)) 0 rfl (n := 7) rfl ?_
  refine Vw.getR (de_getfield (B 7 _ rfl) (B 8 _ rfl) (B 9 _ rfl)) fl_X9_11 rfl hT.k hT.f0 (n := 10) rfl ?_
  refine Vw.iload (de_iload (B 10 _ rfl) (B 11 _ rfl)) 4 rfl (n := 12) rfl ?_
  refine Vw.aald3 (b := 0) (de_aaload (B 12 _ rfl)) hT.r0 (vIx_n (k := np) rfl (by omega)) (hT.pr (show np < 8 by omega)) (n := 13) rfl ?_
  refine Vw.iload_n (de_iload_1 (B 13 _ rfl)) 1 rfl (n := 14) rfl ?_
  refine Vw.iload_n (de_iload_2 (B 14 _ rfl)) 2 rfl (n := 15) rfl ?_
  refine Vw.iload_n (de_iload_3 (B 15 _ rfl)) 3 rfl (n := 16) rfl ?_
  refine Vw.iconst (v := 0) (de_iconst_0 (B 16 _ rfl)) rfl (n := 17) rfl ?_
  refine Vw.ivv4 (mi' := mX3_set) (de_invokevirtual (B 17 _ rfl) (B 18 _ rfl) (B 19 _ rfl)) ml_X9_55 mv_X3_set (hT.pk (show np < 8 by omega)) (Nat.le_of_ble_eq_true rfl) (n := 20) rfl (c_X3_set (hT.pk (show np < 8 by omega)) (fun I2 f2 e2 => ?_))
  refine Vw.aload_n (de_aload_0 (B 20 _ rfl)) 0 rfl (n := 21) rfl ?_
  refine Vw.dup (de_dup (B 21 _ rfl)) rfl (n := 22) rfl ?_
  refine Vw.getI (de_getfield (B 22 _ rfl) (B 23 _ rfl) (B 24 _ rfl)) fl_X9_32 rfl hT.k (n := 25) rfl ?_
  rw [f2 t (by omega), hK.1]
  refine Vw.iconst (v := 1) (de_iconst_1 (B 25 _ rfl)) rfl (n := 26) rfl ?_
  refine Vw.iadd (de_iadd (B 26 _ rfl)) (n := 27) rfl ?_
  rw [nI_1]
  refine Vw.putI (de_putfield (B 27 _ rfl) (B 28 _ rfl) (B 29 _ rfl)) fl_X9_32 hT.k rfl rfl (n := 30) rfl ?_
  refine Vw.iload (de_iload (B 30 _ rfl) (B 31 _ rfl)) 4 rfl (n := 32) rfl ?_
  exact Vw.iret (de_ireturn (B 32 _ rfl)) rfl ⟨_, rfl, (h _ (fun b hb => by rw [up2_row (by omega)]; exact f2 b (by omega)) (hK.add h8 h10 (fun b h1 h2 => by rw [up2_row h2]; exact f2 b h1) (up2_s _ _ _ _) (by rw [up2_k (by decide), f2 t (by omega)]) (by rw [up2_k (by decide), f2 t (by omega)]) (by unfold perA; rw [up2_row (show t + 5 + np ≠ t by omega)]; exact e2)))⟩
theorem c_X9_coatsWornBy {d : Nat} {S : vS} {I : vI} {L : vL} {Q : Int32 → vS → vI → vL → Prop} {t np nc : Nat} {q : Int32} {K : Nat → Int32} (hT : TownS S t) (hK : TR I t K np nc) (h10 : nc ≤ 10) (h : Q (wornK K q nc) S I L) : Vc mX9_coatsWornBy d 0 0 [.ref t, .int q] S I L (ViQ Q) := by
  refine Vc.of rfl (Nat.le_of_ble_eq_true rfl) ?_
  have B := bs_X9_coatsWornBy
  show Vw mX9_coatsWornBy d 0 0 0 0 (ViQ Q) 0 [(0, .ref t), (1, .int q)] [] S I L
  have loop : ∀ c, c ≤ nc → Vw mX9_coatsWornBy d 0 0 0 0 (ViQ Q) 4 [(0, .ref t), (1, .int q), (2, .int (wornK K q c)), (3, .int (nI c))] [] S I L := by
    refine loop_up (fun c hc ih => ?_)
    refine Vw.iload_n (de_iload_3 (B 4 _ rfl)) 3 rfl (n := 5) rfl ?_
    refine Vw.aload_n (de_aload_0 (B 5 _ rfl)) 0 rfl (n := 6) rfl ?_
    refine Vw.getI (de_getfield (B 6 _ rfl) (B 7 _ rfl) (B 8 _ rfl)) fl_X9_36 rfl hT.k (n := 9) rfl ?_
    rw [hK.2.1]
    refine Vw.icmp_ge (tgt := 34) (n := 12) (de_icmp_ge (B 9 _ rfl) (B 10 _ rfl) (B 11 _ rfl)) rfl rfl (fun c_9 => ?_) (fun c_9 => ?_)
    · have z_9 : nc ≤ c := ((nI_leI (a := nc) (b := c) (by omega) (by omega)).mp c_9)
      obtain rfl : c = nc := by omega
      refine Vw.iload_n (de_iload_2 (B 34 _ rfl)) 2 rfl (n := 35) rfl ?_
      exact Vw.iret (de_ireturn (B 35 _ rfl)) rfl ⟨_, rfl, h⟩
    have z_9 : c < nc := by rcases Nat.lt_or_ge c nc with z | z; exact z; exact absurd ((nI_leI (a := nc) (b := c) (by omega) (by omega)).mpr z) c_9
    refine Vw.aload_n (de_aload_0 (B 12 _ rfl)) 0 rfl (n := 13) rfl ?_
    refine Vw.getR (de_getfield (B 13 _ rfl) (B 14 _ rfl) (B 15 _ rfl)) fl_X9_19 rfl hT.k hT.f1 (n := 16) rfl ?_
    refine Vw.iload_n (de_iload_3 (B 16 _ rfl)) 3 rfl (n := 17) rfl ?_
    refine Vw.aald0 (b := 0) (de_aaload (B 17 _ rfl)) hT.r1 (vIx_n (k := c) rfl (by omega)) (hT.cr (show c < 10 by omega)) (n := 18) rfl ?_
    refine Vw.getI (de_getfield (B 18 _ rfl) (B 19 _ rfl) (B 20 _ rfl)) fl_X9_59 rfl (hT.ck (show c < 10 by omega)) (n := 21) rfl ?_
    rw [hK.co z_9 (by decide)]
    refine Vw.iload_n (de_iload_1 (B 21 _ rfl)) 1 rfl (n := 22) rfl ?_
    refine Vw.icmp_ne (tgt := 28) (n := 25) (de_icmp_ne (B 22 _ rfl) (B 23 _ rfl) (B 24 _ rfl)) rfl rfl (fun c_22 => ?_) (fun c_22 => ?_)
    · refine Vw.iinc (v := nI (c + 1)) (lv2 := [(0, _), (1, _), (2, _), (3, _)]) (de_iinc (B 28 _ rfl) (B 29 _ rfl) (B 30 _ rfl)) 3 rfl (nI_1 c) (by decide) [1, 2, 3, 0] rfl (n := 31) rfl ?_
      refine Vw.goto_ (n := 4) (de_goto_ (B 31 _ rfl) (B 32 _ rfl) (B 33 _ rfl)) rfl ?_
      first
      | (have g := ih z_9; rw [wornK, if_neg c_22, Int32.add_zero] at g; exact g)
      | (have g := ih z_9; rw [wornK, if_pos c_22] at g; exact g)
    refine Vw.iinc (v := wornK K q c + 1) (lv2 := [(0, _), (1, _), (2, _), (3, _)]) (de_iinc (B 25 _ rfl) (B 26 _ rfl) (B 27 _ rfl)) 2 rfl rfl (by decide) [1, 2, 0, 3] rfl (n := 28) rfl ?_
    refine Vw.iinc (v := nI (c + 1)) (lv2 := [(0, _), (1, _), (2, _), (3, _)]) (de_iinc (B 28 _ rfl) (B 29 _ rfl) (B 30 _ rfl)) 3 rfl (nI_1 c) (by decide) [1, 2, 3, 0] rfl (n := 31) rfl ?_
    refine Vw.goto_ (n := 4) (de_goto_ (B 31 _ rfl) (B 32 _ rfl) (B 33 _ rfl)) rfl ?_
    first
    | (have g := ih z_9; rw [wornK, if_neg c_22, Int32.add_zero] at g; exact g)
    | (have g := ih z_9; rw [wornK, if_pos c_22] at g; exact g)
  refine Vw.iconst (v := 0) (de_iconst_0 (B 0 _ rfl)) rfl (n := 1) rfl ?_
  refine Vw.istore_n (lv2 := [(0, _), (1, _), (2, _)]) (de_istore_2 (B 1 _ rfl)) rfl (by decide) [1, 2, 0] rfl (n := 2) rfl ?_
  refine Vw.iconst (v := 0) (de_iconst_0 (B 2 _ rfl)) rfl (n := 3) rfl ?_
  refine Vw.istore_n (lv2 := [(0, _), (1, _), (2, _), (3, _)]) (de_istore_3 (B 3 _ rfl)) rfl (by decide) [1, 2, 3, 0] rfl (n := 4) rfl ?_
  exact loop 0 (Nat.zero_le _)
theorem fitAt_q {K : Nat → Int32} {c q : Nat} (hq : q < 8) (h : K (32 + 8 * c + 4) = nI q) : fitAt K c = fitP (K (32 + 8 * c)) (K (32 + 8 * c + 1)) (perP K q) := by
  unfold fitAt wrN; rw [h, nI_cl (by omega)]
def outK (K : Nat → Int32) (c : Nat) : Int32 := if K (32 + 8 * c + 4) = -1 then 0 else if fitAt K c = 0 then 1 else 0
theorem outK_n {K : Nat → Int32} {c : Nat} (h : K (32 + 8 * c + 4) = -1) : outK K c = 0 := by unfold outK; rw [if_pos h]
theorem outK_f {K : Nat → Int32} {c : Nat} (h : ¬ fitAt K c = 0) : outK K c = 0 := by unfold outK; split <;> first | rfl | rw [if_neg h]
theorem outK_y {K : Nat → Int32} {c : Nat} (h1 : ¬ K (32 + 8 * c + 4) = -1) (h : fitAt K c = 0) : outK K c = 1 := by unfold outK; rw [if_neg h1, if_pos h]
theorem zl_m1 {n : Nat} : zLie (-1) 0 (nI n - 1) = 0 := by unfold zLie; rw [if_pos (by decide)]
theorem c_X9_isOutgrown {d : Nat} {S : vS} {I : vI} {L : vL} {Q : Int32 → vS → vI → vL → Prop} {t np nc c : Nat} {K : Nat → Int32} (hT : TownS S t) (hK : TR I t K np nc) (hN : TN K np nc) (hc : c < nc) (h : Q (outK K c) S I L) : Vc mX9_isOutgrown (d + 1) 0 0 [.ref t, .ref (t + 13 + c)] S I L (ViQ Q) := by
  refine Vc.of rfl (Nat.le_of_ble_eq_true rfl) ?_
  have B := bs_X9_isOutgrown
  show Vw mX9_isOutgrown (d + 1) 0 0 0 0 (ViQ Q) 0 [(0, .ref t), (1, .ref (t + 13 + c))] [] S I L
  have h8 := hN.1
  have h10 := hN.2.1
  rcases (hN.2.2.2.2 c hc).2.2 with hw | ⟨q, hq, hw⟩
  · skip
    refine Vw.aload_n (de_aload_0 (B 0 _ rfl)) 0 rfl (n := 1) rfl ?_
    refine Vw.aload_n (de_aload_1 (B 1 _ rfl)) 1 rfl (n := 2) rfl ?_
    refine Vw.getI (de_getfield (B 2 _ rfl) (B 3 _ rfl) (B 4 _ rfl)) fl_X9_59 rfl (hT.ck (show c < 10 by omega)) (n := 5) rfl ?_
    rw [hK.co hc (by decide), hw]
    refine Vw.ivi1 (mi' := mX9_hasPerson) (de_invokevirtual (B 5 _ rfl) (B 6 _ rfl) (B 7 _ rfl)) ml_X9_62 mv_X9_hasPerson hT.k (Nat.le_of_ble_eq_true rfl) (n := 8) rfl (c_X9_hasPerson hT hK.1 (by omega) ?_)
    rw [zl_m1]
    refine Vw.if_eq (tgt := 38) (n := 11) (de_if_eq (B 8 _ rfl) (B 9 _ rfl) (B 10 _ rfl)) rfl rfl (fun c_8 => ?_) (fun c_8 => ?_)
    · refine Vw.iconst (v := 0) (de_iconst_0 (B 38 _ rfl)) rfl (n := 39) rfl ?_
      exact Vw.zret (de_ireturn (B 39 _ rfl)) rfl rfl ⟨_, rfl, (qv (outK_n hw) h)⟩
    exact absurd rfl c_8
  · have nm : ¬ K (32 + 8 * c + 4) = -1 := by rw [hw]; exact nI_m1 (by omega)
    refine Vw.aload_n (de_aload_0 (B 0 _ rfl)) 0 rfl (n := 1) rfl ?_
    refine Vw.aload_n (de_aload_1 (B 1 _ rfl)) 1 rfl (n := 2) rfl ?_
    refine Vw.getI (de_getfield (B 2 _ rfl) (B 3 _ rfl) (B 4 _ rfl)) fl_X9_59 rfl (hT.ck (show c < 10 by omega)) (n := 5) rfl ?_
    rw [hK.co hc (by decide), hw]
    refine Vw.ivi1 (mi' := mX9_hasPerson) (de_invokevirtual (B 5 _ rfl) (B 6 _ rfl) (B 7 _ rfl)) ml_X9_62 mv_X9_hasPerson hT.k (Nat.le_of_ble_eq_true rfl) (n := 8) rfl (c_X9_hasPerson hT hK.1 (by omega) ?_)
    refine Vw.if_eq (tgt := 38) (n := 11) (de_if_eq (B 8 _ rfl) (B 9 _ rfl) (B 10 _ rfl)) rfl rfl (fun c_8 => ?_) (fun c_8 => ?_)
    · exact absurd ((lie_np (by omega) h8).mp c_8) (by omega)
    refine Vw.aload_n (de_aload_0 (B 11 _ rfl)) 0 rfl (n := 12) rfl ?_
    refine Vw.getR (de_getfield (B 12 _ rfl) (B 13 _ rfl) (B 14 _ rfl)) fl_X9_11 rfl hT.k hT.f0 (n := 15) rfl ?_
    refine Vw.aload_n (de_aload_1 (B 15 _ rfl)) 1 rfl (n := 16) rfl ?_
    refine Vw.getI (de_getfield (B 16 _ rfl) (B 17 _ rfl) (B 18 _ rfl)) fl_X9_59 rfl (hT.ck (show c < 10 by omega)) (n := 19) rfl ?_
    rw [hK.co hc (by decide), hw]
    refine Vw.aald3 (b := 0) (de_aaload (B 19 _ rfl)) hT.r0 (vIx_n (k := q) rfl (by omega)) (hT.pr (show q < 8 by omega)) (n := 20) rfl ?_
    refine Vw.aload_n (de_aload_1 (B 20 _ rfl)) 1 rfl (n := 21) rfl ?_
    refine Vw.getI (de_getfield (B 21 _ rfl) (B 22 _ rfl) (B 23 _ rfl)) fl_X9_66 rfl (hT.ck (show c < 10 by omega)) (n := 24) rfl ?_
    refine Vw.aload_n (de_aload_1 (B 24 _ rfl)) 1 rfl (n := 25) rfl ?_
    refine Vw.getI (de_getfield (B 25 _ rfl) (B 26 _ rfl) (B 27 _ rfl)) fl_X9_69 rfl (hT.ck (show c < 10 by omega)) (n := 28) rfl ?_
    rw [hK.co0 hc, hK.co hc (by decide)]
    refine Vw.ivi2 (mi' := mX3_fitsInto) (de_invokevirtual (B 28 _ rfl) (B 29 _ rfl) (B 30 _ rfl)) ml_X9_72 mv_X3_fitsInto (hT.pk (show q < 8 by omega)) (Nat.le_of_ble_eq_true rfl) (n := 31) rfl (c_X3_fitsInto (hT.pk (show q < 8 by omega)) ?_)
    rw [hK.per hq, ← fitAt_q (by omega) hw]
    refine Vw.if_ne (tgt := 38) (n := 34) (de_if_ne (B 31 _ rfl) (B 32 _ rfl) (B 33 _ rfl)) rfl rfl (fun c_31 => ?_) (fun c_31 => ?_)
    · refine Vw.iconst (v := 0) (de_iconst_0 (B 38 _ rfl)) rfl (n := 39) rfl ?_
      exact Vw.zret (de_ireturn (B 39 _ rfl)) rfl rfl ⟨_, rfl, (by first | exact qv (outK_f c_31) h | exact qv (outK_y nm c_31) h)⟩
    refine Vw.iconst (v := 1) (de_iconst_1 (B 34 _ rfl)) rfl (n := 35) rfl ?_
    refine Vw.goto_ (n := 39) (de_goto_ (B 35 _ rfl) (B 36 _ rfl) (B 37 _ rfl)) rfl ?_
    exact Vw.zret (de_ireturn (B 39 _ rfl)) rfl rfl ⟨_, rfl, (by first | exact qv (outK_f c_31) h | exact qv (outK_y nm c_31) h)⟩
theorem c_X9_payOf {d : Nat} {S : vS} {I : vI} {L : vL} {Q : Int32 → vS → vI → vL → Prop} {t s u lb np nc c : Nat} {K : Nat → Int32} {W : tW} (hT : TownS S t) (hK : TR I t K np nc) (hN : TN K np nc) (hc : c < nc) (hR : RulesS S u s) (hW : WC S I s lb W) (hD : Dj t s u lb) (h1 : K (32 + 8 * c + 4) = -1 → Q (-1) S I L) (h : ¬ K (32 + 8 * c + 4) = -1 → ∀ I2 M, Fr2 u I I2 → Lev u L M → Q (payAt W K c) S I2 M) : Vc mX9_payOf (d + 3) 0 0 [.ref t, .ref (t + 13 + c), .ref u] S I L (ViQ Q) := by
  refine Vc.of rfl (Nat.le_of_ble_eq_true rfl) ?_
  have B := bs_X9_payOf
  show Vw mX9_payOf (d + 3) 0 0 0 0 (ViQ Q) 0 [(0, .ref t), (1, .ref (t + 13 + c)), (2, .ref u)] [] S I L
  have h8 := hN.1
  have h10 := hN.2.1
  have nsu : s ≠ u := ne_k hR.p0.k hR.k (by decide)
  obtain ⟨dj1, dj2, dj3, dj4⟩ := hD
  rcases (hN.2.2.2.2 c hc).2.2 with hw | ⟨q, hq, hw⟩
  · skip
    refine Vw.aload_n (de_aload_0 (B 0 _ rfl)) 0 rfl (n := 1) rfl ?_
    refine Vw.aload_n (de_aload_1 (B 1 _ rfl)) 1 rfl (n := 2) rfl ?_
    refine Vw.getI (de_getfield (B 2 _ rfl) (B 3 _ rfl) (B 4 _ rfl)) fl_X9_59 rfl (hT.ck (show c < 10 by omega)) (n := 5) rfl ?_
    rw [hK.co hc (by decide), hw]
    refine Vw.ivi1 (mi' := mX9_hasPerson) (de_invokevirtual (B 5 _ rfl) (B 6 _ rfl) (B 7 _ rfl)) ml_X9_62 mv_X9_hasPerson hT.k (Nat.le_of_ble_eq_true rfl) (n := 8) rfl (c_X9_hasPerson hT hK.1 (by omega) ?_)
    rw [zl_m1]
    refine Vw.if_ne (tgt := 13) (n := 11) (de_if_ne (B 8 _ rfl) (B 9 _ rfl) (B 10 _ rfl)) rfl rfl (fun c_8 => ?_) (fun c_8 => ?_)
    · exact absurd rfl c_8
    refine Vw.iconst (v := -1) (de_iconst_m1 (B 11 _ rfl)) rfl (n := 12) rfl ?_
    exact Vw.iret (de_ireturn (B 12 _ rfl)) rfl ⟨_, rfl, (h1 hw)⟩
  · have nm : ¬ K (32 + 8 * c + 4) = -1 := by rw [hw]; exact nI_m1 (by omega)
    refine Vw.aload_n (de_aload_0 (B 0 _ rfl)) 0 rfl (n := 1) rfl ?_
    refine Vw.aload_n (de_aload_1 (B 1 _ rfl)) 1 rfl (n := 2) rfl ?_
    refine Vw.getI (de_getfield (B 2 _ rfl) (B 3 _ rfl) (B 4 _ rfl)) fl_X9_59 rfl (hT.ck (show c < 10 by omega)) (n := 5) rfl ?_
    rw [hK.co hc (by decide), hw]
    refine Vw.ivi1 (mi' := mX9_hasPerson) (de_invokevirtual (B 5 _ rfl) (B 6 _ rfl) (B 7 _ rfl)) ml_X9_62 mv_X9_hasPerson hT.k (Nat.le_of_ble_eq_true rfl) (n := 8) rfl (c_X9_hasPerson hT hK.1 (by omega) ?_)
    refine Vw.if_ne (tgt := 13) (n := 11) (de_if_ne (B 8 _ rfl) (B 9 _ rfl) (B 10 _ rfl)) rfl rfl (fun c_8 => ?_) (fun c_8 => ?_)
    · refine Vw.aload_n (de_aload_2 (B 13 _ rfl)) 2 rfl (n := 14) rfl ?_
      refine Vw.aload_n (de_aload_1 (B 14 _ rfl)) 1 rfl (n := 15) rfl ?_
      refine Vw.getI (de_getfield (B 15 _ rfl) (B 16 _ rfl) (B 17 _ rfl)) fl_X9_76 rfl (hT.ck (show c < 10 by omega)) (n := 18) rfl ?_
      refine Vw.aload_n (de_aload_1 (B 18 _ rfl)) 1 rfl (n := 19) rfl ?_
      refine Vw.getI (de_getfield (B 19 _ rfl) (B 20 _ rfl) (B 21 _ rfl)) fl_X9_66 rfl (hT.ck (show c < 10 by omega)) (n := 22) rfl ?_
      refine Vw.aload_n (de_aload_1 (B 22 _ rfl)) 1 rfl (n := 23) rfl ?_
      refine Vw.getI (de_getfield (B 23 _ rfl) (B 24 _ rfl) (B 25 _ rfl)) fl_X9_69 rfl (hT.ck (show c < 10 by omega)) (n := 26) rfl ?_
      rw [hK.co0 hc, hK.co hc (by decide), hK.co hc (by decide)]
      refine Vw.ivv3 (mi' := mX6_lookAtCoat) (de_invokevirtual (B 26 _ rfl) (B 27 _ rfl) (B 28 _ rfl)) ml_X9_79 mv_X6_lookAtCoat hR.k (Nat.le_of_ble_eq_true rfl) (n := 29) rfl (c_X6_lookAtCoat hR (fun I2 f2 a4 a5 a6 => ?_))
      have kU : TR I2 t K np nc := hK.of (fun b g1 g2 => f2 b (by omega)) h8 h10
      have wU : WC S I2 s lb W := hW.of (f2 s nsu) (fun b hb => f2 b (by omega))
      refine Vw.aload_n (de_aload_2 (B 29 _ rfl)) 2 rfl (n := 30) rfl ?_
      refine Vw.aload_n (de_aload_0 (B 30 _ rfl)) 0 rfl (n := 31) rfl ?_
      refine Vw.getR (de_getfield (B 31 _ rfl) (B 32 _ rfl) (B 33 _ rfl)) fl_X9_11 rfl hT.k hT.f0 (n := 34) rfl ?_
      refine Vw.aload_n (de_aload_1 (B 34 _ rfl)) 1 rfl (n := 35) rfl ?_
      refine Vw.getI (de_getfield (B 35 _ rfl) (B 36 _ rfl) (B 37 _ rfl)) fl_X9_59 rfl (hT.ck (show c < 10 by omega)) (n := 38) rfl ?_
      rw [kU.co hc (by decide), hw]
      refine Vw.aald3 (b := 0) (de_aaload (B 38 _ rfl)) hT.r0 (vIx_n (k := q) rfl (by omega)) (hT.pr (show q < 8 by omega)) (n := 39) rfl ?_
      refine Vw.aload_n (de_aload_1 (B 39 _ rfl)) 1 rfl (n := 40) rfl ?_
      refine Vw.getI (de_getfield (B 40 _ rfl) (B 41 _ rfl) (B 42 _ rfl)) fl_X9_59 rfl (hT.ck (show c < 10 by omega)) (n := 43) rfl ?_
      rw [kU.co hc (by decide), hw]
      refine Vw.aload_n (de_aload_0 (B 43 _ rfl)) 0 rfl (n := 44) rfl ?_
      refine Vw.getI (de_getfield (B 44 _ rfl) (B 45 _ rfl) (B 46 _ rfl)) fl_X9_39 rfl hT.k (n := 47) rfl ?_
      rw [kU.2.2.1]
      refine Vw.ivi3 (mi' := mX6_payBy) (de_invokevirtual (B 47 _ rfl) (B 48 _ rfl) (B 49 _ rfl)) ml_X9_85 mv_X6_payBy hR.k (Nat.le_of_ble_eq_true rfl) (n := 50) rfl (c_X6_payBy hR (hT.pk (show q < 8 by omega)) wU dj4 (fun I3 M f3 m3 => ?_))
      exact Vw.iret (de_ireturn (B 50 _ rfl)) rfl ⟨_, rfl, (by rw [kU.per hq, a4, a5, a6]; exact qv (payAt_q (by omega) hw) (h nm I3 M (fun b g1 g2 => (f3 b g2).trans (f2 b g1)) m3))⟩
    exact absurd ((lie_np (by omega) h8).mp c_8) (by omega)
theorem c_X9_wouldGet {d : Nat} {S : vS} {I : vI} {L : vL} {Q : Int32 → vS → vI → vL → Prop} {t s u lb np nc : Nat} {tl : Int32} {K : Nat → Int32} {W : tW} (hT : TownS S t) (hK : TR I t K np nc) (hN : TN K np nc) (hR : RulesS S u s) (hW : WC S I s lb W) (hD : Dj t s u lb) (h : ∀ I2 M, Fr2 u I I2 → Lev u L M → Q (wouldK W K tl nc) S I2 M) : Vc mX9_wouldGet (d + 4) 0 0 [.ref t, .int tl, .ref u] S I L (ViQ Q) := by
  refine Vc.of rfl (Nat.le_of_ble_eq_true rfl) ?_
  have B := bs_X9_wouldGet
  show Vw mX9_wouldGet (d + 4) 0 0 0 0 (ViQ Q) 0 [(0, .ref t), (1, .int tl), (2, .ref u)] [] S I L
  have h8 := hN.1
  have h10 := hN.2.1
  have nsu : s ≠ u := ne_k hR.p0.k hR.k (by decide)
  have nsu1 : s ≠ u + 1 := ne_k hR.p0.k (show (S.1 (u + 1)).1 = 100 by rw [hR.r1]) (by decide)
  have hD2 := hD
  obtain ⟨dj1, dj2, dj3, dj4⟩ := hD
  have loop : ∀ c, c ≤ nc → ∀ J M, Fr2 u I J → Lev u L M → Vw mX9_wouldGet (d + 4) 0 0 0 0 (ViQ Q) 5 [(0, .ref t), (1, .int tl), (2, .ref u), (3, .int (wouldK W K tl c)), (4, .int (nI c))] [] S J M := by
    refine loop_up (fun c hc ih => ?_)
    intro J M fJ fM
    have kJ : TR J t K np nc := hK.of (fun b g1 g2 => fJ b (by omega) (by omega)) h8 h10
    have wJ : WC S J s lb W := hW.of (fJ s nsu nsu1) (fun b hb => fJ b (by omega) (by omega))
    refine Vw.iload (de_iload (B 5 _ rfl) (B 6 _ rfl)) 4 rfl (n := 7) rfl ?_
    refine Vw.aload_n (de_aload_0 (B 7 _ rfl)) 0 rfl (n := 8) rfl ?_
    refine Vw.getI (de_getfield (B 8 _ rfl) (B 9 _ rfl) (B 10 _ rfl)) fl_X9_36 rfl hT.k (n := 11) rfl ?_
    rw [kJ.2.1]
    refine Vw.icmp_ge (tgt := 60) (n := 14) (de_icmp_ge (B 11 _ rfl) (B 12 _ rfl) (B 13 _ rfl)) rfl rfl (fun c_11 => ?_) (fun c_11 => ?_)
    · have z_11 : nc ≤ c := ((nI_leI (a := nc) (b := c) (by omega) (by omega)).mp c_11)
      obtain rfl : c = nc := by omega
      refine Vw.iload_n (de_iload_3 (B 60 _ rfl)) 3 rfl (n := 61) rfl ?_
      exact Vw.iret (de_ireturn (B 61 _ rfl)) rfl ⟨_, rfl, (h J M fJ fM)⟩
    have z_11 : c < nc := by rcases Nat.lt_or_ge c nc with z | z; exact z; exact absurd ((nI_leI (a := nc) (b := c) (by omega) (by omega)).mpr z) c_11
    refine Vw.aload_n (de_aload_0 (B 14 _ rfl)) 0 rfl (n := 15) rfl ?_
    refine Vw.aload_n (de_aload_0 (B 15 _ rfl)) 0 rfl (n := 16) rfl ?_
    refine Vw.getR (de_getfield (B 16 _ rfl) (B 17 _ rfl) (B 18 _ rfl)) fl_X9_19 rfl hT.k hT.f1 (n := 19) rfl ?_
    refine Vw.iload (de_iload (B 19 _ rfl) (B 20 _ rfl)) 4 rfl (n := 21) rfl ?_
    refine Vw.aald0 (b := 0) (de_aaload (B 21 _ rfl)) hT.r1 (vIx_n (k := c) rfl (by omega)) (hT.cr (show c < 10 by omega)) (n := 22) rfl ?_
    refine Vw.aload_n (de_aload_2 (B 22 _ rfl)) 2 rfl (n := 23) rfl ?_
    refine Vw.ivi2 (mi' := mX9_payOf) (de_invokevirtual (B 23 _ rfl) (B 24 _ rfl) (B 25 _ rfl)) ml_X9_89 mv_X9_payOf hT.k (Nat.le_of_ble_eq_true rfl) (n := 26) rfl (c_X9_payOf hT kJ hN z_11 hR wJ hD2 (fun g => ?_) (fun g I2 M2 f2 m2 => ?_))
    · refine Vw.istore (lv2 := [(0, _), (1, _), (2, _), (3, _), (4, _), (5, _)]) (de_istore (B 26 _ rfl) (B 27 _ rfl)) (by decide) [1, 2, 3, 4, 5, 0] rfl (n := 28) rfl ?_
      refine Vw.iload_n (de_iload_3 (B 28 _ rfl)) 3 rfl (n := 29) rfl ?_
      refine Vw.iload (de_iload (B 29 _ rfl) (B 30 _ rfl)) 5 rfl (n := 31) rfl ?_
      refine Vw.iconst (v := -1) (de_iconst_m1 (B 31 _ rfl)) rfl (n := 32) rfl ?_
      refine Vw.icmp_ne (tgt := 39) (n := 35) (de_icmp_ne (B 32 _ rfl) (B 33 _ rfl) (B 34 _ rfl)) rfl rfl (fun c_32 => ?_) (fun c_32 => ?_)
      · exact absurd c_32 (by decide)
      refine Vw.iconst (v := 0) (de_iconst_0 (B 35 _ rfl)) rfl (n := 36) rfl ?_
      refine Vw.goto_ (n := 52) (de_goto_ (B 36 _ rfl) (B 37 _ rfl) (B 38 _ rfl)) rfl ?_
      refine Vw.iadd (de_iadd (B 52 _ rfl)) (n := 53) rfl ?_
      refine Vw.istore_n (lv2 := [(0, _), (1, _), (2, _), (3, _), (4, _), (5, _)]) (de_istore_3 (B 53 _ rfl)) rfl (by decide) [1, 2, 3, 0, 4, 5] rfl (n := 54) rfl ?_
      refine Vw.iinc (v := nI (c + 1)) (lv2 := [(0, _), (1, _), (2, _), (3, _), (4, _), (5, _)]) (de_iinc (B 54 _ rfl) (B 55 _ rfl) (B 56 _ rfl)) 4 rfl (nI_1 c) (by decide) [1, 2, 3, 4, 0, 5] rfl (n := 57) rfl ?_
      refine Vw.goto_ (n := 5) (de_goto_ (B 57 _ rfl) (B 58 _ rfl) (B 59 _ rfl)) rfl ?_
      refine Vw.lvs (lv2 := [(0, _), (1, _), (2, _), (3, _), (4, _)]) [0, 1, 2, 3, 4] rfl ?_
      have z := ih z_11 J M fJ fM
      rw [wouldK, if_pos g] at z
      exact z
    · have kJ2 : TR I2 t K np nc := kJ.of (fun b g1 g2 => f2 b (by omega) (by omega)) h8 h10
      have pb := payP_b W (K (32 + 8 * c + 4)) (K (32 + 8 * c + 2)) (K (32 + 8 * c)) (K (32 + 8 * c + 1)) (K 121) (perP K (wrN K c))
      refine Vw.istore (lv2 := [(0, _), (1, _), (2, _), (3, _), (4, _), (5, _)]) (de_istore (B 26 _ rfl) (B 27 _ rfl)) (by decide) [1, 2, 3, 4, 5, 0] rfl (n := 28) rfl ?_
      refine Vw.iload_n (de_iload_3 (B 28 _ rfl)) 3 rfl (n := 29) rfl ?_
      refine Vw.iload (de_iload (B 29 _ rfl) (B 30 _ rfl)) 5 rfl (n := 31) rfl ?_
      refine Vw.iconst (v := -1) (de_iconst_m1 (B 31 _ rfl)) rfl (n := 32) rfl ?_
      refine Vw.icmp_ne (tgt := 39) (n := 35) (de_icmp_ne (B 32 _ rfl) (B 33 _ rfl) (B 34 _ rfl)) rfl rfl (fun c_32 => ?_) (fun c_32 => ?_)
      · refine Vw.aload_n (de_aload_0 (B 39 _ rfl)) 0 rfl (n := 40) rfl ?_
        refine Vw.getR (de_getfield (B 40 _ rfl) (B 41 _ rfl) (B 42 _ rfl)) fl_X9_19 rfl hT.k hT.f1 (n := 43) rfl ?_
        refine Vw.iload (de_iload (B 43 _ rfl) (B 44 _ rfl)) 4 rfl (n := 45) rfl ?_
        refine Vw.aald0 (b := 0) (de_aaload (B 45 _ rfl)) hT.r1 (vIx_n (k := c) rfl (by omega)) (hT.cr (show c < 10 by omega)) (n := 46) rfl ?_
        refine Vw.iload_n (de_iload_1 (B 46 _ rfl)) 1 rfl (n := 47) rfl ?_
        refine Vw.iload (de_iload (B 47 _ rfl) (B 48 _ rfl)) 5 rfl (n := 49) rfl ?_
        refine Vw.ivi2 (mi' := mX0_shareOf) (de_invokevirtual (B 49 _ rfl) (B 50 _ rfl) (B 51 _ rfl)) ml_X9_93 mv_X0_shareOf (hT.ck (show c < 10 by omega)) (Nat.le_of_ble_eq_true rfl) (n := 52) rfl (c_X0_shareOf (hT.ck (show c < 10 by omega)) pb ?_)
        refine Vw.iadd (de_iadd (B 52 _ rfl)) (n := 53) rfl ?_
        refine Vw.istore_n (lv2 := [(0, _), (1, _), (2, _), (3, _), (4, _), (5, _)]) (de_istore_3 (B 53 _ rfl)) rfl (by decide) [1, 2, 3, 0, 4, 5] rfl (n := 54) rfl ?_
        refine Vw.iinc (v := nI (c + 1)) (lv2 := [(0, _), (1, _), (2, _), (3, _), (4, _), (5, _)]) (de_iinc (B 54 _ rfl) (B 55 _ rfl) (B 56 _ rfl)) 4 rfl (nI_1 c) (by decide) [1, 2, 3, 4, 0, 5] rfl (n := 57) rfl ?_
        refine Vw.goto_ (n := 5) (de_goto_ (B 57 _ rfl) (B 58 _ rfl) (B 59 _ rfl)) rfl ?_
        refine Vw.lvs (lv2 := [(0, _), (1, _), (2, _), (3, _), (4, _)]) [0, 1, 2, 3, 4] rfl ?_
        rw [kJ2.co z_11 (by decide), kJ2.co z_11 (by decide)]
        have z := ih z_11 I2 M2 (fJ.trans f2) (fM.trans m2)
        rw [wouldK, if_neg g] at z
        exact z
      exact absurd (congrArg Int32.toInt c_32) (by show (payAt W K c).toInt ≠ -1; unfold payAt; omega)
  refine Vw.iconst (v := 0) (de_iconst_0 (B 0 _ rfl)) rfl (n := 1) rfl ?_
  refine Vw.istore_n (lv2 := [(0, _), (1, _), (2, _), (3, _)]) (de_istore_3 (B 1 _ rfl)) rfl (by decide) [1, 2, 3, 0] rfl (n := 2) rfl ?_
  refine Vw.iconst (v := 0) (de_iconst_0 (B 2 _ rfl)) rfl (n := 3) rfl ?_
  refine Vw.istore (lv2 := [(0, _), (1, _), (2, _), (3, _), (4, _)]) (de_istore (B 3 _ rfl) (B 4 _ rfl)) (by decide) [1, 2, 3, 4, 0] rfl (n := 5) rfl ?_
  exact loop 0 (Nat.zero_le _) I L (fun _ _ _ => rfl) Lev.rfl
