/-! playOut; the game's two forms -/
theorem ltI {a b : Nat} (ha : a < 100000) (hb : b < 100000) : nI a < nI b ↔ a < b := by
  refine ⟨fun h => Nat.lt_of_not_le (fun z => absurd ((nI_leI (a := b) (b := a) (by omega) (by omega)).mpr z) (Int32.not_le.mpr h)), fun h => Int32.not_le.mp (fun z => absurd ((nI_leI (a := b) (b := a) (by omega) (by omega)).mp z) (by omega))⟩
theorem fM_lt {f : Nat → Nat} : ∀ {j : Nat}, fM f j ≤ j
  | 0 => Nat.le_refl _
  | j + 1 => by have := fM_lt (f := f) (j := j); rw [fM]; split <;> omega
theorem bM_e (f : Nat → Nat) (j : Nat) : bM f (j + 1) = if bM f j ≤ f j then f j else bM f j := rfl
theorem fM_e (f : Nat → Nat) (j : Nat) : fM f (j + 1) = if bM f j < f j then j else fM f j := rfl
theorem bS_e (n : Nat) (f : Nat → Nat) (j : Nat) : bS n f (j + 1) = if f j ≤ bS n f j then f j else bS n f j := rfl
theorem bestJ_M {k n : Nat} {F : Nat → Int32} {f : Nat → Nat} (hn : n ≤ 8) (hk : k % 2 = 0) (h : ∀ j, F j = nI (f j) ∧ 1 ≤ f j ∧ f j ≤ n + 1) : ∀ {j : Nat}, j < 3 → bestJ k F (j + 1) = (nI (bM f (j + 1)), nI (fM f (j + 1)))
  | 0, _ => by
    have h0 := h 0
    rw [bestJ_y (k := k) (f := F) (j := 0) (Or.inl rfl), bM_e, fM_e, bM, if_pos (Nat.zero_le _), if_pos (by omega), h0.1, Int32.sub_add_cancel]
  | j + 1, hj => by
    have ih := bestJ_M hn hk h (j := j) (by omega)
    have h1 := h (j + 1)
    have hb := bM_le (n := n) (fun j => (h j).2.2) (j := j + 1)
    have hl := fM_lt (f := f) (j := j + 1)
    by_cases z : bM f (j + 1) < f (j + 1)
    · rw [bestJ_y (Or.inr (by rw [if_pos hk, ih, h1.1]; exact (ltI (by omega) (by omega)).mpr z)), bM_e f (j + 1), fM_e f (j + 1), h1.1, Int32.sub_add_cancel, if_pos (by omega), if_pos z]
    · rw [bestJ_n (by rw [ih]; exact nI_m1 (by omega)) (by rw [if_pos hk, ih, h1.1]; exact fun x => z ((ltI (by omega) (by omega)).mp x)), ih, bM_e f (j + 1), fM_e f (j + 1), if_neg z]
      by_cases y : bM f (j + 1) ≤ f (j + 1)
      · rw [if_pos y, show f (j + 1) = bM f (j + 1) by omega]
      · rw [if_neg y]
theorem bestJ_S {k n : Nat} {F : Nat → Int32} {f : Nat → Nat} (hn : n ≤ 8) (hk : ¬ k % 2 = 0) (h : ∀ j, F j = nI (f j) ∧ 1 ≤ f j ∧ f j ≤ n + 1) : ∀ {j : Nat}, j < 3 → (bestJ k F (j + 1)).1 = nI (bS n f (j + 1)) ∧ ∃ i, i ≤ 3 ∧ (bestJ k F (j + 1)).2 = nI i
  | 0, _ => by
    have h0 := h 0
    rw [bestJ_y (k := k) (f := F) (j := 0) (Or.inl rfl), bS_e, bS, if_pos (by omega), h0.1]
    exact ⟨rfl, 0, by decide, Int32.sub_add_cancel ..⟩
  | j + 1, hj => by
    obtain ⟨ih, i, hi, ei⟩ := bestJ_S hn hk h (j := j) (by omega)
    have h1 := h (j + 1)
    have hb := bS_le (n := n) (f := f) (j := j + 1)
    by_cases z : f (j + 1) < bS n f (j + 1)
    · rw [bestJ_y (Or.inr (by rw [if_neg hk, ih, h1.1]; exact (ltI (by omega) (by omega)).mpr z)), bS_e n f (j + 1), h1.1, if_pos (by omega)]
      exact ⟨rfl, j + 1, by omega, Int32.sub_add_cancel ..⟩
    · rw [bestJ_n (by rw [ei]; exact nI_m1 (by omega)) (by rw [if_neg hk, ih, h1.1]; exact fun x => z ((ltI (by omega) (by omega)).mp x))]
      refine ⟨?_, i, hi, ei⟩
      rw [ih, bS_e n f (j + 1)]
      by_cases y : f (j + 1) ≤ bS n f (j + 1)
      · rw [if_pos y, show f (j + 1) = bS n f (j + 1) by omega]
      · rw [if_neg y]
theorem playF_N {W : tW} {q now a b : Int32} {k n m : Nat} {P : tP} (hm : m ≤ n) (hk : k ≤ n) (h : ∀ P, playV W q now a b n m P = nI (plN W q now a b n m P)) (j : Nat) : playF W q now a b k (playV W q now a b n m) P j = nI (plF W q now a b k (plN W q now a b n m) P j) ∧ 1 ≤ plF W q now a b k (plN W q now a b n m) P j ∧ plF W q now a b k (plN W q now a b n m) P j ≤ n + 1 := by
  unfold playF plF
  by_cases z : fitP a b (stepP W q (now + nI k) (setF P (nI j - 1))) = 0
  · rw [if_pos z, if_pos z]; exact ⟨nI_1 k, by omega, by omega⟩
  · rw [if_neg z, if_neg z]; exact ⟨h _, plN_b hm⟩
theorem playV_N {W : tW} {q now a b : Int32} {n : Nat} (hn : n ≤ 8) : ∀ {m : Nat}, m ≤ n → ∀ P : tP, playV W q now a b n m P = nI (plN W q now a b n m P)
  | 0, _, P => by rw [playV, plN]; exact nI_1 n
  | m + 1, hm, P => by
    have hF := playF_N (W := W) (q := q) (now := now) (a := a) (b := b) (k := n - (m + 1)) (n := n) (m := m) (P := P) (by omega) (by omega) (playV_N hn (by omega))
    rw [playV, plN]
    by_cases z : (n - (m + 1)) % 2 = 0
    · rw [if_pos z, bestJ_M hn z hF (j := 2) (by decide)]
    · rw [if_neg z]; exact (bestJ_S hn z hF (j := 2) (by decide)).1
theorem playB_N {W : tW} {q now a b : Int32} {m : Nat} (hn : m + 1 ≤ 8) (P : tP) : playB W q now a b (m + 1) m P = nI (fM (plF W q now a b 0 (plN W q now a b (m + 1) m) P) 3) := by
  have hF := playF_N (W := W) (q := q) (now := now) (a := a) (b := b) (k := 0) (n := m + 1) (m := m) (P := P) (by omega) (by omega) (playV_N hn (by omega))
  unfold playB
  rw [show m + 1 - (m + 1) = 0 by omega, bestJ_M hn rfl hF (j := 2) (by decide)]
def FO (s : Nat) (I I2 : vI) : Prop := ∀ b i, b ≠ s + 28 → b ≠ s + 29 → ¬ (s + 34 ≤ b ∧ b ≤ s + 37) → ¬ (b = s + 33 ∧ i = 12) → I2 b i = I b i
theorem c_X4_play_n {d : Nat} {S : vS} {I : vI} {L : vL} {Q : Int32 → vS → vI → vL → Prop} {s lb np nc q c n : Nat} {K : Nat → Int32} {W : tW} {P : tP} (hN : TN K np nc) (hlb : s + 66 ≤ lb) (hn : n ≤ 8) (hc : c < nc) (hq : q < np) (hw : K (32 + 8 * c + 4) = nI q) (hp : PlanS S (s + 33) s (s + 28)) (hK : TR I (s + 1) K np nc) (hW : WC S I s lb W) (p1 : I (s + 35) 0 = P.1) (p2 : I (s + 36) 0 = P.2.1) (p3 : I (s + 37) 0 = P.2.2.1) (h : ∀ r I2 M, FG s 0 I I2 → Lev (s + 28) L M → r ≤ n + 2 → AB 0 (n + 1) r (plN W (nI q) (K 121) (K (32 + 8 * c)) (K (32 + 8 * c + 1)) n n P) → (∀ m2, n = m2 + 1 → 0 = 0 → 0 = 0 → n + 1 = n + 1 → I2 (s + 33) 12 = nI (fM (plF W (nI q) (K 121) (K (32 + 8 * c)) (K (32 + 8 * c + 1)) 0 (plN W (nI q) (K 121) (K (32 + 8 * c)) (K (32 + 8 * c + 1)) n m2) P) 3) - 1) → Q (nI r) S I2 M) : Vc mX4_play (d + 11) 0 0 [.ref (s + 33), .ref (s + 1 + 13 + c), .int 1, .int (nI n), .int 0, .int (nI (n + 1))] S I L (ViQ Q) := by
  have e := c_X4_play hN hlb hn hc hq hw n 0 (by omega) (d + (8 - n)) S I L Q 0 (n + 1) P hp hK hW (by omega) (Nat.le_refl _) p1 p2 p3 h
  rw [show d + (8 - n) + n + 3 = d + 11 by omega] at e
  exact e
theorem c_X4_playOut {d : Nat} {S : vS} {I : vI} {L : vL} {Q : Int32 → vS → vI → vL → Prop} {s lb np nc : Nat} {K : Nat → Int32} {W : tW} {q c n : Nat} (hp : PlanS S (s + 33) s (s + 28)) (hK : TR I (s + 1) K np nc) (hN : TN K np nc) (hW : WC S I s lb W) (hlb : s + 66 ≤ lb) (hn1 : 1 ≤ n) (hn : n ≤ 8) (hc : c < nc) (hq : q < np) (hw : K (32 + 8 * c + 4) = nI q) (h : ∀ I2 M, FO s I I2 → Lev (s + 28) L M → I2 (s + 33) 12 = playB W (nI q) (K 121) (K (32 + 8 * c)) (K (32 + 8 * c + 1)) n (n - 1) (perP K q) - 1 → Q (playV W (nI q) (K 121) (K (32 + 8 * c)) (K (32 + 8 * c + 1)) n n (perP K q)) S I2 M) : Vc mX4_playOut (d + 12) 0 0 [.ref (s + 33), .ref (s + 1 + 13 + c), .int (nI n)] S I L (ViQ Q) := by
  refine Vc.of rfl (Nat.le_of_ble_eq_true rfl) ?_
  have B := bs_X4_playOut
  show Vw mX4_playOut (d + 12) 0 0 0 0 (ViQ Q) 0 [(0, .ref (s + 33)), (1, .ref (s + 1 + 13 + c)), (2, .int (nI n))] [] S I L
  have h8 := hN.1
  have h10 := hN.2.1
  have hT := hp.p0.p0
  have hR := hp.p1
  refine Vw.aload_n (de_aload_0 (B 0 _ rfl)) 0 rfl (n := 1) rfl ?_
  refine Vw.getR (de_getfield (B 1 _ rfl) (B 2 _ rfl) (B 3 _ rfl)) fl_X4_12 rfl hp.k hp.f2 (n := 4) rfl ?_
  refine Vw.aload_n (de_aload_0 (B 4 _ rfl)) 0 rfl (n := 5) rfl ?_
  refine Vw.getR (de_getfield (B 5 _ rfl) (B 6 _ rfl) (B 7 _ rfl)) fl_X4_49 rfl hp.k hp.f0 (n := 8) rfl ?_
  refine Vw.getR (de_getfield (B 8 _ rfl) (B 9 _ rfl) (B 10 _ rfl)) fl_X4_57 rfl hp.p0.k hp.p0.f0 (n := 11) rfl ?_
  refine Vw.getR (de_getfield (B 11 _ rfl) (B 12 _ rfl) (B 13 _ rfl)) fl_X4_62 rfl hp.p0.p0.k hp.p0.p0.f0 (n := 14) rfl ?_
  refine Vw.aload_n (de_aload_1 (B 14 _ rfl)) 1 rfl (n := 15) rfl ?_
  refine Vw.getI (de_getfield (B 15 _ rfl) (B 16 _ rfl) (B 17 _ rfl)) fl_X4_129 rfl (hT.ck (show c < 10 by omega)) (n := 18) rfl ?_
  rw [hK.co hc (by decide), hw]
  refine Vw.aald3 (b := 0) (de_aaload (B 18 _ rfl)) hp.p0.p0.r0 (vIx_n (k := q) rfl (by omega)) (hT.pr (show q < 8 by omega)) (n := 19) rfl ?_
  refine Vw.ivv1 (mi' := mX3_copyFrom) (de_invokevirtual (B 19 _ rfl) (B 20 _ rfl) (B 21 _ rfl)) ml_X4_66 mv_X3_copyFrom hp.ko2 (Nat.le_of_ble_eq_true rfl) (n := 22) rfl (c_X3_copyFrom hp.ko2 (hT.pk (show q < 8 by omega)) (fun I2 f2 e2 => ?_))
  have z2 := perAe (show perA I2 (s + 34) = perP K q by rw [show s + 34 = s + 33 + 1 from rfl, e2, hK.per hq])
  refine Vw.aload_n (de_aload_0 (B 22 _ rfl)) 0 rfl (n := 23) rfl ?_
  refine Vw.iconst (v := 0) (de_iconst_0 (B 23 _ rfl)) rfl (n := 24) rfl ?_
  refine Vw.ivv1 (mi' := mX4_keep) (de_invokevirtual (B 24 _ rfl) (B 25 _ rfl) (B 26 _ rfl)) ml_X4_70 mv_X4_keep hp.k (Nat.le_of_ble_eq_true rfl) (n := 27) rfl (c_X4_keep (k := 0) hp (by decide) ?_)
  refine Vw.aload_n (de_aload_0 (B 27 _ rfl)) 0 rfl (n := 28) rfl ?_
  refine Vw.iconst (v := 0) (de_iconst_0 (B 28 _ rfl)) rfl (n := 29) rfl ?_
  refine Vw.putI (de_putfield (B 29 _ rfl) (B 30 _ rfl) (B 31 _ rfl)) fl_X4_186 hp.k rfl rfl (n := 32) rfl ?_
  refine Vw.aload_n (de_aload_0 (B 32 _ rfl)) 0 rfl (n := 33) rfl ?_
  refine Vw.aload_n (de_aload_1 (B 33 _ rfl)) 1 rfl (n := 34) rfl ?_
  refine Vw.iconst (v := 1) (de_iconst_1 (B 34 _ rfl)) rfl (n := 35) rfl ?_
  refine Vw.iload_n (de_iload_2 (B 35 _ rfl)) 2 rfl (n := 36) rfl ?_
  refine Vw.iconst (v := 0) (de_iconst_0 (B 36 _ rfl)) rfl (n := 37) rfl ?_
  refine Vw.iload_n (de_iload_2 (B 37 _ rfl)) 2 rfl (n := 38) rfl ?_
  refine Vw.iconst (v := 1) (de_iconst_1 (B 38 _ rfl)) rfl (n := 39) rfl ?_
  refine Vw.iadd (de_iadd (B 39 _ rfl)) (n := 40) rfl ?_
  rw [nI_1]
  have f1 : FG s 0 I2 (mKp I2 s 0) → True := fun _ => trivial
  have o2 : ∀ b i, b ≠ s + 34 → ¬ (s + 35 ≤ b ∧ b ≤ s + 37) → ¬ (b = s + 33 ∧ i = 12) → up2 (mKp I2 s 0) (s + 33) 12 0 b i = I b i := fun b i h1 h2 h3 => by rw [up2_ne h3, mKp_k (by omega), f2 b h1]
  have k3 : TR (up2 (mKp I2 s 0) (s + 33) 12 0) (s + 1) K np nc := hK.of (fun b g1 g2 => funext fun i => o2 b i (by omega) (by omega) (by omega)) h8 h10
  have w3 : WC S (up2 (mKp I2 s 0) (s + 33) 12 0) s lb W := hW.of (funext fun i => o2 s i (by omega) (by omega) (by omega)) (fun b hb => funext fun i => o2 b i (by omega) (by omega) (by omega))
  have r3 := mKp_r (I := I2) (s := s) (k := 0)
  refine Vw.ivi5 (mi' := mX4_play) (de_invokevirtual (B 40 _ rfl) (B 41 _ rfl) (B 42 _ rfl)) ml_X4_189 mv_X4_play hp.k (Nat.le_of_ble_eq_true rfl) (n := 43) rfl (c_X4_play_n hN hlb hn hc hq hw hp k3 w3 (by rw [up2_a (by omega), r3.1]; exact z2.1) (by rw [up2_a (by omega), r3.2.1]; exact z2.2.1) (by rw [up2_a (by omega), r3.2.2]; exact z2.2.2.1) (fun r I4 M4 f4 m4 hr4 ar4 fd4 => ?_))
  exact Vw.iret (de_ireturn (B 43 _ rfl)) rfl ⟨_, rfl, (by
    obtain ⟨m2, rfl⟩ : ∃ m2, n = m2 + 1 := ⟨n - 1, by omega⟩
    have er := ar4.ex (plN_b (Nat.le_refl _)).2
    have e := h I4 M4 (fun b i h1 h2 h3 h4 => (f4 b i h1 h2 (by omega) (by omega) (by omega)).trans (o2 b i (by omega) (by omega) h4)) m4 (by rw [show m2 + 1 - 1 = m2 by omega, playB_N hn]; exact fd4 m2 rfl rfl rfl rfl)
    rw [playV_N hn (Nat.le_refl _), ← er] at e
    exact e)⟩
