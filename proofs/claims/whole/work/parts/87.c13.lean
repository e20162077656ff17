/-! The planner -/
def FP (s : Nat) (I I2 : vI) : Prop := ∀ b, b ≠ s + 28 → b ≠ s + 29 → ¬ (s + 34 ≤ b ∧ b ≤ s + 37) → I2 b = I b
theorem FP.rfl {s : Nat} {I : vI} : FP s I I := fun _ _ _ _ => Eq.refl _
theorem FP.trans {s : Nat} {I I2 I3 : vI} (h : FP s I I2) (g : FP s I2 I3) : FP s I I3 := fun b h1 h2 h3 => (g b h1 h2 h3).trans (h b h1 h2 h3)
theorem FP.tr {s np nc : Nat} {I J : vI} {K : Nat → Int32} (f : FP s I J) (h : TR I (s + 1) K np nc) (h8 : np ≤ 8) (h10 : nc ≤ 10) : TR J (s + 1) K np nc := h.of (fun b g1 g2 => f b (by omega) (by omega) (by omega)) h8 h10
theorem FP.wc {S : vS} {s lb : Nat} {I J : vI} {W : tW} (f : FP s I J) (h : WC S I s lb W) (hl : s + 66 ≤ lb) : WC S J s lb W := h.of (f s (by omega) (by omega) (by omega)) (fun b hb => f b (by omega) (by omega) (by omega))
theorem Oa.fp {s a : Nat} {I J : vI} (h : Oa a I J) (ha : a = s + 28 ∨ a = s + 29 ∨ (s + 34 ≤ a ∧ a ≤ s + 37)) : FP s I J := fun b h1 h2 h3 => h b (by omega)
theorem Fr2.fp {s : Nat} {I J : vI} (h : Fr2 (s + 28) I J) : FP s I J := fun b h1 h2 _ => h b h1 h2
/-- the rows show one's way up to n ends -/
def PW (I : vI) (s : Nat) (f : Nat → tP) (n : Nat) : Prop := ∀ k, k ≤ n → I (s + 35) k = (f k).1 ∧ I (s + 36) k = (f k).2.1 ∧ I (s + 37) k = (f k).2.2.1
theorem PW.of {I J : vI} {s n : Nat} {f : Nat → tP} (h : PW I s f n) (e : ∀ b, s + 35 ≤ b → b ≤ s + 37 → J b = I b) : PW J s f n := fun k hk => by rw [e _ (by omega) (by omega), e _ (by omega) (by omega), e _ (by omega) (by omega)]; exact h k hk
def mKp (I : vI) (s k : Nat) : vI := up2 (up2 (up2 I (s + 35) k (I (s + 34) 0)) (s + 36) k (I (s + 34) 1)) (s + 37) k (I (s + 34) 2)
theorem mKp_fp {I : vI} {s k : Nat} : FP s I (mKp I s k) := fun b h1 h2 h3 => by unfold mKp; rw [up2_row (by omega), up2_row (by omega), up2_row (by omega)]
theorem mKp_o {I : vI} {s k b : Nat} (h : b < s + 35 ∨ s + 37 < b) : mKp I s k b = I b := by unfold mKp; rw [up2_row (by omega), up2_row (by omega), up2_row (by omega)]
theorem mKp_w {I : vI} {s n : Nat} {f : Nat → tP} (h : ∀ k, k < n → I (s + 35) k = (f k).1 ∧ I (s + 36) k = (f k).2.1 ∧ I (s + 37) k = (f k).2.2.1) (e : perA I (s + 34) = f n) : PW (mKp I s n) s f n := by
  intro k hk
  have z := perAe e
  unfold mKp
  by_cases g : k = n
  · subst g
    rw [up2_a (by omega), up2_a (by omega), up2_s, up2_a (by omega), up2_s, up2_s]
    exact ⟨z.1, z.2.1, z.2.2.1⟩
  · rw [up2_a (by omega), up2_a (by omega), up2_k g, up2_a (by omega), up2_k g, up2_a (by omega), up2_k g, up2_a (by omega), up2_a (by omega)]
    exact h k (by omega)
theorem c_X4_keep {d : Nat} {S : vS} {I : vI} {L : vL} {Q : vS → vI → vL → Prop} {s k : Nat} (hp : PlanS S (s + 33) s (s + 28)) (hk : k ≤ 80) (h : Q S (mKp I s k) L) : Vc mX4_keep d 0 0 [.ref (s + 33), .int (nI k)] S I L (VvQ Q) := by
  refine Vc.of rfl (Nat.le_of_ble_eq_true rfl) ?_
  have B := bs_X4_keep
  show Vw mX4_keep d 0 0 0 0 (VvQ Q) 0 [(0, .ref (s + 33)), (1, .int (nI k))] [] S I L
  refine Vw.aload_n (de_aload_0 (B 0 _ rfl)) 0 rfl (n := 1) rfl ?_
  refine Vw.getR (de_getfield (B 1 _ rfl) (B 2 _ rfl) (B 3 _ rfl)) fl_X4_18 rfl hp.k hp.f3 (n := 4) rfl ?_
  refine Vw.iload_n (de_iload_1 (B 4 _ rfl)) 1 rfl (n := 5) rfl ?_
  refine Vw.aload_n (de_aload_0 (B 5 _ rfl)) 0 rfl (n := 6) rfl ?_
  refine Vw.getR (de_getfield (B 6 _ rfl) (B 7 _ rfl) (B 8 _ rfl)) fl_X4_12 rfl hp.k hp.f2 (n := 9) rfl ?_
  refine Vw.getI (de_getfield (B 9 _ rfl) (B 10 _ rfl) (B 11 _ rfl)) fl_X4_84 rfl hp.ko2 (n := 12) rfl ?_
  refine Vw.iast (de_iastore (B 12 _ rfl)) hp.r3 (vIx_n (k := k) (by simp only [nI_A, nI_M, Int32.zero_add, Int32.add_zero] <;> rfl) (by omega)) (n := 13) rfl ?_
  refine Vw.aload_n (de_aload_0 (B 13 _ rfl)) 0 rfl (n := 14) rfl ?_
  refine Vw.getR (de_getfield (B 14 _ rfl) (B 15 _ rfl) (B 16 _ rfl)) fl_X4_22 rfl hp.k hp.f4 (n := 17) rfl ?_
  refine Vw.iload_n (de_iload_1 (B 17 _ rfl)) 1 rfl (n := 18) rfl ?_
  refine Vw.aload_n (de_aload_0 (B 18 _ rfl)) 0 rfl (n := 19) rfl ?_
  refine Vw.getR (de_getfield (B 19 _ rfl) (B 20 _ rfl) (B 21 _ rfl)) fl_X4_12 rfl hp.k hp.f2 (n := 22) rfl ?_
  refine Vw.getI (de_getfield (B 22 _ rfl) (B 23 _ rfl) (B 24 _ rfl)) fl_X4_87 rfl hp.ko2 (n := 25) rfl ?_
  rw [up2_a (show s + 33 + 1 ≠ s + 33 + 2 by omega)]
  refine Vw.iast (de_iastore (B 25 _ rfl)) hp.r4 (vIx_n (k := k) (by simp only [nI_A, nI_M, Int32.zero_add, Int32.add_zero] <;> rfl) (by omega)) (n := 26) rfl ?_
  refine Vw.aload_n (de_aload_0 (B 26 _ rfl)) 0 rfl (n := 27) rfl ?_
  refine Vw.getR (de_getfield (B 27 _ rfl) (B 28 _ rfl) (B 29 _ rfl)) fl_X4_25 rfl hp.k hp.f5 (n := 30) rfl ?_
  refine Vw.iload_n (de_iload_1 (B 30 _ rfl)) 1 rfl (n := 31) rfl ?_
  refine Vw.aload_n (de_aload_0 (B 31 _ rfl)) 0 rfl (n := 32) rfl ?_
  refine Vw.getR (de_getfield (B 32 _ rfl) (B 33 _ rfl) (B 34 _ rfl)) fl_X4_12 rfl hp.k hp.f2 (n := 35) rfl ?_
  refine Vw.getI (de_getfield (B 35 _ rfl) (B 36 _ rfl) (B 37 _ rfl)) fl_X4_90 rfl hp.ko2 (n := 38) rfl ?_
  rw [up2_a (show s + 33 + 1 ≠ s + 33 + 3 by omega), up2_a (show s + 33 + 1 ≠ s + 33 + 2 by omega)]
  refine Vw.iast (de_iastore (B 38 _ rfl)) hp.r5 (vIx_n (k := k) (by simp only [nI_A, nI_M, Int32.zero_add, Int32.add_zero] <;> rfl) (by omega)) (n := 39) rfl ?_
  exact Vw.vret (de_return_ (B 39 _ rfl)) rfl ⟨rfl, h⟩
theorem c_X4_standAt {d : Nat} {S : vS} {I : vI} {L : vL} {Q : vS → vI → vL → Prop} {s k : Nat} {f : Int32} (hp : PlanS S (s + 33) s (s + 28)) (hk : k ≤ 80) (h : ∀ I2, Oa (s + 34) I I2 → perA I2 (s + 34) = (I (s + 35) k, I (s + 36) k, I (s + 37) k, f) → Q S I2 L) : Vc mX4_standAt (d + 1) 0 0 [.ref (s + 33), .int (nI k), .int f] S I L (VvQ Q) := by
  refine Vc.of rfl (Nat.le_of_ble_eq_true rfl) ?_
  have B := bs_X4_standAt
  show Vw mX4_standAt (d + 1) 0 0 0 0 (VvQ Q) 0 [(0, .ref (s + 33)), (1, .int (nI k)), (2, .int f)] [] S I L
  refine Vw.aload_n (de_aload_0 (B 0 _ rfl)) 0 rfl (n := 1) rfl ?_
  refine Vw.getR (de_getfield (B 1 _ rfl) (B 2 _ rfl) (B 3 _ rfl)) fl_X4_12 rfl hp.k hp.f2 (n := 4) rfl ?_
  refine Vw.aload_n (de_aload_0 (B 4 _ rfl)) 0 rfl (n := 5) rfl ?_
  refine Vw.getR (de_getfield (B 5 _ rfl) (B 6 _ rfl) (B 7 _ rfl)) fl_X4_18 rfl hp.k hp.f3 (n := 8) rfl ?_
  refine Vw.iload_n (de_iload_1 (B 8 _ rfl)) 1 rfl (n := 9) rfl ?_
  refine Vw.iald (de_iaload (B 9 _ rfl)) hp.r3 (vIx_n (k := k) (by simp only [nI_A, nI_M, Int32.zero_add, Int32.add_zero] <;> rfl) (by omega)) (n := 10) rfl ?_
  refine Vw.aload_n (de_aload_0 (B 10 _ rfl)) 0 rfl (n := 11) rfl ?_
  refine Vw.getR (de_getfield (B 11 _ rfl) (B 12 _ rfl) (B 13 _ rfl)) fl_X4_22 rfl hp.k hp.f4 (n := 14) rfl ?_
  refine Vw.iload_n (de_iload_1 (B 14 _ rfl)) 1 rfl (n := 15) rfl ?_
  refine Vw.iald (de_iaload (B 15 _ rfl)) hp.r4 (vIx_n (k := k) (by simp only [nI_A, nI_M, Int32.zero_add, Int32.add_zero] <;> rfl) (by omega)) (n := 16) rfl ?_
  refine Vw.aload_n (de_aload_0 (B 16 _ rfl)) 0 rfl (n := 17) rfl ?_
  refine Vw.getR (de_getfield (B 17 _ rfl) (B 18 _ rfl) (B 19 _ rfl)) fl_X4_25 rfl hp.k hp.f5 (n := 20) rfl ?_
  refine Vw.iload_n (de_iload_1 (B 20 _ rfl)) 1 rfl (n := 21) rfl ?_
  refine Vw.iald (de_iaload (B 21 _ rfl)) hp.r5 (vIx_n (k := k) (by simp only [nI_A, nI_M, Int32.zero_add, Int32.add_zero] <;> rfl) (by omega)) (n := 22) rfl ?_
  refine Vw.iload_n (de_iload_2 (B 22 _ rfl)) 2 rfl (n := 23) rfl ?_
  refine Vw.ivv4 (mi' := mX3_set) (de_invokevirtual (B 23 _ rfl) (B 24 _ rfl) (B 25 _ rfl)) ml_X4_93 mv_X3_set hp.ko2 (Nat.le_of_ble_eq_true rfl) (n := 26) rfl (c_X3_set hp.ko2 (fun I2 f2 e2 => ?_))
  exact Vw.vret (de_return_ (B 26 _ rfl)) rfl ⟨rfl, (h I2 f2 e2)⟩
theorem c_X4_walk {d : Nat} {S : vS} {I : vI} {L : vL} {Q : vS → vI → vL → Prop} {s lb np nc : Nat} {K : Nat → Int32} {W : tW} {q n : Nat} (hp : PlanS S (s + 33) s (s + 28)) (hK : TR I (s + 1) K np nc) (hN : TN K np nc) (hW : WC S I s lb W) (hlb : s + 66 ≤ lb) (hq : q < np) (hn : n ≤ 80) (h : ∀ I2 M, FP s I I2 → Lev (s + 28) L M → PW I2 s (walkP W (nI q) (K 121) (perP K q)) n → perA I2 (s + 34) = walkP W (nI q) (K 121) (perP K q) n → Q S I2 M) : Vc mX4_walk (d + 3) 0 0 [.ref (s + 33), .int (nI q), .int (nI n)] S I L (VvQ Q) := by
  refine Vc.of rfl (Nat.le_of_ble_eq_true rfl) ?_
  have B := bs_X4_walk
  show Vw mX4_walk (d + 3) 0 0 0 0 (VvQ Q) 0 [(0, .ref (s + 33)), (1, .int (nI q)), (2, .int (nI n))] [] S I L
  have h8 := hN.1
  have h10 := hN.2.1
  have hT := hp.p0.p0
  have hR := hp.p1
  have loop : ∀ k, k ≤ n → ∀ J M, FP s I J → Lev (s + 28) L M → PW J s (walkP W (nI q) (K 121) (perP K q)) k → perA J (s + 34) = walkP W (nI q) (K 121) (perP K q) k → Vw mX4_walk (d + 3) 0 0 0 0 (VvQ Q) 26 [(0, .ref (s + 33)), (1, .int (nI q)), (2, .int (nI n)), (3, .int (nI (k + 1)))] [] S J M := by
    refine loop_up (fun k hk ih => ?_)
    intro J M fJ fM pJ oJ
    have kJ := fJ.tr hK h8 h10
    have wJ := fJ.wc hW hlb
    refine Vw.iload_n (de_iload_3 (B 26 _ rfl)) 3 rfl (n := 27) rfl ?_
    refine Vw.iload_n (de_iload_2 (B 27 _ rfl)) 2 rfl (n := 28) rfl ?_
    refine Vw.icmp_gt (tgt := 74) (n := 31) (de_icmp_gt (B 28 _ rfl) (B 29 _ rfl) (B 30 _ rfl)) rfl rfl (fun c_28 => ?_) (fun c_28 => ?_)
    · have z_28 : ¬ k + 1 ≤ n := fun z => absurd c_28 (Int32.not_lt.mpr ((nI_leI (a := k + 1) (b := n) (by omega) (by omega)).mpr z))
      obtain rfl : k = n := by omega
      exact Vw.vret (de_return_ (B 74 _ rfl)) rfl ⟨rfl, (h J M fJ fM pJ oJ)⟩
    have z_28 : k < n := (nI_leI (a := k + 1) (b := n) (by omega) (by omega)).mp (Int32.not_lt.mp c_28)
    refine Vw.iload_n (de_iload_3 (B 31 _ rfl)) 3 rfl (n := 32) rfl ?_
    refine Vw.bipush (v := 80) (de_bipush (B 32 _ rfl) (B 33 _ rfl)) rfl (n := 34) rfl ?_
    refine Vw.icmp_gt (tgt := 74) (n := 37) (de_icmp_gt (B 34 _ rfl) (B 35 _ rfl) (B 36 _ rfl)) rfl rfl (fun c_34 => ?_) (fun c_34 => ?_)
    · exact absurd ((nI_leI (a := k + 1) (b := 80) (by omega) (by omega)).mpr (by omega)) (Int32.not_le.mpr c_34)
    refine Vw.aload_n (de_aload_0 (B 37 _ rfl)) 0 rfl (n := 38) rfl ?_
    refine Vw.getR (de_getfield (B 38 _ rfl) (B 39 _ rfl) (B 40 _ rfl)) fl_X4_53 rfl hp.k hp.f1 (n := 41) rfl ?_
    refine Vw.aload_n (de_aload_0 (B 41 _ rfl)) 0 rfl (n := 42) rfl ?_
    refine Vw.getR (de_getfield (B 42 _ rfl) (B 43 _ rfl) (B 44 _ rfl)) fl_X4_12 rfl hp.k hp.f2 (n := 45) rfl ?_
    refine Vw.iload_n (de_iload_1 (B 45 _ rfl)) 1 rfl (n := 46) rfl ?_
    refine Vw.aload_n (de_aload_0 (B 46 _ rfl)) 0 rfl (n := 47) rfl ?_
    refine Vw.getR (de_getfield (B 47 _ rfl) (B 48 _ rfl) (B 49 _ rfl)) fl_X4_49 rfl hp.k hp.f0 (n := 50) rfl ?_
    refine Vw.getR (de_getfield (B 50 _ rfl) (B 51 _ rfl) (B 52 _ rfl)) fl_X4_57 rfl hp.p0.k hp.p0.f0 (n := 53) rfl ?_
    refine Vw.getI (de_getfield (B 53 _ rfl) (B 54 _ rfl) (B 55 _ rfl)) fl_X4_74 rfl hp.p0.p0.k (n := 56) rfl ?_
    rw [kJ.2.2.1]
    refine Vw.iload_n (de_iload_3 (B 56 _ rfl)) 3 rfl (n := 57) rfl ?_
    refine Vw.iadd (de_iadd (B 57 _ rfl)) (n := 58) rfl ?_
    refine Vw.iconst (v := 1) (de_iconst_1 (B 58 _ rfl)) rfl (n := 59) rfl ?_
    refine Vw.isub (de_isub (B 59 _ rfl)) (n := 60) rfl ?_
    rw [nw_m1]
    refine Vw.ivv3 (mi' := mX6_growOlder) (de_invokevirtual (B 60 _ rfl) (B 61 _ rfl) (B 62 _ rfl)) ml_X4_78 mv_X6_growOlder hp.p1.k (Nat.le_of_ble_eq_true rfl) (n := 63) rfl (c_X6_growOlder hR hp.ko2 wJ (by omega) (fun I3 M3 f3 m3 e3 => ?_))
    have e3b : perA I3 (s + 34) = walkP W (nI q) (K 121) (perP K q) (k + 1) := by rw [show s + 34 = s + 33 + 1 from rfl, e3, show s + 33 + 1 = s + 34 from rfl, oJ, walkP]
    refine Vw.aload_n (de_aload_0 (B 63 _ rfl)) 0 rfl (n := 64) rfl ?_
    refine Vw.iload_n (de_iload_3 (B 64 _ rfl)) 3 rfl (n := 65) rfl ?_
    refine Vw.ivv1 (mi' := mX4_keep) (de_invokevirtual (B 65 _ rfl) (B 66 _ rfl) (B 67 _ rfl)) ml_X4_70 mv_X4_keep hp.k (Nat.le_of_ble_eq_true rfl) (n := 68) rfl (c_X4_keep hp (by omega) ?_)
    refine Vw.iinc (v := nI (k + 1 + 1)) (lv2 := [(0, _), (1, _), (2, _), (3, _)]) (de_iinc (B 68 _ rfl) (B 69 _ rfl) (B 70 _ rfl)) 3 rfl (nI_1 (k + 1)) (by decide) [1, 2, 3, 0] rfl (n := 71) rfl ?_
    refine Vw.goto_ (n := 26) (de_goto_ (B 71 _ rfl) (B 72 _ rfl) (B 73 _ rfl)) rfl ?_
    have f3p : FP s J I3 := fun b g1 g2 g3 => f3 b (by omega) (by omega)
    exact ih z_28 _ M3 ((fJ.trans f3p).trans mKp_fp) (fM.trans m3) (mKp_w (fun i hi => by rw [f3 _ (by omega) (by omega), f3 _ (by omega) (by omega), f3 _ (by omega) (by omega)]; exact pJ i (by omega)) e3b) (by rw [perA_of (mKp_o (by omega))]; exact e3b)
  refine Vw.aload_n (de_aload_0 (B 0 _ rfl)) 0 rfl (n := 1) rfl ?_
  refine Vw.getR (de_getfield (B 1 _ rfl) (B 2 _ rfl) (B 3 _ rfl)) fl_X4_12 rfl hp.k hp.f2 (n := 4) rfl ?_
  refine Vw.aload_n (de_aload_0 (B 4 _ rfl)) 0 rfl (n := 5) rfl ?_
  refine Vw.getR (de_getfield (B 5 _ rfl) (B 6 _ rfl) (B 7 _ rfl)) fl_X4_49 rfl hp.k hp.f0 (n := 8) rfl ?_
  refine Vw.getR (de_getfield (B 8 _ rfl) (B 9 _ rfl) (B 10 _ rfl)) fl_X4_57 rfl hp.p0.k hp.p0.f0 (n := 11) rfl ?_
  refine Vw.getR (de_getfield (B 11 _ rfl) (B 12 _ rfl) (B 13 _ rfl)) fl_X4_62 rfl hp.p0.p0.k hp.p0.p0.f0 (n := 14) rfl ?_
  refine Vw.iload_n (de_iload_1 (B 14 _ rfl)) 1 rfl (n := 15) rfl ?_
  refine Vw.aald3 (b := 0) (de_aaload (B 15 _ rfl)) hp.p0.p0.r0 (vIx_n (k := q) rfl (by omega)) (hT.pr (show q < 8 by omega)) (n := 16) rfl ?_
  refine Vw.ivv1 (mi' := mX3_copyFrom) (de_invokevirtual (B 16 _ rfl) (B 17 _ rfl) (B 18 _ rfl)) ml_X4_66 mv_X3_copyFrom hp.ko2 (Nat.le_of_ble_eq_true rfl) (n := 19) rfl (c_X3_copyFrom hp.ko2 (hT.pk (show q < 8 by omega)) (fun I2 f2 e2 => ?_))
  refine Vw.aload_n (de_aload_0 (B 19 _ rfl)) 0 rfl (n := 20) rfl ?_
  refine Vw.iconst (v := 0) (de_iconst_0 (B 20 _ rfl)) rfl (n := 21) rfl ?_
  refine Vw.ivv1 (mi' := mX4_keep) (de_invokevirtual (B 21 _ rfl) (B 22 _ rfl) (B 23 _ rfl)) ml_X4_70 mv_X4_keep hp.k (Nat.le_of_ble_eq_true rfl) (n := 24) rfl (c_X4_keep (k := 0) hp (by decide) ?_)
  have e2b : perA I2 (s + 34) = walkP W (nI q) (K 121) (perP K q) 0 := by rw [show s + 34 = s + 33 + 1 from rfl, e2, hK.per hq]; rfl
  refine Vw.iconst (v := 1) (de_iconst_1 (B 24 _ rfl)) rfl (n := 25) rfl ?_
  refine Vw.istore_n (lv2 := [(0, _), (1, _), (2, _), (3, _)]) (de_istore_3 (B 25 _ rfl)) rfl (by decide) [1, 2, 3, 0] rfl (n := 26) rfl ?_
  exact loop 0 (Nat.zero_le _) _ L ((f2.fp (Or.inr (Or.inr ⟨by omega, by omega⟩))).trans mKp_fp) Lev.rfl (mKp_w (fun i hi => absurd hi (Nat.not_lt_zero _)) e2b) (by rw [perA_of (mKp_o (by omega))]; exact e2b)
theorem c_X4_firstTooSmall {d : Nat} {S : vS} {I : vI} {L : vL} {Q : Int32 → vS → vI → vL → Prop} {s n n2 : Nat} {a b : Int32} {f : Nat → tP} (hp : PlanS S (s + 33) s (s + 28)) (hP : PW I s f n2) (hn : n ≤ n2) (hn8 : n ≤ 80) (h : Q (dueP f a b n 1) S I L) : Vc mX4_firstTooSmall d 0 0 [.ref (s + 33), .int a, .int b, .int (nI n)] S I L (ViQ Q) := by
  refine Vc.of rfl (Nat.le_of_ble_eq_true rfl) ?_
  have B := bs_X4_firstTooSmall
  show Vw mX4_firstTooSmall d 0 0 0 0 (ViQ Q) 0 [(0, .ref (s + 33)), (1, .int a), (2, .int b), (3, .int (nI n))] [] S I L
  have loop : ∀ k, k ≤ n → dueP f a b n 1 = dueP f a b (n - k) (k + 1) → Vw mX4_firstTooSmall d 0 0 0 0 (ViQ Q) 3 [(0, .ref (s + 33)), (1, .int a), (2, .int b), (3, .int (nI n)), (4, .int (nI (k + 1)))] [] S I L := by
    refine loop_up (fun k hk ih => ?_)
    intro eD
    refine Vw.iload (de_iload (B 3 _ rfl) (B 4 _ rfl)) 4 rfl (n := 5) rfl ?_
    refine Vw.iload_n (de_iload_3 (B 5 _ rfl)) 3 rfl (n := 6) rfl ?_
    refine Vw.icmp_gt (tgt := 47) (n := 9) (de_icmp_gt (B 6 _ rfl) (B 7 _ rfl) (B 8 _ rfl)) rfl rfl (fun c_6 => ?_) (fun c_6 => ?_)
    · have z_6 : ¬ k + 1 ≤ n := fun z => absurd c_6 (Int32.not_lt.mpr ((nI_leI (a := k + 1) (b := n) (by omega) (by omega)).mpr z))
      obtain rfl : k = n := by omega
      rw [Nat.sub_self, dueP] at eD
      refine Vw.iconst (v := -1) (de_iconst_m1 (B 47 _ rfl)) rfl (n := 48) rfl ?_
      exact Vw.iret (de_ireturn (B 48 _ rfl)) rfl ⟨_, rfl, (qv eD h)⟩
    have z_6 : k < n := (nI_leI (a := k + 1) (b := n) (by omega) (by omega)).mp (Int32.not_lt.mp c_6)
    rw [show n - k = (n - (k + 1)) + 1 by omega, dueP] at eD
    refine Vw.iload (de_iload (B 9 _ rfl) (B 10 _ rfl)) 4 rfl (n := 11) rfl ?_
    refine Vw.bipush (v := 80) (de_bipush (B 11 _ rfl) (B 12 _ rfl)) rfl (n := 13) rfl ?_
    refine Vw.icmp_gt (tgt := 47) (n := 16) (de_icmp_gt (B 13 _ rfl) (B 14 _ rfl) (B 15 _ rfl)) rfl rfl (fun c_13 => ?_) (fun c_13 => ?_)
    · exact absurd ((nI_leI (a := k + 1) (b := 80) (by omega) (by omega)).mpr (by omega)) (Int32.not_le.mpr c_13)
    refine Vw.aload_n (de_aload_0 (B 16 _ rfl)) 0 rfl (n := 17) rfl ?_
    refine Vw.getR (de_getfield (B 17 _ rfl) (B 18 _ rfl) (B 19 _ rfl)) fl_X4_22 rfl hp.k hp.f4 (n := 20) rfl ?_
    refine Vw.iload (de_iload (B 20 _ rfl) (B 21 _ rfl)) 4 rfl (n := 22) rfl ?_
    refine Vw.iald (de_iaload (B 22 _ rfl)) hp.r4 (vIx_n (k := k + 1) (by simp only [nI_A, nI_M, Int32.zero_add, Int32.add_zero] <;> rfl) (by omega)) (n := 23) rfl ?_
    rw [show I (s + 33 + 3) (k + 1) = (f (k + 1)).2.1 from (hP (k + 1) (by omega)).2.1]
    refine Vw.iload_n (de_iload_1 (B 23 _ rfl)) 1 rfl (n := 24) rfl ?_
    refine Vw.icmp_gt (tgt := 38) (n := 27) (de_icmp_gt (B 24 _ rfl) (B 25 _ rfl) (B 26 _ rfl)) rfl rfl (fun c_24 => ?_) (fun c_24 => ?_)
    · refine Vw.iload (de_iload (B 38 _ rfl) (B 39 _ rfl)) 4 rfl (n := 40) rfl ?_
      exact Vw.iret (de_ireturn (B 40 _ rfl)) rfl ⟨_, rfl, (qv (by rw [eD, if_pos (by first | exact Or.inl c_24 | exact Or.inr (Int32.not_le.mp c_35))]) h)⟩
    refine Vw.aload_n (de_aload_0 (B 27 _ rfl)) 0 rfl (n := 28) rfl ?_
    refine Vw.getR (de_getfield (B 28 _ rfl) (B 29 _ rfl) (B 30 _ rfl)) fl_X4_25 rfl hp.k hp.f5 (n := 31) rfl ?_
    refine Vw.iload (de_iload (B 31 _ rfl) (B 32 _ rfl)) 4 rfl (n := 33) rfl ?_
    refine Vw.iald (de_iaload (B 33 _ rfl)) hp.r5 (vIx_n (k := k + 1) (by simp only [nI_A, nI_M, Int32.zero_add, Int32.add_zero] <;> rfl) (by omega)) (n := 34) rfl ?_
    rw [show I (s + 33 + 4) (k + 1) = (f (k + 1)).2.2.1 from (hP (k + 1) (by omega)).2.2]
    refine Vw.iload_n (de_iload_2 (B 34 _ rfl)) 2 rfl (n := 35) rfl ?_
    refine Vw.icmp_le (tgt := 41) (n := 38) (de_icmp_le (B 35 _ rfl) (B 36 _ rfl) (B 37 _ rfl)) rfl rfl (fun c_35 => ?_) (fun c_35 => ?_)
    · refine Vw.iinc (v := nI (k + 1 + 1)) (lv2 := [(0, _), (1, _), (2, _), (3, _), (4, _)]) (de_iinc (B 41 _ rfl) (B 42 _ rfl) (B 43 _ rfl)) 4 rfl (nI_1 (k + 1)) (by decide) [1, 2, 3, 4, 0] rfl (n := 44) rfl ?_
      refine Vw.goto_ (n := 3) (de_goto_ (B 44 _ rfl) (B 45 _ rfl) (B 46 _ rfl)) rfl ?_
      exact ih z_6 (by rw [eD, if_neg (fun z => z.elim c_24 (Int32.not_lt.mpr c_35))])
    refine Vw.iload (de_iload (B 38 _ rfl) (B 39 _ rfl)) 4 rfl (n := 40) rfl ?_
    exact Vw.iret (de_ireturn (B 40 _ rfl)) rfl ⟨_, rfl, (qv (by rw [eD, if_pos (by first | exact Or.inl c_24 | exact Or.inr (Int32.not_le.mp c_35))]) h)⟩
  refine Vw.iconst (v := 1) (de_iconst_1 (B 0 _ rfl)) rfl (n := 1) rfl ?_
  refine Vw.istore (lv2 := [(0, _), (1, _), (2, _), (3, _), (4, _)]) (de_istore (B 1 _ rfl) (B 2 _ rfl)) (by decide) [1, 2, 3, 4, 0] rfl (n := 3) rfl ?_
  exact loop 0 (Nat.zero_le _) rfl
theorem payP_c {W : tW} {p tl s w now : Int32} {P P2 : tP} (h1 : P.1 = P2.1) (h2 : P.2.2.2 = P2.2.2.2) : payP W p tl s w now P = payP W p tl s w now P2 := by unfold payP; rw [h1, h2]
theorem c_X4_payAt {d : Nat} {S : vS} {I : vI} {L : vL} {Q : Int32 → vS → vI → vL → Prop} {s lb np nc : Nat} {K : Nat → Int32} {W : tW} {q k n : Nat} (hp : PlanS S (s + 33) s (s + 28)) (hK : TR I (s + 1) K np nc) (hN : TN K np nc) (hW : WC S I s lb W) (hlb : s + 66 ≤ lb) (hq : q < np) (hP : PW I s (walkP W (nI q) (K 121) (perP K q)) n) (hk : k ≤ n) (hk8 : k ≤ 80) (h : ∀ I2 M, (∀ b, b ≠ s + 29 → b ≠ s + 34 → I2 b = I b) → Lev (s + 28) L M → Q (payP W (nI q) (I (s + 28) 4) (I (s + 28) 5) (I (s + 28) 6) (K 121 + nI k) (walkP W (nI q) (K 121) (perP K q) k)) S I2 M) : Vc mX4_payAt (d + 3) 0 0 [.ref (s + 33), .int (nI k), .int (nI q)] S I L (ViQ Q) := by
  refine Vc.of rfl (Nat.le_of_ble_eq_true rfl) ?_
  have B := bs_X4_payAt
  show Vw mX4_payAt (d + 3) 0 0 0 0 (ViQ Q) 0 [(0, .ref (s + 33)), (1, .int (nI k)), (2, .int (nI q))] [] S I L
  have h8 := hN.1
  have h10 := hN.2.1
  have hT := hp.p0.p0
  have hR := hp.p1
  refine Vw.aload_n (de_aload_0 (B 0 _ rfl)) 0 rfl (n := 1) rfl ?_
  refine Vw.iload_n (de_iload_1 (B 1 _ rfl)) 1 rfl (n := 2) rfl ?_
  refine Vw.aload_n (de_aload_0 (B 2 _ rfl)) 0 rfl (n := 3) rfl ?_
  refine Vw.getR (de_getfield (B 3 _ rfl) (B 4 _ rfl) (B 5 _ rfl)) fl_X4_49 rfl hp.k hp.f0 (n := 6) rfl ?_
  refine Vw.getR (de_getfield (B 6 _ rfl) (B 7 _ rfl) (B 8 _ rfl)) fl_X4_57 rfl hp.p0.k hp.p0.f0 (n := 9) rfl ?_
  refine Vw.getR (de_getfield (B 9 _ rfl) (B 10 _ rfl) (B 11 _ rfl)) fl_X4_62 rfl hp.p0.p0.k hp.p0.p0.f0 (n := 12) rfl ?_
  refine Vw.iload_n (de_iload_2 (B 12 _ rfl)) 2 rfl (n := 13) rfl ?_
  refine Vw.aald3 (b := 0) (de_aaload (B 13 _ rfl)) hp.p0.p0.r0 (vIx_n (k := q) rfl (by omega)) (hT.pr (show q < 8 by omega)) (n := 14) rfl ?_
  refine Vw.getI (de_getfield (B 14 _ rfl) (B 15 _ rfl) (B 16 _ rfl)) fl_X4_97 rfl (hT.pk (show q < 8 by omega)) (n := 17) rfl ?_
  rw [hK.2.2.2.1 q 3 hq (by decide)]
  refine Vw.ivv2 (mi' := mX4_standAt) (de_invokevirtual (B 17 _ rfl) (B 18 _ rfl) (B 19 _ rfl)) ml_X4_100 mv_X4_standAt hp.k (Nat.le_of_ble_eq_true rfl) (n := 20) rfl (c_X4_standAt hp hk8 (fun I2 f2 e2 => ?_))
  have f2p : FP s I I2 := f2.fp (Or.inr (Or.inr ⟨by omega, by omega⟩))
  refine Vw.aload_n (de_aload_0 (B 20 _ rfl)) 0 rfl (n := 21) rfl ?_
  refine Vw.getR (de_getfield (B 21 _ rfl) (B 22 _ rfl) (B 23 _ rfl)) fl_X4_53 rfl hp.k hp.f1 (n := 24) rfl ?_
  refine Vw.aload_n (de_aload_0 (B 24 _ rfl)) 0 rfl (n := 25) rfl ?_
  refine Vw.getR (de_getfield (B 25 _ rfl) (B 26 _ rfl) (B 27 _ rfl)) fl_X4_12 rfl hp.k hp.f2 (n := 28) rfl ?_
  refine Vw.iload_n (de_iload_2 (B 28 _ rfl)) 2 rfl (n := 29) rfl ?_
  refine Vw.aload_n (de_aload_0 (B 29 _ rfl)) 0 rfl (n := 30) rfl ?_
  refine Vw.getR (de_getfield (B 30 _ rfl) (B 31 _ rfl) (B 32 _ rfl)) fl_X4_49 rfl hp.k hp.f0 (n := 33) rfl ?_
  refine Vw.getR (de_getfield (B 33 _ rfl) (B 34 _ rfl) (B 35 _ rfl)) fl_X4_57 rfl hp.p0.k hp.p0.f0 (n := 36) rfl ?_
  refine Vw.getI (de_getfield (B 36 _ rfl) (B 37 _ rfl) (B 38 _ rfl)) fl_X4_74 rfl hp.p0.p0.k (n := 39) rfl ?_
  rw [(f2p.tr hK h8 h10).2.2.1]
  refine Vw.iload_n (de_iload_1 (B 39 _ rfl)) 1 rfl (n := 40) rfl ?_
  refine Vw.iadd (de_iadd (B 40 _ rfl)) (n := 41) rfl ?_
  refine Vw.ivi3 (mi' := mX6_payBy) (de_invokevirtual (B 41 _ rfl) (B 42 _ rfl) (B 43 _ rfl)) ml_X4_104 mv_X6_payBy hp.p1.k (Nat.le_of_ble_eq_true rfl) (n := 44) rfl (c_X6_payBy hR hp.ko2 (f2p.wc hW hlb) (by omega) (fun I3 M3 f3 m3 => ?_))
  exact Vw.iret (de_ireturn (B 44 _ rfl)) rfl ⟨_, rfl, (by have e := h I3 M3 (fun b g1 g2 => (f3 b g1).trans (f2 b g2)) m3; rw [f2 (s + 28) (by omega), show s + 33 + 1 = s + 34 from rfl, e2]; exact qv (payP_c (P := walkP W (nI q) (K 121) (perP K q) k) (hP k hk).1.symm (walkP_fed (k := k))) e)⟩
theorem c_X4_foodsThatMake {d : Nat} {S : vS} {I : vI} {L : vL} {Q : Int32 → vS → vI → vL → Prop} {s lb np nc : Nat} {K : Nat → Int32} {W : tW} {q n : Nat} {x : Int32} (hp : PlanS S (s + 33) s (s + 28)) (hK : TR I (s + 1) K np nc) (hN : TN K np nc) (hW : WC S I s lb W) (hlb : s + 66 ≤ lb) (hq : q < np) (hn : n ≤ 40) (h : ∀ I2 M, FP s I I2 → Lev (s + 28) L M → Q (fedB W K q n x 7) S I2 M) : Vc mX4_foodsThatMake (d + 3) 0 0 [.ref (s + 33), .int (nI q), .int (nI n), .int x] S I L (ViQ Q) := by
  refine Vc.of rfl (Nat.le_of_ble_eq_true rfl) ?_
  have B := bs_X4_foodsThatMake
  show Vw mX4_foodsThatMake (d + 3) 0 0 0 0 (ViQ Q) 0 [(0, .ref (s + 33)), (1, .int (nI q)), (2, .int (nI n)), (3, .int x)] [] S I L
  have h8 := hN.1
  have h10 := hN.2.1
  have hT := hp.p0.p0
  have hR := hp.p1
  have loop : ∀ f, f ≤ 7 → ∀ J M, FP s I J → Lev (s + 28) L M → Vw mX4_foodsThatMake (d + 3) 0 0 0 0 (ViQ Q) 7 [(0, .ref (s + 33)), (1, .int (nI q)), (2, .int (nI n)), (3, .int x), (4, .int (fedB W K q n x f)), (5, .int (nI f - 3))] [] S J M := by
    refine loop_up (fun f hf ih => ?_)
    intro J M fJ fM
    have inner : f < 7 → ∀ k, k ≤ n → ∀ J M, FP s I J → Lev (s + 28) L M → perA J (s + 34) = walkP W (nI q) (K 121) (setF (perP K q) (nI f - 3)) k → Vw mX4_foodsThatMake (d + 3) 0 0 0 0 (ViQ Q) 44 [(0, .ref (s + 33)), (1, .int (nI q)), (2, .int (nI n)), (3, .int x), (4, .int (fedB W K q n x f)), (5, .int (nI f - 3)), (6, .int (nI k))] [] S J M := by
      intro hf7
      refine loop_up (fun k hk ih2 => ?_)
      intro J M fJ fM oJ
      have kJ := fJ.tr hK h8 h10
      have wJ := fJ.wc hW hlb
      refine Vw.iload (de_iload (B 44 _ rfl) (B 45 _ rfl)) 6 rfl (n := 46) rfl ?_
      refine Vw.iload_n (de_iload_2 (B 46 _ rfl)) 2 rfl (n := 47) rfl ?_
      refine Vw.icmp_ge (tgt := 81) (n := 50) (de_icmp_ge (B 47 _ rfl) (B 48 _ rfl) (B 49 _ rfl)) rfl rfl (fun c_47 => ?_) (fun c_47 => ?_)
      · have z_47 : n ≤ k := ((nI_leI (a := n) (b := k) (by omega) (by omega)).mp c_47)
        obtain rfl : k = n := by omega
        refine Vw.aload_n (de_aload_0 (B 81 _ rfl)) 0 rfl (n := 82) rfl ?_
        refine Vw.getR (de_getfield (B 82 _ rfl) (B 83 _ rfl) (B 84 _ rfl)) fl_X4_12 rfl hp.k hp.f2 (n := 85) rfl ?_
        refine Vw.getI (de_getfield (B 85 _ rfl) (B 86 _ rfl) (B 87 _ rfl)) fl_X4_90 rfl hp.ko2 (n := 88) rfl ?_
        rw [show J (s + 33 + 1) 2 = _ from (perAe oJ).2.2.1]
        refine Vw.iload_n (de_iload_3 (B 88 _ rfl)) 3 rfl (n := 89) rfl ?_
        refine Vw.icmp_ne (tgt := 103) (n := 92) (de_icmp_ne (B 89 _ rfl) (B 90 _ rfl) (B 91 _ rfl)) rfl rfl (fun c_89 => ?_) (fun c_89 => ?_)
        · refine Vw.iinc (v := nI (f + 1) - 3) (lv2 := [(0, _), (1, _), (2, _), (3, _), (4, _), (5, _), (6, _)]) (de_iinc (B 103 _ rfl) (B 104 _ rfl) (B 105 _ rfl)) 5 rfl (f3_1 f) (by decide) [1, 2, 3, 4, 5, 0, 6] rfl (n := 106) rfl ?_
          refine Vw.goto_ (n := 7) (de_goto_ (B 106 _ rfl) (B 107 _ rfl) (B 108 _ rfl)) rfl ?_
          refine Vw.lvs (lv2 := [(0, _), (1, _), (2, _), (3, _), (4, _), (5, _)]) [0, 1, 2, 3, 4, 5] rfl ?_
          have g := ih hf7 J M fJ fM
          rw [fedB] at g
          first
          | (rw [if_pos c_89] at g; exact g)
          | (rw [if_neg c_89, Int32.or_zero] at g; exact g)
        refine Vw.iload (de_iload (B 92 _ rfl) (B 93 _ rfl)) 4 rfl (n := 94) rfl ?_
        refine Vw.iconst (v := 1) (de_iconst_1 (B 94 _ rfl)) rfl (n := 95) rfl ?_
        refine Vw.iload (de_iload (B 95 _ rfl) (B 96 _ rfl)) 5 rfl (n := 97) rfl ?_
        refine Vw.iconst (v := 3) (de_iconst_3 (B 97 _ rfl)) rfl (n := 98) rfl ?_
        refine Vw.iadd (de_iadd (B 98 _ rfl)) (n := 99) rfl ?_
        refine Vw.ishl (de_ishl (B 99 _ rfl)) (n := 100) rfl ?_
        refine Vw.ior (de_ior (B 100 _ rfl)) (n := 101) rfl ?_
        refine Vw.istore (lv2 := [(0, _), (1, _), (2, _), (3, _), (4, _), (5, _), (6, _)]) (de_istore (B 101 _ rfl) (B 102 _ rfl)) (by decide) [1, 2, 3, 4, 0, 5, 6] rfl (n := 103) rfl ?_
        refine Vw.iinc (v := nI (f + 1) - 3) (lv2 := [(0, _), (1, _), (2, _), (3, _), (4, _), (5, _), (6, _)]) (de_iinc (B 103 _ rfl) (B 104 _ rfl) (B 105 _ rfl)) 5 rfl (f3_1 f) (by decide) [1, 2, 3, 4, 5, 0, 6] rfl (n := 106) rfl ?_
        refine Vw.goto_ (n := 7) (de_goto_ (B 106 _ rfl) (B 107 _ rfl) (B 108 _ rfl)) rfl ?_
        refine Vw.lvs (lv2 := [(0, _), (1, _), (2, _), (3, _), (4, _), (5, _)]) [0, 1, 2, 3, 4, 5] rfl ?_
        have g := ih hf7 J M fJ fM
        rw [fedB] at g
        first
        | (rw [if_pos c_89] at g; exact g)
        | (rw [if_neg c_89, Int32.or_zero] at g; exact g)
      have z_47 : k < n := by rcases Nat.lt_or_ge k n with z | z; exact z; exact absurd ((nI_leI (a := n) (b := k) (by omega) (by omega)).mpr z) c_47
      refine Vw.aload_n (de_aload_0 (B 50 _ rfl)) 0 rfl (n := 51) rfl ?_
      refine Vw.getR (de_getfield (B 51 _ rfl) (B 52 _ rfl) (B 53 _ rfl)) fl_X4_53 rfl hp.k hp.f1 (n := 54) rfl ?_
      refine Vw.aload_n (de_aload_0 (B 54 _ rfl)) 0 rfl (n := 55) rfl ?_
      refine Vw.getR (de_getfield (B 55 _ rfl) (B 56 _ rfl) (B 57 _ rfl)) fl_X4_12 rfl hp.k hp.f2 (n := 58) rfl ?_
      refine Vw.iload_n (de_iload_1 (B 58 _ rfl)) 1 rfl (n := 59) rfl ?_
      refine Vw.aload_n (de_aload_0 (B 59 _ rfl)) 0 rfl (n := 60) rfl ?_
      refine Vw.getR (de_getfield (B 60 _ rfl) (B 61 _ rfl) (B 62 _ rfl)) fl_X4_49 rfl hp.k hp.f0 (n := 63) rfl ?_
      refine Vw.getR (de_getfield (B 63 _ rfl) (B 64 _ rfl) (B 65 _ rfl)) fl_X4_57 rfl hp.p0.k hp.p0.f0 (n := 66) rfl ?_
      refine Vw.getI (de_getfield (B 66 _ rfl) (B 67 _ rfl) (B 68 _ rfl)) fl_X4_74 rfl hp.p0.p0.k (n := 69) rfl ?_
      rw [kJ.2.2.1]
      refine Vw.iload (de_iload (B 69 _ rfl) (B 70 _ rfl)) 6 rfl (n := 71) rfl ?_
      refine Vw.iadd (de_iadd (B 71 _ rfl)) (n := 72) rfl ?_
      refine Vw.ivv3 (mi' := mX6_growOlder) (de_invokevirtual (B 72 _ rfl) (B 73 _ rfl) (B 74 _ rfl)) ml_X4_78 mv_X6_growOlder hp.p1.k (Nat.le_of_ble_eq_true rfl) (n := 75) rfl (c_X6_growOlder hR hp.ko2 wJ (by omega) (fun I3 M3 f3 m3 e3 => ?_))
      refine Vw.iinc (v := nI (k + 1)) (lv2 := [(0, _), (1, _), (2, _), (3, _), (4, _), (5, _), (6, _)]) (de_iinc (B 75 _ rfl) (B 76 _ rfl) (B 77 _ rfl)) 6 rfl (nI_1 k) (by decide) [1, 2, 3, 4, 5, 6, 0] rfl (n := 78) rfl ?_
      refine Vw.goto_ (n := 44) (de_goto_ (B 78 _ rfl) (B 79 _ rfl) (B 80 _ rfl)) rfl ?_
      exact ih2 z_47 I3 M3 (fJ.trans (fun b g1 g2 g3 => f3 b (by omega) (by omega))) (fM.trans m3) (by rw [show s + 34 = s + 33 + 1 from rfl, e3, show s + 33 + 1 = s + 34 from rfl, oJ, walkP])
    refine Vw.iload (de_iload (B 7 _ rfl) (B 8 _ rfl)) 5 rfl (n := 9) rfl ?_
    refine Vw.iconst (v := 3) (de_iconst_3 (B 9 _ rfl)) rfl (n := 10) rfl ?_
    refine Vw.icmp_gt (tgt := 109) (n := 13) (de_icmp_gt (B 10 _ rfl) (B 11 _ rfl) (B 12 _ rfl)) rfl rfl (fun c_10 => ?_) (fun c_10 => ?_)
    · obtain rfl := (f3_le hf).mp c_10
      refine Vw.iload (de_iload (B 109 _ rfl) (B 110 _ rfl)) 4 rfl (n := 111) rfl ?_
      exact Vw.iret (de_ireturn (B 111 _ rfl)) rfl ⟨_, rfl, (h J M fJ fM)⟩
    have hf7 : f < 7 := by rcases Nat.lt_or_ge f 7 with z | z; exact z; exact absurd ((f3_le hf).mpr (by omega)) c_10
    refine Vw.aload_n (de_aload_0 (B 13 _ rfl)) 0 rfl (n := 14) rfl ?_
    refine Vw.getR (de_getfield (B 14 _ rfl) (B 15 _ rfl) (B 16 _ rfl)) fl_X4_12 rfl hp.k hp.f2 (n := 17) rfl ?_
    refine Vw.aload_n (de_aload_0 (B 17 _ rfl)) 0 rfl (n := 18) rfl ?_
    refine Vw.getR (de_getfield (B 18 _ rfl) (B 19 _ rfl) (B 20 _ rfl)) fl_X4_49 rfl hp.k hp.f0 (n := 21) rfl ?_
    refine Vw.getR (de_getfield (B 21 _ rfl) (B 22 _ rfl) (B 23 _ rfl)) fl_X4_57 rfl hp.p0.k hp.p0.f0 (n := 24) rfl ?_
    refine Vw.getR (de_getfield (B 24 _ rfl) (B 25 _ rfl) (B 26 _ rfl)) fl_X4_62 rfl hp.p0.p0.k hp.p0.p0.f0 (n := 27) rfl ?_
    refine Vw.iload_n (de_iload_1 (B 27 _ rfl)) 1 rfl (n := 28) rfl ?_
    refine Vw.aald3 (b := 0) (de_aaload (B 28 _ rfl)) hp.p0.p0.r0 (vIx_n (k := q) rfl (by omega)) (hT.pr (show q < 8 by omega)) (n := 29) rfl ?_
    refine Vw.ivv1 (mi' := mX3_copyFrom) (de_invokevirtual (B 29 _ rfl) (B 30 _ rfl) (B 31 _ rfl)) ml_X4_66 mv_X3_copyFrom hp.ko2 (Nat.le_of_ble_eq_true rfl) (n := 32) rfl (c_X3_copyFrom hp.ko2 (hT.pk (show q < 8 by omega)) (fun I3 f3 e3 => ?_))
    refine Vw.aload_n (de_aload_0 (B 32 _ rfl)) 0 rfl (n := 33) rfl ?_
    refine Vw.getR (de_getfield (B 33 _ rfl) (B 34 _ rfl) (B 35 _ rfl)) fl_X4_12 rfl hp.k hp.f2 (n := 36) rfl ?_
    refine Vw.iload (de_iload (B 36 _ rfl) (B 37 _ rfl)) 5 rfl (n := 38) rfl ?_
    refine Vw.putI (de_putfield (B 38 _ rfl) (B 39 _ rfl) (B 40 _ rfl)) fl_X4_97 hp.ko2 rfl rfl (n := 41) rfl ?_
    refine Vw.iconst (v := 0) (de_iconst_0 (B 41 _ rfl)) rfl (n := 42) rfl ?_
    refine Vw.istore (lv2 := [(0, _), (1, _), (2, _), (3, _), (4, _), (5, _), (6, _)]) (de_istore (B 42 _ rfl) (B 43 _ rfl)) (by decide) [1, 2, 3, 4, 5, 6, 0] rfl (n := 44) rfl ?_
    refine inner hf7 0 (Nat.zero_le _) _ M ((fJ.trans (f3.fp (Or.inr (Or.inr ⟨by omega, by omega⟩)))).trans (fun b g1 g2 g3 => up2_row (by omega))) fM ?_
    have z := perAe (e3.trans ((fJ.tr hK h8 h10).per hq))
    unfold perA
    rw [show s + 34 = s + 33 + 1 from rfl, up2_k (by decide), up2_k (by decide), up2_k (by decide), up2_s, z.1, z.2.1, z.2.2.1]
    rfl
  refine Vw.iconst (v := 0) (de_iconst_0 (B 0 _ rfl)) rfl (n := 1) rfl ?_
  refine Vw.istore (lv2 := [(0, _), (1, _), (2, _), (3, _), (4, _)]) (de_istore (B 1 _ rfl) (B 2 _ rfl)) (by decide) [1, 2, 3, 4, 0] rfl (n := 3) rfl ?_
  refine Vw.bipush (v := -3) (de_bipush (B 3 _ rfl) (B 4 _ rfl)) rfl (n := 5) rfl ?_
  refine Vw.istore (lv2 := [(0, _), (1, _), (2, _), (3, _), (4, _), (5, _)]) (de_istore (B 5 _ rfl) (B 6 _ rfl)) (by decide) [1, 2, 3, 4, 5, 0] rfl (n := 7) rfl ?_
  exact loop 0 (Nat.zero_le _) I L FP.rfl Lev.rfl
