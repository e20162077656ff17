/-! Hidden feasts in the class -/
theorem okS_far {K : Nat → Int32} {q : Int32} {k ns : Nat} {w : Int32} (hk : k < 100000) (hb : SB K ns) : ∀ i, i ≤ ns → lastN K q i < k → okS K q (nI k) w i = true
  | 0, _, _ => rfl
  | i + 1, hi, hl => by
    obtain ⟨e, h1, h2, h3⟩ := hb i (by omega)
    rw [lastN, h3, nI_cl (by omega)] at hl
    by_cases z : K (122 + 3 * i + 1) = q
    · rw [if_pos z] at hl
      have hm : lastN K q i < k ∧ e < k := by split at hl <;> omega
      refine okS_y (okS_far hk hb i (by omega) hm.1) (Or.inl fun y => ?_)
      rw [h3] at y
      have := nI_inj (by omega) (by omega) y
      omega
    · rw [if_neg z] at hl
      exact okS_y (okS_far hk hb i (by omega) hl) (Or.inr (Or.inl z))
theorem soK_ext {W : tW} {K : Nat → Int32} {q ns : Nat} {f : Int32} (hb : SB K ns) : ∀ {t : Nat}, t < 100000 → lastN K (nI q) ns ≤ t → soK W K q f ns t = soK W K q f ns (lastN K (nI q) ns)
  | 0, _, h => by rw [show lastN K (nI q) ns = 0 by omega]
  | t + 1, ht, h => by
    rcases Nat.lt_or_ge (lastN K (nI q) ns) (t + 1) with z | z
    · rw [soK, okS_far ht hb ns (Nat.le_refl _) z, Bool.and_true, soK_ext hb (by omega) (by omega)]
    · rw [show lastN K (nI q) ns = t + 1 by omega]
theorem walkF_m1 {W : tW} {p now : Int32} {P : tP} : ∀ {k : Nat}, k < 100000 → walkF W p now P (-1) k = walkP W p now P k
  | 0, _ => rfl
  | k + 1, h => by rw [walkF, walkP, if_neg (show ¬ nI (k + 1) = -1 from fun z => by have y := congrArg Int32.toNatClampNeg z; rw [nI_cl (by omega)] at y; exact absurd y (Nat.succ_ne_zero k)), walkF_m1 (by omega)]
theorem soK_m1 {W : tW} {K : Nat → Int32} {q ns : Nat} : ∀ {k : Nat}, k < 100000 → soK W K q (-1) ns k = sawK (walkP W (nI q) (K 121) (perP K q)) K q ns k
  | 0, _ => rfl
  | k + 1, h => by rw [soK, sawK, soK_m1 (by omega), walkF_m1 (by omega)]
def ftB (f : Nat → Bool) : Nat → Int32
  | 0 => 0
  | j + 1 => ftB f j ||| (if f j = true then (1 : Int32) <<< (nI j &&& 31) else 0)
theorem ftB_t {f : Nat → Bool} {q : Nat} (h : ¬ bI (f q) = 0) : ftB f (q + 1) = ftB f q ||| 1 <<< (nI q &&& 31) := by
  rw [ftB]; cases e : f q with
  | true => rw [if_pos rfl]
  | false => rw [e] at h; exact absurd rfl h
theorem ftB_f {f : Nat → Bool} {q : Nat} (h : bI (f q) = 0) : ftB f (q + 1) = ftB f q ||| 0 := by
  rw [ftB]; cases e : f q with
  | false => rw [if_neg (by decide)]
  | true => rw [e] at h; exact absurd h (by decide)
def FF (s : Nat) (I I2 : vI) : Prop := ∀ b, b ≠ s + 28 → b ≠ s + 29 → ¬ (s + 34 ≤ b ∧ b ≤ s + 41) → I2 b = I b
theorem FF.rfl {s : Nat} {I : vI} : FF s I I := fun _ _ _ _ => Eq.refl _
theorem FF.trans {s : Nat} {I I2 I3 : vI} (h : FF s I I2) (g : FF s I2 I3) : FF s I I3 := fun b h1 h2 h3 => (g b h1 h2 h3).trans (h b h1 h2 h3)
theorem FP.ff {s : Nat} {I J : vI} (f : FP s I J) : FF s I J := fun b h1 h2 h3 => f b h1 h2 (by omega)
theorem FF.tr {s np nc : Nat} {I J : vI} {K : Nat → Int32} (f : FF s I J) (h : TR I (s + 1) K np nc) (h8 : np ≤ 8) (h10 : nc ≤ 10) : TR J (s + 1) K np nc := h.of (fun b g1 g2 => f b (by omega) (by omega) (by omega)) h8 h10
theorem FF.wc {S : vS} {s lb : Nat} {I J : vI} {W : tW} (f : FF s I J) (h : WC S I s lb W) (hl : s + 66 ≤ lb) : WC S J s lb W := h.of (f s (by omega) (by omega) (by omega)) (fun b hb => f b (by omega) (by omega) (by omega))
theorem FF.sr {s ns : Nat} {I J : vI} {K : Nat → Int32} (f : FF s I J) (h : SR I s K ns) : SR J s K ns := h.of (f s (by omega) (by omega) (by omega)) (fun b g1 g2 => f b (by omega) (by omega) (by omega))
theorem Oa.ff {s a : Nat} {I J : vI} (h : Oa a I J) (ha : s + 34 ≤ a ∧ a ≤ s + 41) : FF s I J := fun b h1 h2 h3 => h b (by omega)
theorem c_X4_feastsOf {d : Nat} {S : vS} {I : vI} {L : vL} {Q : Int32 → vS → vI → vL → Prop} {s lb np nc : Nat} {K : Nat → Int32} {W : tW} {ns q : Nat} (hp : PlanS S (s + 33) s (s + 28)) (hK : TR I (s + 1) K np nc) (hN : TN K np nc) (hW : WC S I s lb W) (hlb : s + 66 ≤ lb) (hs : SR I s K ns) (hb : SB K ns) (hq : q < np) (h41 : I (s + 41) q = bI (soK W K q (-1) ns 40)) (h : ∀ I2 M, FP s I I2 → Lev (s + 28) L M → Q (ftB (fun j => soK W K q (nI (j + 1)) ns 40) 20) S I2 M) : Vc mX4_feastsOf (d + 5) 0 0 [.ref (s + 33), .int (nI q)] S I L (ViQ Q) := by
  refine Vc.of rfl (Nat.le_of_ble_eq_true rfl) ?_
  have B := bs_X4_feastsOf
  show Vw mX4_feastsOf (d + 5) 0 0 0 0 (ViQ Q) 0 [(0, .ref (s + 33)), (1, .int (nI q))] [] S I L
  have h8 := hN.1
  have h10 := hN.2.1
  have hT := hp.p0.p0
  have hR := hp.p1
  have hl := lastN_le (q := nI q) hb ns (Nat.le_refl _)
  have loop : ∀ j, j ≤ 20 → ∀ J M, FP s I J → Lev (s + 28) L M → PW J s (walkP W (nI q) (K 121) (perP K q)) (lastN K (nI q) ns) → Vw mX4_feastsOf (d + 5) 0 0 0 0 (ViQ Q) 17 [(0, .ref (s + 33)), (1, .int (nI q)), (2, .int (nI (lastN K (nI q) ns))), (3, .int (ftB (fun j => soK W K q (nI (j + 1)) ns 40) j)), (4, .int (nI (j + 1)))] [] S J M := by
    refine loop_up (fun j hj ih => ?_)
    intro J M fJ fM pJ
    have eA : (lastN K (nI q) ns) < j + 1 → J (s + 41) q = bI (soK W K q (nI (j + 1)) ns 40) := fun z => by
      rw [fJ _ (by omega) (by omega) (by omega), h41, soK_ext (t := 40) hb (by omega) (by omega), soK_ext (t := 40) (f := nI (j + 1)) hb (by omega) (by omega), soK_m1 (by omega), soK_saw (by omega) z]
    have eB : bI (soK W K q (nI (j + 1)) ns (lastN K (nI q) ns)) = bI (soK W K q (nI (j + 1)) ns 40) := by rw [← soK_ext hb (t := 40) (by omega) (by omega)]
    refine Vw.iload (de_iload (B 17 _ rfl) (B 18 _ rfl)) 4 rfl (n := 19) rfl ?_
    refine Vw.bipush (v := 20) (de_bipush (B 19 _ rfl) (B 20 _ rfl)) rfl (n := 21) rfl ?_
    refine Vw.icmp_gt (tgt := 73) (n := 24) (de_icmp_gt (B 21 _ rfl) (B 22 _ rfl) (B 23 _ rfl)) rfl rfl (fun c_21 => ?_) (fun c_21 => ?_)
    · have z_21 : ¬ j + 1 ≤ 20 := fun z => absurd c_21 (Int32.not_lt.mpr ((nI_leI (a := j + 1) (b := 20) (by omega) (by omega)).mpr z))
      obtain rfl : j = 20 := by omega
      refine Vw.iload_n (de_iload_3 (B 73 _ rfl)) 3 rfl (n := 74) rfl ?_
      exact Vw.iret (de_ireturn (B 74 _ rfl)) rfl ⟨_, rfl, (h J M fJ fM)⟩
    have z_21 : j < 20 := (nI_leI (a := j + 1) (b := 20) (by omega) (by omega)).mp (Int32.not_lt.mp c_21)
    refine Vw.iload (de_iload (B 24 _ rfl) (B 25 _ rfl)) 4 rfl (n := 26) rfl ?_
    refine Vw.iload_n (de_iload_2 (B 26 _ rfl)) 2 rfl (n := 27) rfl ?_
    refine Vw.icmp_le (tgt := 39) (n := 30) (de_icmp_le (B 27 _ rfl) (B 28 _ rfl) (B 29 _ rfl)) rfl rfl (fun c_27 => ?_) (fun c_27 => ?_)
    · have z_27 : j + 1 ≤ (lastN K (nI q) ns) := ((nI_leI (a := j + 1) (b := (lastN K (nI q) ns)) (by omega) (by omega)).mp c_27)
      refine Vw.aload_n (de_aload_0 (B 39 _ rfl)) 0 rfl (n := 40) rfl ?_
      refine Vw.iload_n (de_iload_1 (B 40 _ rfl)) 1 rfl (n := 41) rfl ?_
      refine Vw.iload (de_iload (B 41 _ rfl) (B 42 _ rfl)) 4 rfl (n := 43) rfl ?_
      refine Vw.iload_n (de_iload_2 (B 43 _ rfl)) 2 rfl (n := 44) rfl ?_
      refine Vw.ivi3 (mi' := mX4_isSeenWithFeast) (de_invokevirtual (B 44 _ rfl) (B 45 _ rfl) (B 46 _ rfl)) ml_X4_209 mv_X4_isSeenWithFeast hp.k (Nat.le_of_ble_eq_true rfl) (n := 47) rfl (c_X4_isSeenWithFeast hp (fJ.tr hK h8 h10) hN (fJ.wc hW hlb) hlb (fJ.sr hs) hq pJ z_27 hl (fun I3 M3 f3 e3 m3 => ?_))
      first | rw [eB] | skip
      refine Vw.istore (lv2 := [(0, _), (1, _), (2, _), (3, _), (4, _), (5, _)]) (de_istore (B 47 _ rfl) (B 48 _ rfl)) (by decide) [1, 2, 3, 4, 5, 0] rfl (n := 49) rfl ?_
      refine Vw.iload_n (de_iload_3 (B 49 _ rfl)) 3 rfl (n := 50) rfl ?_
      refine Vw.iload (de_iload (B 50 _ rfl) (B 51 _ rfl)) 5 rfl (n := 52) rfl ?_
      refine Vw.if_eq (tgt := 64) (n := 55) (de_if_eq (B 52 _ rfl) (B 53 _ rfl) (B 54 _ rfl)) rfl rfl (fun c_52 => ?_) (fun c_52 => ?_)
      · refine Vw.iconst (v := 0) (de_iconst_0 (B 64 _ rfl)) rfl (n := 65) rfl ?_
        refine Vw.ior (de_ior (B 65 _ rfl)) (n := 66) rfl ?_
        refine Vw.istore_n (lv2 := [(0, _), (1, _), (2, _), (3, _), (4, _), (5, _)]) (de_istore_3 (B 66 _ rfl)) rfl (by decide) [1, 2, 3, 0, 4, 5] rfl (n := 67) rfl ?_
        refine Vw.iinc (v := nI (j + 1 + 1)) (lv2 := [(0, _), (1, _), (2, _), (3, _), (4, _), (5, _)]) (de_iinc (B 67 _ rfl) (B 68 _ rfl) (B 69 _ rfl)) 4 rfl (nI_1 (j + 1)) (by decide) [1, 2, 3, 4, 0, 5] rfl (n := 70) rfl ?_
        refine Vw.goto_ (n := 17) (de_goto_ (B 70 _ rfl) (B 71 _ rfl) (B 72 _ rfl)) rfl ?_
        refine Vw.lvs (lv2 := [(0, _), (1, _), (2, _), (3, _), (4, _)]) [0, 1, 2, 3, 4] rfl ?_
        first
        | (have z := ih z_21 J M fJ fM pJ; rw [ftB_t (f := fun j => soK W K q (nI (j + 1)) ns 40) (q := j) c_52] at z; exact z)
        | (have z := ih z_21 J M fJ fM pJ; rw [ftB_f (f := fun j => soK W K q (nI (j + 1)) ns 40) (q := j) c_52] at z; exact z)
        | (have z := ih z_21 I3 M3 (fJ.trans f3) (fM.trans m3) (pJ.of (fun b g1 g2 => e3 b (by omega) (by omega))); rw [ftB_t (f := fun j => soK W K q (nI (j + 1)) ns 40) (q := j) c_52] at z; exact z)
        | (have z := ih z_21 I3 M3 (fJ.trans f3) (fM.trans m3) (pJ.of (fun b g1 g2 => e3 b (by omega) (by omega))); rw [ftB_f (f := fun j => soK W K q (nI (j + 1)) ns 40) (q := j) c_52] at z; exact z)
      refine Vw.iconst (v := 1) (de_iconst_1 (B 55 _ rfl)) rfl (n := 56) rfl ?_
      refine Vw.iload (de_iload (B 56 _ rfl) (B 57 _ rfl)) 4 rfl (n := 58) rfl ?_
      refine Vw.iconst (v := 1) (de_iconst_1 (B 58 _ rfl)) rfl (n := 59) rfl ?_
      refine Vw.isub (de_isub (B 59 _ rfl)) (n := 60) rfl ?_
      rw [dn_p]
      refine Vw.ishl (de_ishl (B 60 _ rfl)) (n := 61) rfl ?_
      refine Vw.goto_ (n := 65) (de_goto_ (B 61 _ rfl) (B 62 _ rfl) (B 63 _ rfl)) rfl ?_
      refine Vw.ior (de_ior (B 65 _ rfl)) (n := 66) rfl ?_
      refine Vw.istore_n (lv2 := [(0, _), (1, _), (2, _), (3, _), (4, _), (5, _)]) (de_istore_3 (B 66 _ rfl)) rfl (by decide) [1, 2, 3, 0, 4, 5] rfl (n := 67) rfl ?_
      refine Vw.iinc (v := nI (j + 1 + 1)) (lv2 := [(0, _), (1, _), (2, _), (3, _), (4, _), (5, _)]) (de_iinc (B 67 _ rfl) (B 68 _ rfl) (B 69 _ rfl)) 4 rfl (nI_1 (j + 1)) (by decide) [1, 2, 3, 4, 0, 5] rfl (n := 70) rfl ?_
      refine Vw.goto_ (n := 17) (de_goto_ (B 70 _ rfl) (B 71 _ rfl) (B 72 _ rfl)) rfl ?_
      refine Vw.lvs (lv2 := [(0, _), (1, _), (2, _), (3, _), (4, _)]) [0, 1, 2, 3, 4] rfl ?_
      first
      | (have z := ih z_21 J M fJ fM pJ; rw [ftB_t (f := fun j => soK W K q (nI (j + 1)) ns 40) (q := j) c_52] at z; exact z)
      | (have z := ih z_21 J M fJ fM pJ; rw [ftB_f (f := fun j => soK W K q (nI (j + 1)) ns 40) (q := j) c_52] at z; exact z)
      | (have z := ih z_21 I3 M3 (fJ.trans f3) (fM.trans m3) (pJ.of (fun b g1 g2 => e3 b (by omega) (by omega))); rw [ftB_t (f := fun j => soK W K q (nI (j + 1)) ns 40) (q := j) c_52] at z; exact z)
      | (have z := ih z_21 I3 M3 (fJ.trans f3) (fM.trans m3) (pJ.of (fun b g1 g2 => e3 b (by omega) (by omega))); rw [ftB_f (f := fun j => soK W K q (nI (j + 1)) ns 40) (q := j) c_52] at z; exact z)
    refine Vw.aload_n (de_aload_0 (B 30 _ rfl)) 0 rfl (n := 31) rfl ?_
    refine Vw.getR (de_getfield (B 31 _ rfl) (B 32 _ rfl) (B 33 _ rfl)) fl_X4_38 rfl hp.k hp.f9 (n := 34) rfl ?_
    refine Vw.iload_n (de_iload_1 (B 34 _ rfl)) 1 rfl (n := 35) rfl ?_
    refine Vw.zald (de_baload (B 35 _ rfl)) hp.r9 (vIx_n (k := q) rfl (by omega)) (n := 36) rfl ?_
    have z_27 : (lastN K (nI q) ns) < j + 1 := by rcases Nat.lt_or_ge (lastN K (nI q) ns) (j + 1) with z | z; exact z; exact absurd ((nI_leI (a := j + 1) (b := (lastN K (nI q) ns)) (by omega) (by omega)).mpr z) c_27
    rw [show J (s + 33 + 8) q = J (s + 41) q from rfl, eA z_27]
    refine Vw.goto_ (n := 47) (de_goto_ (B 36 _ rfl) (B 37 _ rfl) (B 38 _ rfl)) rfl ?_
    first | rw [eB] | skip
    refine Vw.istore (lv2 := [(0, _), (1, _), (2, _), (3, _), (4, _), (5, _)]) (de_istore (B 47 _ rfl) (B 48 _ rfl)) (by decide) [1, 2, 3, 4, 5, 0] rfl (n := 49) rfl ?_
    refine Vw.iload_n (de_iload_3 (B 49 _ rfl)) 3 rfl (n := 50) rfl ?_
    refine Vw.iload (de_iload (B 50 _ rfl) (B 51 _ rfl)) 5 rfl (n := 52) rfl ?_
    refine Vw.if_eq (tgt := 64) (n := 55) (de_if_eq (B 52 _ rfl) (B 53 _ rfl) (B 54 _ rfl)) rfl rfl (fun c_52 => ?_) (fun c_52 => ?_)
    · refine Vw.iconst (v := 0) (de_iconst_0 (B 64 _ rfl)) rfl (n := 65) rfl ?_
      refine Vw.ior (de_ior (B 65 _ rfl)) (n := 66) rfl ?_
      refine Vw.istore_n (lv2 := [(0, _), (1, _), (2, _), (3, _), (4, _), (5, _)]) (de_istore_3 (B 66 _ rfl)) rfl (by decide) [1, 2, 3, 0, 4, 5] rfl (n := 67) rfl ?_
      refine Vw.iinc (v := nI (j + 1 + 1)) (lv2 := [(0, _), (1, _), (2, _), (3, _), (4, _), (5, _)]) (de_iinc (B 67 _ rfl) (B 68 _ rfl) (B 69 _ rfl)) 4 rfl (nI_1 (j + 1)) (by decide) [1, 2, 3, 4, 0, 5] rfl (n := 70) rfl ?_
      refine Vw.goto_ (n := 17) (de_goto_ (B 70 _ rfl) (B 71 _ rfl) (B 72 _ rfl)) rfl ?_
      refine Vw.lvs (lv2 := [(0, _), (1, _), (2, _), (3, _), (4, _)]) [0, 1, 2, 3, 4] rfl ?_
      first
      | (have z := ih z_21 J M fJ fM pJ; rw [ftB_t (f := fun j => soK W K q (nI (j + 1)) ns 40) (q := j) c_52] at z; exact z)
      | (have z := ih z_21 J M fJ fM pJ; rw [ftB_f (f := fun j => soK W K q (nI (j + 1)) ns 40) (q := j) c_52] at z; exact z)
      | (have z := ih z_21 I3 M3 (fJ.trans f3) (fM.trans m3) (pJ.of (fun b g1 g2 => e3 b (by omega) (by omega))); rw [ftB_t (f := fun j => soK W K q (nI (j + 1)) ns 40) (q := j) c_52] at z; exact z)
      | (have z := ih z_21 I3 M3 (fJ.trans f3) (fM.trans m3) (pJ.of (fun b g1 g2 => e3 b (by omega) (by omega))); rw [ftB_f (f := fun j => soK W K q (nI (j + 1)) ns 40) (q := j) c_52] at z; exact z)
    refine Vw.iconst (v := 1) (de_iconst_1 (B 55 _ rfl)) rfl (n := 56) rfl ?_
    refine Vw.iload (de_iload (B 56 _ rfl) (B 57 _ rfl)) 4 rfl (n := 58) rfl ?_
    refine Vw.iconst (v := 1) (de_iconst_1 (B 58 _ rfl)) rfl (n := 59) rfl ?_
    refine Vw.isub (de_isub (B 59 _ rfl)) (n := 60) rfl ?_
    rw [dn_p]
    refine Vw.ishl (de_ishl (B 60 _ rfl)) (n := 61) rfl ?_
    refine Vw.goto_ (n := 65) (de_goto_ (B 61 _ rfl) (B 62 _ rfl) (B 63 _ rfl)) rfl ?_
    refine Vw.ior (de_ior (B 65 _ rfl)) (n := 66) rfl ?_
    refine Vw.istore_n (lv2 := [(0, _), (1, _), (2, _), (3, _), (4, _), (5, _)]) (de_istore_3 (B 66 _ rfl)) rfl (by decide) [1, 2, 3, 0, 4, 5] rfl (n := 67) rfl ?_
    refine Vw.iinc (v := nI (j + 1 + 1)) (lv2 := [(0, _), (1, _), (2, _), (3, _), (4, _), (5, _)]) (de_iinc (B 67 _ rfl) (B 68 _ rfl) (B 69 _ rfl)) 4 rfl (nI_1 (j + 1)) (by decide) [1, 2, 3, 4, 0, 5] rfl (n := 70) rfl ?_
    refine Vw.goto_ (n := 17) (de_goto_ (B 70 _ rfl) (B 71 _ rfl) (B 72 _ rfl)) rfl ?_
    refine Vw.lvs (lv2 := [(0, _), (1, _), (2, _), (3, _), (4, _)]) [0, 1, 2, 3, 4] rfl ?_
    first
    | (have z := ih z_21 J M fJ fM pJ; rw [ftB_t (f := fun j => soK W K q (nI (j + 1)) ns 40) (q := j) c_52] at z; exact z)
    | (have z := ih z_21 J M fJ fM pJ; rw [ftB_f (f := fun j => soK W K q (nI (j + 1)) ns 40) (q := j) c_52] at z; exact z)
    | (have z := ih z_21 I3 M3 (fJ.trans f3) (fM.trans m3) (pJ.of (fun b g1 g2 => e3 b (by omega) (by omega))); rw [ftB_t (f := fun j => soK W K q (nI (j + 1)) ns 40) (q := j) c_52] at z; exact z)
    | (have z := ih z_21 I3 M3 (fJ.trans f3) (fM.trans m3) (pJ.of (fun b g1 g2 => e3 b (by omega) (by omega))); rw [ftB_f (f := fun j => soK W K q (nI (j + 1)) ns 40) (q := j) c_52] at z; exact z)
  refine Vw.aload_n (de_aload_0 (B 0 _ rfl)) 0 rfl (n := 1) rfl ?_
  refine Vw.iload_n (de_iload_1 (B 1 _ rfl)) 1 rfl (n := 2) rfl ?_
  refine Vw.ivi1 (mi' := mX4_lastSight) (de_invokevirtual (B 2 _ rfl) (B 3 _ rfl) (B 4 _ rfl)) ml_X4_200 mv_X4_lastSight hp.k (Nat.le_of_ble_eq_true rfl) (n := 5) rfl (c_X4_lastSight hp hs hb ?_)
  refine Vw.istore_n (lv2 := [(0, _), (1, _), (2, _)]) (de_istore_2 (B 5 _ rfl)) rfl (by decide) [1, 2, 0] rfl (n := 6) rfl ?_
  refine Vw.aload_n (de_aload_0 (B 6 _ rfl)) 0 rfl (n := 7) rfl ?_
  refine Vw.iload_n (de_iload_1 (B 7 _ rfl)) 1 rfl (n := 8) rfl ?_
  refine Vw.iload_n (de_iload_2 (B 8 _ rfl)) 2 rfl (n := 9) rfl ?_
  refine Vw.ivv2 (mi' := mX4_walk) (de_invokevirtual (B 9 _ rfl) (B 10 _ rfl) (B 11 _ rfl)) ml_X4_115 mv_X4_walk hp.k (Nat.le_of_ble_eq_true rfl) (n := 12) rfl (c_X4_walk hp hK hN hW hlb hq (show _ ≤ 80 by omega) (fun I2 M2 f2 m2 p2 o2 => ?_))
  refine Vw.iconst (v := 0) (de_iconst_0 (B 12 _ rfl)) rfl (n := 13) rfl ?_
  refine Vw.istore_n (lv2 := [(0, _), (1, _), (2, _), (3, _)]) (de_istore_3 (B 13 _ rfl)) rfl (by decide) [1, 2, 3, 0] rfl (n := 14) rfl ?_
  refine Vw.iconst (v := 1) (de_iconst_1 (B 14 _ rfl)) rfl (n := 15) rfl ?_
  refine Vw.istore (lv2 := [(0, _), (1, _), (2, _), (3, _), (4, _)]) (de_istore (B 15 _ rfl) (B 16 _ rfl)) (by decide) [1, 2, 3, 4, 0] rfl (n := 17) rfl ?_
  exact loop 0 (Nat.zero_le _) I2 M2 f2 m2 p2
def unS (f : Nat → Bool) : Nat → Nat
  | 0 => 0
  | q + 1 => unS f q + (if f q = true then 0 else 1)
theorem unS_t {f : Nat → Bool} {q : Nat} (h : ¬ bI (f q) = 0) : nI (unS f (q + 1)) = nI (unS f q) + 0 := by
  rw [unS]; cases e : f q with
  | true => rw [if_pos rfl, Int32.add_zero]; rfl
  | false => rw [e] at h; exact absurd rfl h
theorem unS_f {f : Nat → Bool} {q : Nat} (h : bI (f q) = 0) : nI (unS f (q + 1)) = nI (unS f q) + 1 := by
  rw [unS]; cases e : f q with
  | false => rw [if_neg (by decide), nI_1]
  | true => rw [e] at h; exact absurd h (by decide)
theorem unS_le {f : Nat → Bool} : ∀ {q : Nat}, unS f q ≤ q
  | 0 => Nat.le_refl _
  | q + 1 => by have := unS_le (f := f) (q := q); rw [unS]; split <;> omega
def feaK (W : tW) (K : Nat → Int32) (np ns q : Nat) : Int32 := if unS (fun q => soK W K q (-1) ns 40) np = 0 ∨ (unS (fun q => soK W K q (-1) ns 40) np = 1 ∧ soK W K q (-1) ns 40 = false) then ftB (fun j => soK W K q (nI (j + 1)) ns 40) 20 else 0
theorem c_X4_findFeasts {d : Nat} {S : vS} {I : vI} {L : vL} {Q : vS → vI → vL → Prop} {s lb np nc : Nat} {K : Nat → Int32} {W : tW} {ns : Nat} (hp : PlanS S (s + 33) s (s + 28)) (hK : TR I (s + 1) K np nc) (hN : TN K np nc) (hW : WC S I s lb W) (hlb : s + 66 ≤ lb) (hs : SR I s K ns) (hb : SB K ns) (h : ∀ I2 M, FF s I I2 → Lev (s + 28) L M → (∀ q, q < np → I2 (s + 40) q = feaK W K np ns q) → Q S I2 M) : Vc mX4_findFeasts (d + 6) 0 0 [.ref (s + 33)] S I L (VvQ Q) := by
  refine Vc.of rfl (Nat.le_of_ble_eq_true rfl) ?_
  have B := bs_X4_findFeasts
  show Vw mX4_findFeasts (d + 6) 0 0 0 0 (VvQ Q) 0 [(0, .ref (s + 33))] [] S I L
  have h8 := hN.1
  have h10 := hN.2.1
  have hT := hp.p0.p0
  have hR := hp.p1
  have hu := unS_le (f := (fun q => soK W K q (-1) ns 40)) (q := np)
  have loop2 : ∀ q, q ≤ np → ∀ J M, FF s I J → Lev (s + 28) L M → (∀ i, i < np → J (s + 41) i = bI (soK W K i (-1) ns 40)) → (∀ i, i < q → J (s + 40) i = feaK W K np ns i) → Vw mX4_findFeasts (d + 6) 0 0 0 0 (VvQ Q) 67 [(0, .ref (s + 33)), (1, .int (nI (unS (fun q => soK W K q (-1) ns 40) np))), (2, .int (nI q))] [] S J M := by
    refine loop_up (fun q hq ih => ?_)
    intro J M fJ fM eJ gJ
    have kJ := fJ.tr hK h8 h10
    have yes : q < np → (unS (fun q => soK W K q (-1) ns 40) np = 0 ∨ (unS (fun q => soK W K q (-1) ns 40) np = 1 ∧ soK W K q (-1) ns 40 = false)) → Vw mX4_findFeasts (d + 6) 0 0 0 0 (VvQ Q) 104 [(0, .ref (s + 33)), (1, .int (nI (unS (fun q => soK W K q (-1) ns 40) np))), (2, .int (nI q))] [.int 1] S J M := by
      intro z_78 ho
      refine Vw.istore_n (lv2 := [(0, _), (1, _), (2, _), (3, _)]) (de_istore_3 (B 104 _ rfl)) rfl (by decide) [1, 2, 3, 0] rfl (n := 105) rfl ?_
      refine Vw.aload_n (de_aload_0 (B 105 _ rfl)) 0 rfl (n := 106) rfl ?_
      refine Vw.getR (de_getfield (B 106 _ rfl) (B 107 _ rfl) (B 108 _ rfl)) fl_X4_35 rfl hp.k hp.f8 (n := 109) rfl ?_
      refine Vw.iload_n (de_iload_2 (B 109 _ rfl)) 2 rfl (n := 110) rfl ?_
      refine Vw.iload_n (de_iload_3 (B 110 _ rfl)) 3 rfl (n := 111) rfl ?_
      refine Vw.if_eq (tgt := 122) (n := 114) (de_if_eq (B 111 _ rfl) (B 112 _ rfl) (B 113 _ rfl)) rfl rfl (fun c_111 => ?_) (fun c_111 => ?_)
      · exact absurd c_111 (by decide)
      refine Vw.aload_n (de_aload_0 (B 114 _ rfl)) 0 rfl (n := 115) rfl ?_
      refine Vw.iload_n (de_iload_2 (B 115 _ rfl)) 2 rfl (n := 116) rfl ?_
      refine Vw.ivi1 (mi' := mX4_feastsOf) (de_invokevirtual (B 116 _ rfl) (B 117 _ rfl) (B 118 _ rfl)) ml_X4_206 mv_X4_feastsOf hp.k (Nat.le_of_ble_eq_true rfl) (n := 119) rfl (c_X4_feastsOf hp kJ hN (fJ.wc hW hlb) hlb (fJ.sr hs) hb z_78 (eJ q z_78) (fun I3 M3 f3 m3 => ?_))
      have k41 : I3 (s + 41) = J (s + 41) := f3 _ (by omega) (by omega) (by omega)
      have k40 : I3 (s + 40) = J (s + 40) := f3 _ (by omega) (by omega) (by omega)
      refine Vw.goto_ (n := 123) (de_goto_ (B 119 _ rfl) (B 120 _ rfl) (B 121 _ rfl)) rfl ?_
      refine Vw.iast (de_iastore (B 123 _ rfl)) hp.r8 (vIx_n (k := q) rfl (by omega)) (n := 124) rfl ?_
      refine Vw.iinc (v := nI (q + 1)) (lv2 := [(0, _), (1, _), (2, _), (3, _)]) (de_iinc (B 124 _ rfl) (B 125 _ rfl) (B 126 _ rfl)) 2 rfl (nI_1 q) (by decide) [1, 2, 0, 3] rfl (n := 127) rfl ?_
      refine Vw.goto_ (n := 67) (de_goto_ (B 127 _ rfl) (B 128 _ rfl) (B 129 _ rfl)) rfl ?_
      refine Vw.lvs (lv2 := [(0, _), (1, _), (2, _)]) [0, 1, 2] rfl ?_
      refine ih z_78 _ M3 (fJ.trans (f3.ff.trans (Oa.ff Oa.rfl.up (by omega)))) (fM.trans m3) (fun i hi => ?_) (fun i hi => ?_)
      · rw [up2_row (show s + 41 ≠ s + 33 + 7 by omega), k41]; exact eJ i hi
      · by_cases z : i = q
        · rw [z, show s + 40 = s + 33 + 7 from rfl, up2_s, feaK, if_pos ho]
        · rw [show s + 40 = s + 33 + 7 from rfl, up2_k z, show s + 33 + 7 = s + 40 from rfl, k40]; exact gJ i (by omega)
    have no : q < np → ¬ (unS (fun q => soK W K q (-1) ns 40) np = 0 ∨ (unS (fun q => soK W K q (-1) ns 40) np = 1 ∧ soK W K q (-1) ns 40 = false)) → Vw mX4_findFeasts (d + 6) 0 0 0 0 (VvQ Q) 104 [(0, .ref (s + 33)), (1, .int (nI (unS (fun q => soK W K q (-1) ns 40) np))), (2, .int (nI q))] [.int 0] S J M := by
      intro z_78 ho
      have k41 : J (s + 41) = J (s + 41) := rfl
      have k40 : J (s + 40) = J (s + 40) := rfl
      refine Vw.istore_n (lv2 := [(0, _), (1, _), (2, _), (3, _)]) (de_istore_3 (B 104 _ rfl)) rfl (by decide) [1, 2, 3, 0] rfl (n := 105) rfl ?_
      refine Vw.aload_n (de_aload_0 (B 105 _ rfl)) 0 rfl (n := 106) rfl ?_
      refine Vw.getR (de_getfield (B 106 _ rfl) (B 107 _ rfl) (B 108 _ rfl)) fl_X4_35 rfl hp.k hp.f8 (n := 109) rfl ?_
      refine Vw.iload_n (de_iload_2 (B 109 _ rfl)) 2 rfl (n := 110) rfl ?_
      refine Vw.iload_n (de_iload_3 (B 110 _ rfl)) 3 rfl (n := 111) rfl ?_
      refine Vw.if_eq (tgt := 122) (n := 114) (de_if_eq (B 111 _ rfl) (B 112 _ rfl) (B 113 _ rfl)) rfl rfl (fun c_111 => ?_) (fun c_111 => ?_)
      · refine Vw.iconst (v := 0) (de_iconst_0 (B 122 _ rfl)) rfl (n := 123) rfl ?_
        refine Vw.iast (de_iastore (B 123 _ rfl)) hp.r8 (vIx_n (k := q) rfl (by omega)) (n := 124) rfl ?_
        refine Vw.iinc (v := nI (q + 1)) (lv2 := [(0, _), (1, _), (2, _), (3, _)]) (de_iinc (B 124 _ rfl) (B 125 _ rfl) (B 126 _ rfl)) 2 rfl (nI_1 q) (by decide) [1, 2, 0, 3] rfl (n := 127) rfl ?_
        refine Vw.goto_ (n := 67) (de_goto_ (B 127 _ rfl) (B 128 _ rfl) (B 129 _ rfl)) rfl ?_
        refine Vw.lvs (lv2 := [(0, _), (1, _), (2, _)]) [0, 1, 2] rfl ?_
        refine ih z_78 _ M (fJ.trans (Oa.ff Oa.rfl.up (by omega))) fM (fun i hi => ?_) (fun i hi => ?_)
        · rw [up2_row (show s + 41 ≠ s + 33 + 7 by omega)]; exact eJ i hi
        · by_cases z : i = q
          · rw [z, show s + 40 = s + 33 + 7 from rfl, up2_s, feaK, if_neg ho]
          · rw [show s + 40 = s + 33 + 7 from rfl, up2_k z, show s + 33 + 7 = s + 40 from rfl]; exact gJ i (by omega)
      exact absurd rfl c_111
    refine Vw.iload_n (de_iload_2 (B 67 _ rfl)) 2 rfl (n := 68) rfl ?_
    refine Vw.aload_n (de_aload_0 (B 68 _ rfl)) 0 rfl (n := 69) rfl ?_
    refine Vw.getR (de_getfield (B 69 _ rfl) (B 70 _ rfl) (B 71 _ rfl)) fl_X4_49 rfl hp.k hp.f0 (n := 72) rfl ?_
    refine Vw.getR (de_getfield (B 72 _ rfl) (B 73 _ rfl) (B 74 _ rfl)) fl_X4_57 rfl hp.p0.k hp.p0.f0 (n := 75) rfl ?_
    refine Vw.getI (de_getfield (B 75 _ rfl) (B 76 _ rfl) (B 77 _ rfl)) fl_X4_108 rfl hp.p0.p0.k (n := 78) rfl ?_
    rw [kJ.1]
    refine Vw.icmp_ge (tgt := 130) (n := 81) (de_icmp_ge (B 78 _ rfl) (B 79 _ rfl) (B 80 _ rfl)) rfl rfl (fun c_78 => ?_) (fun c_78 => ?_)
    · have z_78 : np ≤ q := ((nI_leI (a := np) (b := q) (by omega) (by omega)).mp c_78)
      obtain rfl : q = np := by omega
      exact Vw.vret (de_return_ (B 130 _ rfl)) rfl ⟨rfl, (h J M fJ fM gJ)⟩
    have z_78 : q < np := by rcases Nat.lt_or_ge q np with z | z; exact z; exact absurd ((nI_leI (a := np) (b := q) (by omega) (by omega)).mpr z) c_78
    refine Vw.iload_n (de_iload_1 (B 81 _ rfl)) 1 rfl (n := 82) rfl ?_
    refine Vw.if_eq (tgt := 99) (n := 85) (de_if_eq (B 82 _ rfl) (B 83 _ rfl) (B 84 _ rfl)) rfl rfl (fun c_82 => ?_) (fun c_82 => ?_)
    · refine Vw.iconst (v := 1) (de_iconst_1 (B 99 _ rfl)) rfl (n := 100) rfl ?_
      refine Vw.goto_ (n := 104) (de_goto_ (B 100 _ rfl) (B 101 _ rfl) (B 102 _ rfl)) rfl ?_
      first
      | exact yes z_78 (Or.inl (nI_inj (by omega) (by omega) c_82))
      | exact no z_78 (fun z => z.elim (fun y => c_82 (by rw [y]; rfl)) (fun y => c_87 (by rw [y.1]; rfl)))
      | exact no z_78 (fun z => z.elim (fun y => c_82 (by rw [y]; rfl)) (fun y => c_96 (by rw [y.2]; rfl)))
      | exact yes z_78 (Or.inr ⟨nI_inj (by omega) (by omega) c_87, by cases e : soK W K q (-1) ns 40 with | false => rfl | true => rw [e] at c_96; exact absurd c_96 (by decide)⟩)
    refine Vw.iload_n (de_iload_1 (B 85 _ rfl)) 1 rfl (n := 86) rfl ?_
    refine Vw.iconst (v := 1) (de_iconst_1 (B 86 _ rfl)) rfl (n := 87) rfl ?_
    refine Vw.icmp_ne (tgt := 103) (n := 90) (de_icmp_ne (B 87 _ rfl) (B 88 _ rfl) (B 89 _ rfl)) rfl rfl (fun c_87 => ?_) (fun c_87 => ?_)
    · refine Vw.iconst (v := 0) (de_iconst_0 (B 103 _ rfl)) rfl (n := 104) rfl ?_
      first
      | exact yes z_78 (Or.inl (nI_inj (by omega) (by omega) c_82))
      | exact no z_78 (fun z => z.elim (fun y => c_82 (by rw [y]; rfl)) (fun y => c_87 (by rw [y.1]; rfl)))
      | exact no z_78 (fun z => z.elim (fun y => c_82 (by rw [y]; rfl)) (fun y => c_96 (by rw [y.2]; rfl)))
      | exact yes z_78 (Or.inr ⟨nI_inj (by omega) (by omega) c_87, by cases e : soK W K q (-1) ns 40 with | false => rfl | true => rw [e] at c_96; exact absurd c_96 (by decide)⟩)
    refine Vw.aload_n (de_aload_0 (B 90 _ rfl)) 0 rfl (n := 91) rfl ?_
    refine Vw.getR (de_getfield (B 91 _ rfl) (B 92 _ rfl) (B 93 _ rfl)) fl_X4_38 rfl hp.k hp.f9 (n := 94) rfl ?_
    refine Vw.iload_n (de_iload_2 (B 94 _ rfl)) 2 rfl (n := 95) rfl ?_
    refine Vw.zald (de_baload (B 95 _ rfl)) hp.r9 (vIx_n (k := q) rfl (by omega)) (n := 96) rfl ?_
    rw [show J (s + 33 + 8) q = J (s + 41) q from rfl, eJ q z_78]
    refine Vw.if_ne (tgt := 103) (n := 99) (de_if_ne (B 96 _ rfl) (B 97 _ rfl) (B 98 _ rfl)) rfl rfl (fun c_96 => ?_) (fun c_96 => ?_)
    · refine Vw.iconst (v := 0) (de_iconst_0 (B 103 _ rfl)) rfl (n := 104) rfl ?_
      first
      | exact yes z_78 (Or.inl (nI_inj (by omega) (by omega) c_82))
      | exact no z_78 (fun z => z.elim (fun y => c_82 (by rw [y]; rfl)) (fun y => c_87 (by rw [y.1]; rfl)))
      | exact no z_78 (fun z => z.elim (fun y => c_82 (by rw [y]; rfl)) (fun y => c_96 (by rw [y.2]; rfl)))
      | exact yes z_78 (Or.inr ⟨nI_inj (by omega) (by omega) c_87, by cases e : soK W K q (-1) ns 40 with | false => rfl | true => rw [e] at c_96; exact absurd c_96 (by decide)⟩)
    refine Vw.iconst (v := 1) (de_iconst_1 (B 99 _ rfl)) rfl (n := 100) rfl ?_
    refine Vw.goto_ (n := 104) (de_goto_ (B 100 _ rfl) (B 101 _ rfl) (B 102 _ rfl)) rfl ?_
    first
    | exact yes z_78 (Or.inl (nI_inj (by omega) (by omega) c_82))
    | exact no z_78 (fun z => z.elim (fun y => c_82 (by rw [y]; rfl)) (fun y => c_87 (by rw [y.1]; rfl)))
    | exact no z_78 (fun z => z.elim (fun y => c_82 (by rw [y]; rfl)) (fun y => c_96 (by rw [y.2]; rfl)))
    | exact yes z_78 (Or.inr ⟨nI_inj (by omega) (by omega) c_87, by cases e : soK W K q (-1) ns 40 with | false => rfl | true => rw [e] at c_96; exact absurd c_96 (by decide)⟩)
  have loop1 : ∀ q, q ≤ np → ∀ J M, FF s I J → Lev (s + 28) L M → (∀ i, i < q → J (s + 41) i = bI (soK W K i (-1) ns 40)) → Vw mX4_findFeasts (d + 6) 0 0 0 0 (VvQ Q) 4 [(0, .ref (s + 33)), (1, .int (nI (unS (fun q => soK W K q (-1) ns 40) q))), (2, .int (nI q))] [] S J M := by
    refine loop_up (fun q hq ih => ?_)
    intro J M fJ fM eJ
    have kJ := fJ.tr hK h8 h10
    have hl := lastN_le (q := nI q) hb ns (Nat.le_refl _)
    have eS : bI (sawK (walkP W (nI q) (K 121) (perP K q)) K q ns (lastN K (nI q) ns)) = bI (soK W K q (-1) ns 40) := by rw [soK_ext (t := 40) hb (by omega) (by omega), soK_m1 (by omega)]
    refine Vw.iload_n (de_iload_2 (B 4 _ rfl)) 2 rfl (n := 5) rfl ?_
    refine Vw.aload_n (de_aload_0 (B 5 _ rfl)) 0 rfl (n := 6) rfl ?_
    refine Vw.getR (de_getfield (B 6 _ rfl) (B 7 _ rfl) (B 8 _ rfl)) fl_X4_49 rfl hp.k hp.f0 (n := 9) rfl ?_
    refine Vw.getR (de_getfield (B 9 _ rfl) (B 10 _ rfl) (B 11 _ rfl)) fl_X4_57 rfl hp.p0.k hp.p0.f0 (n := 12) rfl ?_
    refine Vw.getI (de_getfield (B 12 _ rfl) (B 13 _ rfl) (B 14 _ rfl)) fl_X4_108 rfl hp.p0.p0.k (n := 15) rfl ?_
    rw [kJ.1]
    refine Vw.icmp_ge (tgt := 65) (n := 18) (de_icmp_ge (B 15 _ rfl) (B 16 _ rfl) (B 17 _ rfl)) rfl rfl (fun c_15 => ?_) (fun c_15 => ?_)
    · have z_15 : np ≤ q := ((nI_leI (a := np) (b := q) (by omega) (by omega)).mp c_15)
      obtain rfl : q = np := by omega
      refine Vw.iconst (v := 0) (de_iconst_0 (B 65 _ rfl)) rfl (n := 66) rfl ?_
      refine Vw.istore_n (lv2 := [(0, _), (1, _), (2, _)]) (de_istore_2 (B 66 _ rfl)) rfl (by decide) [1, 2, 0] rfl (n := 67) rfl ?_
      exact loop2 0 (Nat.zero_le _) J M fJ fM eJ (fun i hi => absurd hi (Nat.not_lt_zero _))
    have z_15 : q < np := by rcases Nat.lt_or_ge q np with z | z; exact z; exact absurd ((nI_leI (a := np) (b := q) (by omega) (by omega)).mpr z) c_15
    refine Vw.aload_n (de_aload_0 (B 18 _ rfl)) 0 rfl (n := 19) rfl ?_
    refine Vw.iload_n (de_iload_2 (B 19 _ rfl)) 2 rfl (n := 20) rfl ?_
    refine Vw.ivi1 (mi' := mX4_lastSight) (de_invokevirtual (B 20 _ rfl) (B 21 _ rfl) (B 22 _ rfl)) ml_X4_200 mv_X4_lastSight hp.k (Nat.le_of_ble_eq_true rfl) (n := 23) rfl (c_X4_lastSight hp (fJ.sr hs) hb ?_)
    refine Vw.istore_n (lv2 := [(0, _), (1, _), (2, _), (3, _)]) (de_istore_3 (B 23 _ rfl)) rfl (by decide) [1, 2, 3, 0] rfl (n := 24) rfl ?_
    refine Vw.aload_n (de_aload_0 (B 24 _ rfl)) 0 rfl (n := 25) rfl ?_
    refine Vw.iload_n (de_iload_2 (B 25 _ rfl)) 2 rfl (n := 26) rfl ?_
    refine Vw.iload_n (de_iload_3 (B 26 _ rfl)) 3 rfl (n := 27) rfl ?_
    refine Vw.ivv2 (mi' := mX4_walk) (de_invokevirtual (B 27 _ rfl) (B 28 _ rfl) (B 29 _ rfl)) ml_X4_115 mv_X4_walk hp.k (Nat.le_of_ble_eq_true rfl) (n := 30) rfl (c_X4_walk hp kJ hN (fJ.wc hW hlb) hlb z_15 (show _ ≤ 80 by omega) (fun I2 M2 f2 m2 p2 o2 => ?_))
    refine Vw.aload_n (de_aload_0 (B 30 _ rfl)) 0 rfl (n := 31) rfl ?_
    refine Vw.getR (de_getfield (B 31 _ rfl) (B 32 _ rfl) (B 33 _ rfl)) fl_X4_38 rfl hp.k hp.f9 (n := 34) rfl ?_
    refine Vw.iload_n (de_iload_2 (B 34 _ rfl)) 2 rfl (n := 35) rfl ?_
    refine Vw.aload_n (de_aload_0 (B 35 _ rfl)) 0 rfl (n := 36) rfl ?_
    refine Vw.iload_n (de_iload_2 (B 36 _ rfl)) 2 rfl (n := 37) rfl ?_
    refine Vw.iload_n (de_iload_3 (B 37 _ rfl)) 3 rfl (n := 38) rfl ?_
    refine Vw.ivi2 (mi' := mX4_isSeenWalking) (de_invokevirtual (B 38 _ rfl) (B 39 _ rfl) (B 40 _ rfl)) ml_X4_203 mv_X4_isSeenWalking hp.k (Nat.le_of_ble_eq_true rfl) (n := 41) rfl (c_X4_isSeenWalking hp (f2.sr (fJ.sr hs)) p2 (Nat.le_refl _) (by omega) ?_)
    rw [eS]
    refine Vw.zast (de_bastore (B 41 _ rfl)) hp.r9 (vIx_n (k := q) rfl (by omega)) (bI_z _) (n := 42) rfl ?_
    refine Vw.iload_n (de_iload_1 (B 42 _ rfl)) 1 rfl (n := 43) rfl ?_
    refine Vw.aload_n (de_aload_0 (B 43 _ rfl)) 0 rfl (n := 44) rfl ?_
    refine Vw.getR (de_getfield (B 44 _ rfl) (B 45 _ rfl) (B 46 _ rfl)) fl_X4_38 rfl hp.k hp.f9 (n := 47) rfl ?_
    refine Vw.iload_n (de_iload_2 (B 47 _ rfl)) 2 rfl (n := 48) rfl ?_
    refine Vw.zald (de_baload (B 48 _ rfl)) hp.r9 (vIx_n (k := q) rfl (by omega)) (n := 49) rfl ?_
    rw [up2_s]
    refine Vw.if_eq (tgt := 56) (n := 52) (de_if_eq (B 49 _ rfl) (B 50 _ rfl) (B 51 _ rfl)) rfl rfl (fun c_49 => ?_) (fun c_49 => ?_)
    · refine Vw.iconst (v := 1) (de_iconst_1 (B 56 _ rfl)) rfl (n := 57) rfl ?_
      refine Vw.iadd (de_iadd (B 57 _ rfl)) (n := 58) rfl ?_
      refine Vw.istore_n (lv2 := [(0, _), (1, _), (2, _), (3, _)]) (de_istore_1 (B 58 _ rfl)) rfl (by decide) [1, 0, 2, 3] rfl (n := 59) rfl ?_
      refine Vw.iinc (v := nI (q + 1)) (lv2 := [(0, _), (1, _), (2, _), (3, _)]) (de_iinc (B 59 _ rfl) (B 60 _ rfl) (B 61 _ rfl)) 2 rfl (nI_1 q) (by decide) [1, 2, 0, 3] rfl (n := 62) rfl ?_
      refine Vw.goto_ (n := 4) (de_goto_ (B 62 _ rfl) (B 63 _ rfl) (B 64 _ rfl)) rfl ?_
      refine Vw.lvs (lv2 := [(0, _), (1, _), (2, _)]) [0, 1, 2] rfl ?_
      have z := ih z_15 (up2 I2 (s + 33 + 8) q (bI (soK W K q (-1) ns 40))) M2 (fJ.trans (f2.ff.trans (Oa.ff Oa.rfl.up (by omega)))) (fM.trans m2) (fun i hi => by
        by_cases y : i = q
        · rw [y, show s + 41 = s + 33 + 8 from rfl, up2_s]
        · rw [show s + 41 = s + 33 + 8 from rfl, up2_k y, show s + 33 + 8 = s + 41 from rfl, f2 _ (by omega) (by omega) (by omega)]; exact eJ i (by omega))
      first
      | (rw [unS_f (f := fun q => soK W K q (-1) ns 40) (q := q) c_49] at z; exact z)
      | (rw [unS_t (f := fun q => soK W K q (-1) ns 40) (q := q) c_49] at z; exact z)
    refine Vw.iconst (v := 0) (de_iconst_0 (B 52 _ rfl)) rfl (n := 53) rfl ?_
    refine Vw.goto_ (n := 57) (de_goto_ (B 53 _ rfl) (B 54 _ rfl) (B 55 _ rfl)) rfl ?_
    refine Vw.iadd (de_iadd (B 57 _ rfl)) (n := 58) rfl ?_
    refine Vw.istore_n (lv2 := [(0, _), (1, _), (2, _), (3, _)]) (de_istore_1 (B 58 _ rfl)) rfl (by decide) [1, 0, 2, 3] rfl (n := 59) rfl ?_
    refine Vw.iinc (v := nI (q + 1)) (lv2 := [(0, _), (1, _), (2, _), (3, _)]) (de_iinc (B 59 _ rfl) (B 60 _ rfl) (B 61 _ rfl)) 2 rfl (nI_1 q) (by decide) [1, 2, 0, 3] rfl (n := 62) rfl ?_
    refine Vw.goto_ (n := 4) (de_goto_ (B 62 _ rfl) (B 63 _ rfl) (B 64 _ rfl)) rfl ?_
    refine Vw.lvs (lv2 := [(0, _), (1, _), (2, _)]) [0, 1, 2] rfl ?_
    have z := ih z_15 (up2 I2 (s + 33 + 8) q (bI (soK W K q (-1) ns 40))) M2 (fJ.trans (f2.ff.trans (Oa.ff Oa.rfl.up (by omega)))) (fM.trans m2) (fun i hi => by
      by_cases y : i = q
      · rw [y, show s + 41 = s + 33 + 8 from rfl, up2_s]
      · rw [show s + 41 = s + 33 + 8 from rfl, up2_k y, show s + 33 + 8 = s + 41 from rfl, f2 _ (by omega) (by omega) (by omega)]; exact eJ i (by omega))
    first
    | (rw [unS_f (f := fun q => soK W K q (-1) ns 40) (q := q) c_49] at z; exact z)
    | (rw [unS_t (f := fun q => soK W K q (-1) ns 40) (q := q) c_49] at z; exact z)
  refine Vw.iconst (v := 0) (de_iconst_0 (B 0 _ rfl)) rfl (n := 1) rfl ?_
  refine Vw.istore_n (lv2 := [(0, _), (1, _)]) (de_istore_1 (B 1 _ rfl)) rfl (by decide) [1, 0] rfl (n := 2) rfl ?_
  refine Vw.iconst (v := 0) (de_iconst_0 (B 2 _ rfl)) rfl (n := 3) rfl ?_
  refine Vw.istore_n (lv2 := [(0, _), (1, _), (2, _)]) (de_istore_2 (B 3 _ rfl)) rfl (by decide) [1, 2, 0] rfl (n := 4) rfl ?_
  exact loop1 0 (Nat.zero_le _) I L FF.rfl Lev.rfl (fun i hi => absurd hi (Nat.not_lt_zero _))
