/-! Rows filled; what falls due; sights -/
theorem c_J7_fill_d0a16 {d : Nat} {S : vS} {I : vI} {L : vL} {Q : vS → vI → vL → Prop} {a n : Nat} {v : Int64} (ha : S.1 a = (103, n)) (hn : n ≤ 100000) (h : ∀ M, (∀ b, b ≠ a → M b = L b) → (∀ k, k < n → M a k = v) → Q S I M) : Vc mJ7_fill_d0a16 d 0 0 [.ref a, .long v] S I L (VvQ Q) := by
  refine Vc.of rfl (Nat.le_of_ble_eq_true rfl) ?_
  have B := bs_J7_fill_d0a16
  show Vw mJ7_fill_d0a16 d 0 0 0 0 (VvQ Q) 0 [(0, .ref a), (1, .long v)] [] S I L
  have loop : ∀ k, k ≤ n → ∀ M : vL, (∀ b, b ≠ a → M b = L b) → (∀ i, i < k → M a i = v) → Vw mJ7_fill_d0a16 d 0 0 0 0 (VvQ Q) 6 [(0, .ref a), (1, .long v), (3, .int (nI k)), (4, .int (nI n))] [] S I M := by
    refine loop_up (fun k hk ih => ?_)
    intro M fM eM
    refine Vw.iload_n (de_iload_3 (B 6 _ rfl)) 2 rfl (n := 7) rfl ?_
    refine Vw.iload (de_iload (B 7 _ rfl) (B 8 _ rfl)) 3 rfl (n := 9) rfl ?_
    refine Vw.icmp_ge (tgt := 22) (n := 12) (de_icmp_ge (B 9 _ rfl) (B 10 _ rfl) (B 11 _ rfl)) rfl rfl (fun c_9 => ?_) (fun c_9 => ?_)
    · have z_9 : n ≤ k := ((nI_leI (a := n) (b := k) (by omega) (by omega)).mp c_9)
      exact Vw.vret (de_return_ (B 22 _ rfl)) rfl ⟨rfl, (h M fM (fun i hi => eM i (by omega)))⟩
    have z_9 : k < n := by rcases Nat.lt_or_ge k n with z | z; exact z; exact absurd ((nI_leI (a := n) (b := k) (by omega) (by omega)).mpr z) c_9
    refine Vw.aload_n (de_aload_0 (B 12 _ rfl)) 0 rfl (n := 13) rfl ?_
    refine Vw.iload_n (de_iload_3 (B 13 _ rfl)) 2 rfl (n := 14) rfl ?_
    refine Vw.lload_n (de_lload_1 (B 14 _ rfl)) 1 rfl (n := 15) rfl ?_
    refine Vw.last (de_lastore (B 15 _ rfl)) ha (vIx_n (k := k) rfl z_9 (by omega)) (n := 16) rfl ?_
    refine Vw.iinc (v := nI (k + 1)) (lv2 := [(0, _), (1, _), (3, _), (4, _)]) (de_iinc (B 16 _ rfl) (B 17 _ rfl) (B 18 _ rfl)) 2 rfl (nI_1 k) (by decide) [1, 2, 0, 3] rfl (n := 19) rfl ?_
    refine Vw.goto_ (n := 6) (de_goto_ (B 19 _ rfl) (B 20 _ rfl) (B 21 _ rfl)) rfl ?_
    refine ih z_9 _ (fun b hb => by rw [up2_row hb]; exact fM b hb) (fun i hi => ?_)
    by_cases z : i = k
    · rw [z, up2_s]
    · rw [up2_k z]; exact eM i (by omega)
  refine Vw.iconst (v := 0) (de_iconst_0 (B 0 _ rfl)) rfl (n := 1) rfl ?_
  refine Vw.istore_n (lv2 := [(0, _), (1, _), (3, _)]) (de_istore_3 (B 1 _ rfl)) rfl (by decide) [1, 2, 0] rfl (n := 2) rfl ?_
  refine Vw.aload_n (de_aload_0 (B 2 _ rfl)) 0 rfl (n := 3) rfl ?_
  refine Vw.alenL (de_arraylength (B 3 _ rfl)) ha (i := nI n) rfl (n := 4) rfl ?_
  refine Vw.istore (lv2 := [(0, _), (1, _), (3, _), (4, _)]) (de_istore (B 4 _ rfl) (B 5 _ rfl)) (by decide) [1, 2, 3, 0] rfl (n := 6) rfl ?_
  exact loop 0 (Nat.zero_le _) L (fun _ _ => rfl) (fun i hi => absurd hi (Nat.not_lt_zero _))
theorem c_J7_fill_53178 {d : Nat} {S : vS} {I : vI} {L : vL} {Q : vS → vI → vL → Prop} {a n : Nat} {v : Int32} (ha : S.1 a = (100, n)) (hn : n ≤ 100000) (h : ∀ J, Oa a I J → (∀ k, k < n → J a k = v) → Q S J L) : Vc mJ7_fill_53178 d 0 0 [.ref a, .int v] S I L (VvQ Q) := by
  refine Vc.of rfl (Nat.le_of_ble_eq_true rfl) ?_
  have B := bs_J7_fill_53178
  show Vw mJ7_fill_53178 d 0 0 0 0 (VvQ Q) 0 [(0, .ref a), (1, .int v)] [] S I L
  have loop : ∀ k, k ≤ n → ∀ J : vI, Oa a I J → (∀ i, i < k → J a i = v) → Vw mJ7_fill_53178 d 0 0 0 0 (VvQ Q) 5 [(0, .ref a), (1, .int v), (2, .int (nI k)), (3, .int (nI n))] [] S J L := by
    refine loop_up (fun k hk ih => ?_)
    intro M fM eM
    refine Vw.iload_n (de_iload_2 (B 5 _ rfl)) 2 rfl (n := 6) rfl ?_
    refine Vw.iload_n (de_iload_3 (B 6 _ rfl)) 3 rfl (n := 7) rfl ?_
    refine Vw.icmp_ge (tgt := 20) (n := 10) (de_icmp_ge (B 7 _ rfl) (B 8 _ rfl) (B 9 _ rfl)) rfl rfl (fun c_7 => ?_) (fun c_7 => ?_)
    · have z_7 : n ≤ k := ((nI_leI (a := n) (b := k) (by omega) (by omega)).mp c_7)
      exact Vw.vret (de_return_ (B 20 _ rfl)) rfl ⟨rfl, (h M fM (fun i hi => eM i (by omega)))⟩
    have z_7 : k < n := by rcases Nat.lt_or_ge k n with z | z; exact z; exact absurd ((nI_leI (a := n) (b := k) (by omega) (by omega)).mpr z) c_7
    refine Vw.aload_n (de_aload_0 (B 10 _ rfl)) 0 rfl (n := 11) rfl ?_
    refine Vw.iload_n (de_iload_2 (B 11 _ rfl)) 2 rfl (n := 12) rfl ?_
    refine Vw.iload_n (de_iload_1 (B 12 _ rfl)) 1 rfl (n := 13) rfl ?_
    refine Vw.iast (de_iastore (B 13 _ rfl)) ha (vIx_n (k := k) rfl z_7 (by omega)) (n := 14) rfl ?_
    refine Vw.iinc (v := nI (k + 1)) (lv2 := [(0, _), (1, _), (2, _), (3, _)]) (de_iinc (B 14 _ rfl) (B 15 _ rfl) (B 16 _ rfl)) 2 rfl (nI_1 k) (by decide) [1, 2, 0, 3] rfl (n := 17) rfl ?_
    refine Vw.goto_ (n := 5) (de_goto_ (B 17 _ rfl) (B 18 _ rfl) (B 19 _ rfl)) rfl ?_
    refine ih z_7 _ fM.up (fun i hi => ?_)
    by_cases z : i = k
    · rw [z, up2_s]
    · rw [up2_k z]; exact eM i (by omega)
  refine Vw.iconst (v := 0) (de_iconst_0 (B 0 _ rfl)) rfl (n := 1) rfl ?_
  refine Vw.istore_n (lv2 := [(0, _), (1, _), (2, _)]) (de_istore_2 (B 1 _ rfl)) rfl (by decide) [1, 2, 0] rfl (n := 2) rfl ?_
  refine Vw.aload_n (de_aload_0 (B 2 _ rfl)) 0 rfl (n := 3) rfl ?_
  refine Vw.alen (de_arraylength (B 3 _ rfl)) ha (i := nI n) rfl (n := 4) rfl ?_
  refine Vw.istore_n (lv2 := [(0, _), (1, _), (2, _), (3, _)]) (de_istore_3 (B 4 _ rfl)) rfl (by decide) [1, 2, 3, 0] rfl (n := 5) rfl ?_
  exact loop 0 (Nat.zero_le _) I Oa.rfl (fun i hi => absurd hi (Nat.not_lt_zero _))
def dueQ (W : tW) (K : Nat → Int32) (q c n : Nat) : Int32 := dueP (walkP W (nI q) (K 121) (perP K q)) (K (32 + 8 * c)) (K (32 + 8 * c + 1)) n 1
def byK (W : tW) (K : Nat → Int32) (t : Int32) (n q : Nat) : Nat → Int32
  | 0 => 0
  | c + 1 => byK W K t n q c + (if K (32 + 8 * c + 4) = nI q ∧ ¬ dueQ W K q c n = -1 then shareT t (K (32 + 8 * c + 2)) (K (32 + 8 * c + 3)) (payP W (nI q) (K (32 + 8 * c + 2)) (K (32 + 8 * c)) (K (32 + 8 * c + 1)) (K 121 + dueQ W K q c n) (walkP W (nI q) (K 121) (perP K q) (dueQ W K q c n).toNatClampNeg)) else 0)
def getK (W : tW) (K : Nat → Int32) (t : Int32) (n nc : Nat) : Nat → Int32
  | 0 => 0
  | q + 1 => getK W K t n nc q + (if 0 < wornK K (nI q) nc then byK W K t n q nc else 0)
theorem dueP_ex {f : Nat → tP} {a b : Int32} : ∀ {m k : Nat}, dueP f a b m k = -1 ∨ ∃ j, k ≤ j ∧ j < k + m ∧ dueP f a b m k = nI j
  | 0, _ => Or.inl rfl
  | m + 1, k => by
    rw [dueP]
    split
    · exact Or.inr ⟨k, Nat.le_refl _, by omega, rfl⟩
    · rcases dueP_ex (f := f) (a := a) (b := b) (m := m) (k := k + 1) with h | ⟨j, h1, h2, h3⟩
      · exact Or.inl h
      · exact Or.inr ⟨j, by omega, by omega, h3⟩
theorem c_X4_willGetBy {d : Nat} {S : vS} {I : vI} {L : vL} {Q : Int32 → vS → vI → vL → Prop} {s lb np nc : Nat} {K : Nat → Int32} {W : tW} {q n : Nat} {tl : Int32} (hp : PlanS S (s + 33) s (s + 28)) (hK : TR I (s + 1) K np nc) (hN : TN K np nc) (hW : WC S I s lb W) (hlb : s + 66 ≤ lb) (hq : q < np) (hn : n ≤ 80) (hP : PW I s (walkP W (nI q) (K 121) (perP K q)) n) (h : ∀ I2 M, (∀ b, b ≠ s + 28 → b ≠ s + 29 → b ≠ s + 34 → I2 b = I b) → Lev (s + 28) L M → Q (byK W K tl n q nc) S I2 M) : Vc mX4_willGetBy (d + 4) 0 0 [.ref (s + 33), .int (nI q), .int tl, .int (nI n)] S I L (ViQ Q) := by
  refine Vc.of rfl (Nat.le_of_ble_eq_true rfl) ?_
  have B := bs_X4_willGetBy
  show Vw mX4_willGetBy (d + 4) 0 0 0 0 (ViQ Q) 0 [(0, .ref (s + 33)), (1, .int (nI q)), (2, .int tl), (3, .int (nI n))] [] S I L
  have h8 := hN.1
  have h10 := hN.2.1
  have hT := hp.p0.p0
  have hR := hp.p1
  have loop : ∀ c, c ≤ nc → ∀ J M, (∀ b, b ≠ s + 28 → b ≠ s + 29 → b ≠ s + 34 → J b = I b) → Lev (s + 28) L M → Vw mX4_willGetBy (d + 4) 0 0 0 0 (ViQ Q) 6 [(0, .ref (s + 33)), (1, .int (nI q)), (2, .int tl), (3, .int (nI n)), (4, .int (byK W K tl n q c)), (5, .int (nI c))] [] S J M := by
    refine loop_up (fun c hc ih => ?_)
    intro J M fJ fM
    have fJp : FP s I J := fun b g1 g2 g3 => fJ b g1 g2 (by omega)
    have kJ := fJp.tr hK h8 h10
    have wJ := fJp.wc hW hlb
    have pJ : PW J s (walkP W (nI q) (K 121) (perP K q)) n := hP.of (fun b g1 g2 => fJ b (by omega) (by omega) (by omega))
    refine Vw.iload (de_iload (B 6 _ rfl) (B 7 _ rfl)) 5 rfl (n := 8) rfl ?_
    refine Vw.aload_n (de_aload_0 (B 8 _ rfl)) 0 rfl (n := 9) rfl ?_
    refine Vw.getR (de_getfield (B 9 _ rfl) (B 10 _ rfl) (B 11 _ rfl)) fl_X4_49 rfl hp.k hp.f0 (n := 12) rfl ?_
    refine Vw.getR (de_getfield (B 12 _ rfl) (B 13 _ rfl) (B 14 _ rfl)) fl_X4_57 rfl hp.p0.k hp.p0.f0 (n := 15) rfl ?_
    refine Vw.getI (de_getfield (B 15 _ rfl) (B 16 _ rfl) (B 17 _ rfl)) fl_X4_122 rfl hp.p0.p0.k (n := 18) rfl ?_
    rw [kJ.2.1]
    refine Vw.icmp_ge (tgt := 118) (n := 21) (de_icmp_ge (B 18 _ rfl) (B 19 _ rfl) (B 20 _ rfl)) rfl rfl (fun c_18 => ?_) (fun c_18 => ?_)
    · have z_18 : nc ≤ c := ((nI_leI (a := nc) (b := c) (by omega) (by omega)).mp c_18)
      obtain rfl : c = nc := by omega
      refine Vw.iload (de_iload (B 118 _ rfl) (B 119 _ rfl)) 4 rfl (n := 120) rfl ?_
      exact Vw.iret (de_ireturn (B 120 _ rfl)) rfl ⟨_, rfl, (h J M fJ fM)⟩
    have z_18 : c < nc := by rcases Nat.lt_or_ge c nc with z | z; exact z; exact absurd ((nI_leI (a := nc) (b := c) (by omega) (by omega)).mpr z) c_18
    refine Vw.aload_n (de_aload_0 (B 21 _ rfl)) 0 rfl (n := 22) rfl ?_
    refine Vw.getR (de_getfield (B 22 _ rfl) (B 23 _ rfl) (B 24 _ rfl)) fl_X4_49 rfl hp.k hp.f0 (n := 25) rfl ?_
    refine Vw.getR (de_getfield (B 25 _ rfl) (B 26 _ rfl) (B 27 _ rfl)) fl_X4_57 rfl hp.p0.k hp.p0.f0 (n := 28) rfl ?_
    refine Vw.getR (de_getfield (B 28 _ rfl) (B 29 _ rfl) (B 30 _ rfl)) fl_X4_125 rfl hp.p0.p0.k hp.p0.p0.f1 (n := 31) rfl ?_
    refine Vw.iload (de_iload (B 31 _ rfl) (B 32 _ rfl)) 5 rfl (n := 33) rfl ?_
    refine Vw.aald0 (b := 0) (de_aaload (B 33 _ rfl)) hp.p0.p0.r1 (vIx_n (k := c) rfl (by omega)) (hT.cr (show c < 10 by omega)) (n := 34) rfl ?_
    refine Vw.astore (lv2 := [(0, _), (1, _), (2, _), (3, _), (4, _), (5, _), (6, _)]) (de_astore (B 34 _ rfl) (B 35 _ rfl)) (by decide) [1, 2, 3, 4, 5, 6, 0] rfl (n := 36) rfl ?_
    refine Vw.aload (de_aload (B 36 _ rfl) (B 37 _ rfl)) 6 rfl (n := 38) rfl ?_
    refine Vw.getI (de_getfield (B 38 _ rfl) (B 39 _ rfl) (B 40 _ rfl)) fl_X4_129 rfl (hT.ck (show c < 10 by omega)) (n := 41) rfl ?_
    rw [kJ.co z_18 (by decide)]
    refine Vw.iload_n (de_iload_1 (B 41 _ rfl)) 1 rfl (n := 42) rfl ?_
    refine Vw.icmp_ne (tgt := 63) (n := 45) (de_icmp_ne (B 42 _ rfl) (B 43 _ rfl) (B 44 _ rfl)) rfl rfl (fun c_42 => ?_) (fun c_42 => ?_)
    · refine Vw.iconst (v := -1) (de_iconst_m1 (B 63 _ rfl)) rfl (n := 64) rfl ?_
      refine Vw.istore (lv2 := [(0, _), (1, _), (2, _), (3, _), (4, _), (5, _), (6, _), (7, _)]) (de_istore (B 64 _ rfl) (B 65 _ rfl)) (by decide) [1, 2, 3, 4, 5, 6, 7, 0] rfl (n := 66) rfl ?_
      refine Vw.iload (de_iload (B 66 _ rfl) (B 67 _ rfl)) 7 rfl (n := 68) rfl ?_
      refine Vw.iconst (v := -1) (de_iconst_m1 (B 68 _ rfl)) rfl (n := 69) rfl ?_
      refine Vw.icmp_eq (tgt := 112) (n := 72) (de_icmp_eq (B 69 _ rfl) (B 70 _ rfl) (B 71 _ rfl)) rfl rfl (fun c_69 => ?_) (fun c_69 => ?_)
      · refine Vw.iinc (v := nI (c + 1)) (lv2 := [(0, _), (1, _), (2, _), (3, _), (4, _), (5, _), (6, _), (7, _)]) (de_iinc (B 112 _ rfl) (B 113 _ rfl) (B 114 _ rfl)) 5 rfl (nI_1 c) (by decide) [1, 2, 3, 4, 5, 0, 6, 7] rfl (n := 115) rfl ?_
        refine Vw.goto_ (n := 6) (de_goto_ (B 115 _ rfl) (B 116 _ rfl) (B 117 _ rfl)) rfl ?_
        refine Vw.lvs (lv2 := [(0, _), (1, _), (2, _), (3, _), (4, _), (5, _)]) [0, 1, 2, 3, 4, 5] rfl ?_
        first
        | (have z := ih z_18 J M fJ fM
           rw [byK, if_neg (fun y => c_42 y.1)] at z
           rw [Int32.add_zero] at z
           exact z)
        | (have z := ih z_18 J M fJ fM
           rw [byK, if_neg (fun y => y.2 c_69)] at z
           rw [Int32.add_zero] at z
           exact z)
        | (have z := ih z_18 I4 M4 (fun b g1 g2 g3 => ((f4 b g2 g3).trans (f3 b g1)).trans (fJ b g1 g2 g3)) (fM.trans m4)
           rw [byK, if_pos ⟨c_42, c_69⟩] at z
           unfold dueQ at z
           rw [ej, nI_cl (by omega)] at z
           exact z)
      exact absurd c_69 (by decide)
    refine Vw.aload_n (de_aload_0 (B 45 _ rfl)) 0 rfl (n := 46) rfl ?_
    refine Vw.aload (de_aload (B 46 _ rfl) (B 47 _ rfl)) 6 rfl (n := 48) rfl ?_
    refine Vw.getI (de_getfield (B 48 _ rfl) (B 49 _ rfl) (B 50 _ rfl)) fl_X4_134 rfl (hT.ck (show c < 10 by omega)) (n := 51) rfl ?_
    refine Vw.aload (de_aload (B 51 _ rfl) (B 52 _ rfl)) 6 rfl (n := 53) rfl ?_
    refine Vw.getI (de_getfield (B 53 _ rfl) (B 54 _ rfl) (B 55 _ rfl)) fl_X4_135 rfl (hT.ck (show c < 10 by omega)) (n := 56) rfl ?_
    refine Vw.iload_n (de_iload_3 (B 56 _ rfl)) 3 rfl (n := 57) rfl ?_
    rw [kJ.co0 z_18, kJ.co z_18 (by decide)]
    refine Vw.ivi3 (mi' := mX4_firstTooSmall) (de_invokevirtual (B 57 _ rfl) (B 58 _ rfl) (B 59 _ rfl)) ml_X4_136 mv_X4_firstTooSmall hp.k (Nat.le_of_ble_eq_true rfl) (n := 60) rfl (c_X4_firstTooSmall hp pJ (Nat.le_refl n) hn ?_)
    refine Vw.goto_ (n := 64) (de_goto_ (B 60 _ rfl) (B 61 _ rfl) (B 62 _ rfl)) rfl ?_
    refine Vw.istore (lv2 := [(0, _), (1, _), (2, _), (3, _), (4, _), (5, _), (6, _), (7, _)]) (de_istore (B 64 _ rfl) (B 65 _ rfl)) (by decide) [1, 2, 3, 4, 5, 6, 7, 0] rfl (n := 66) rfl ?_
    refine Vw.iload (de_iload (B 66 _ rfl) (B 67 _ rfl)) 7 rfl (n := 68) rfl ?_
    refine Vw.iconst (v := -1) (de_iconst_m1 (B 68 _ rfl)) rfl (n := 69) rfl ?_
    refine Vw.icmp_eq (tgt := 112) (n := 72) (de_icmp_eq (B 69 _ rfl) (B 70 _ rfl) (B 71 _ rfl)) rfl rfl (fun c_69 => ?_) (fun c_69 => ?_)
    · refine Vw.iinc (v := nI (c + 1)) (lv2 := [(0, _), (1, _), (2, _), (3, _), (4, _), (5, _), (6, _), (7, _)]) (de_iinc (B 112 _ rfl) (B 113 _ rfl) (B 114 _ rfl)) 5 rfl (nI_1 c) (by decide) [1, 2, 3, 4, 5, 0, 6, 7] rfl (n := 115) rfl ?_
      refine Vw.goto_ (n := 6) (de_goto_ (B 115 _ rfl) (B 116 _ rfl) (B 117 _ rfl)) rfl ?_
      refine Vw.lvs (lv2 := [(0, _), (1, _), (2, _), (3, _), (4, _), (5, _)]) [0, 1, 2, 3, 4, 5] rfl ?_
      first
      | (have z := ih z_18 J M fJ fM
         rw [byK, if_neg (fun y => c_42 y.1)] at z
         rw [Int32.add_zero] at z
         exact z)
      | (have z := ih z_18 J M fJ fM
         rw [byK, if_neg (fun y => y.2 c_69)] at z
         rw [Int32.add_zero] at z
         exact z)
      | (have z := ih z_18 I4 M4 (fun b g1 g2 g3 => ((f4 b g2 g3).trans (f3 b g1)).trans (fJ b g1 g2 g3)) (fM.trans m4)
         rw [byK, if_pos ⟨c_42, c_69⟩] at z
         unfold dueQ at z
         rw [ej, nI_cl (by omega)] at z
         exact z)
    refine Vw.aload_n (de_aload_0 (B 72 _ rfl)) 0 rfl (n := 73) rfl ?_
    refine Vw.getR (de_getfield (B 73 _ rfl) (B 74 _ rfl) (B 75 _ rfl)) fl_X4_53 rfl hp.k hp.f1 (n := 76) rfl ?_
    refine Vw.aload (de_aload (B 76 _ rfl) (B 77 _ rfl)) 6 rfl (n := 78) rfl ?_
    refine Vw.getI (de_getfield (B 78 _ rfl) (B 79 _ rfl) (B 80 _ rfl)) fl_X4_139 rfl (hT.ck (show c < 10 by omega)) (n := 81) rfl ?_
    refine Vw.aload (de_aload (B 81 _ rfl) (B 82 _ rfl)) 6 rfl (n := 83) rfl ?_
    refine Vw.getI (de_getfield (B 83 _ rfl) (B 84 _ rfl) (B 85 _ rfl)) fl_X4_134 rfl (hT.ck (show c < 10 by omega)) (n := 86) rfl ?_
    refine Vw.aload (de_aload (B 86 _ rfl) (B 87 _ rfl)) 6 rfl (n := 88) rfl ?_
    refine Vw.getI (de_getfield (B 88 _ rfl) (B 89 _ rfl) (B 90 _ rfl)) fl_X4_135 rfl (hT.ck (show c < 10 by omega)) (n := 91) rfl ?_
    rw [kJ.co0 z_18, kJ.co z_18 (by decide), kJ.co z_18 (by decide)]
    refine Vw.ivv3 (mi' := mX6_lookAtCoat) (de_invokevirtual (B 91 _ rfl) (B 92 _ rfl) (B 93 _ rfl)) ml_X4_142 mv_X6_lookAtCoat hp.p1.k (Nat.le_of_ble_eq_true rfl) (n := 94) rfl (c_X6_lookAtCoat hR (fun I3 f3 a4 a5 a6 => ?_))
    have f3p : FP s J I3 := f3.fp (Or.inl rfl)
    have k3 := f3p.tr kJ h8 h10
    have w3 := f3p.wc wJ hlb
    have p3 : PW I3 s (walkP W (nI q) (K 121) (perP K q)) n := pJ.of (fun b g1 g2 => f3 b (by omega))
    obtain ⟨j, j1, j2, ej⟩ := (dueP_ex (f := walkP W (nI q) (K 121) (perP K q)) (a := K (32 + 8 * c)) (b := K (32 + 8 * c + 1)) (m := n) (k := 1)).resolve_left c_69
    rw [ej]
    refine Vw.iload (de_iload (B 94 _ rfl) (B 95 _ rfl)) 4 rfl (n := 96) rfl ?_
    refine Vw.aload (de_aload (B 96 _ rfl) (B 97 _ rfl)) 6 rfl (n := 98) rfl ?_
    refine Vw.iload_n (de_iload_2 (B 98 _ rfl)) 2 rfl (n := 99) rfl ?_
    refine Vw.aload_n (de_aload_0 (B 99 _ rfl)) 0 rfl (n := 100) rfl ?_
    refine Vw.iload (de_iload (B 100 _ rfl) (B 101 _ rfl)) 7 rfl (n := 102) rfl ?_
    refine Vw.iload_n (de_iload_1 (B 102 _ rfl)) 1 rfl (n := 103) rfl ?_
    refine Vw.ivi2 (mi' := mX4_payAt) (de_invokevirtual (B 103 _ rfl) (B 104 _ rfl) (B 105 _ rfl)) ml_X4_146 mv_X4_payAt hp.k (Nat.le_of_ble_eq_true rfl) (n := 106) rfl (c_X4_payAt hp k3 hN w3 hlb hq p3 (show j ≤ n by omega) (by omega) (fun I4 M4 f4 m4 => ?_))
    rw [a4, a5, a6]
    have k4 : TR I4 (s + 1) K np nc := k3.of (fun b g1 g2 => f4 b (by omega) (by omega)) h8 h10
    have pb := payP_b W (nI q) (K (32 + 8 * c + 2)) (K (32 + 8 * c)) (K (32 + 8 * c + 1)) (K 121 + nI j) (walkP W (nI q) (K 121) (perP K q) j)
    refine Vw.ivi2 (mi' := mX0_shareOf) (de_invokevirtual (B 106 _ rfl) (B 107 _ rfl) (B 108 _ rfl)) ml_X4_150 mv_X0_shareOf (hT.ck (show c < 10 by omega)) (Nat.le_of_ble_eq_true rfl) (n := 109) rfl (c_X0_shareOf (hT.ck (show c < 10 by omega)) pb ?_)
    rw [k4.co z_18 (by decide), k4.co z_18 (by decide)]
    refine Vw.iadd (de_iadd (B 109 _ rfl)) (n := 110) rfl ?_
    refine Vw.istore (lv2 := [(0, _), (1, _), (2, _), (3, _), (4, _), (5, _), (6, _), (7, _)]) (de_istore (B 110 _ rfl) (B 111 _ rfl)) (by decide) [1, 2, 3, 4, 0, 5, 6, 7] rfl (n := 112) rfl ?_
    refine Vw.iinc (v := nI (c + 1)) (lv2 := [(0, _), (1, _), (2, _), (3, _), (4, _), (5, _), (6, _), (7, _)]) (de_iinc (B 112 _ rfl) (B 113 _ rfl) (B 114 _ rfl)) 5 rfl (nI_1 c) (by decide) [1, 2, 3, 4, 5, 0, 6, 7] rfl (n := 115) rfl ?_
    refine Vw.goto_ (n := 6) (de_goto_ (B 115 _ rfl) (B 116 _ rfl) (B 117 _ rfl)) rfl ?_
    refine Vw.lvs (lv2 := [(0, _), (1, _), (2, _), (3, _), (4, _), (5, _)]) [0, 1, 2, 3, 4, 5] rfl ?_
    first
    | (have z := ih z_18 J M fJ fM
       rw [byK, if_neg (fun y => c_42 y.1)] at z
       rw [Int32.add_zero] at z
       exact z)
    | (have z := ih z_18 J M fJ fM
       rw [byK, if_neg (fun y => y.2 c_69)] at z
       rw [Int32.add_zero] at z
       exact z)
    | (have z := ih z_18 I4 M4 (fun b g1 g2 g3 => ((f4 b g2 g3).trans (f3 b g1)).trans (fJ b g1 g2 g3)) (fM.trans m4)
       rw [byK, if_pos ⟨c_42, c_69⟩] at z
       unfold dueQ at z
       rw [ej, nI_cl (by omega)] at z
       exact z)
  refine Vw.iconst (v := 0) (de_iconst_0 (B 0 _ rfl)) rfl (n := 1) rfl ?_
  refine Vw.istore (lv2 := [(0, _), (1, _), (2, _), (3, _), (4, _)]) (de_istore (B 1 _ rfl) (B 2 _ rfl)) (by decide) [1, 2, 3, 4, 0] rfl (n := 3) rfl ?_
  refine Vw.iconst (v := 0) (de_iconst_0 (B 3 _ rfl)) rfl (n := 4) rfl ?_
  refine Vw.istore (lv2 := [(0, _), (1, _), (2, _), (3, _), (4, _), (5, _)]) (de_istore (B 4 _ rfl) (B 5 _ rfl)) (by decide) [1, 2, 3, 4, 5, 0] rfl (n := 6) rfl ?_
  exact loop 0 (Nat.zero_le _) I L (fun _ _ _ _ => rfl) Lev.rfl
theorem c_X4_willGet {d : Nat} {S : vS} {I : vI} {L : vL} {Q : Int32 → vS → vI → vL → Prop} {s lb np nc : Nat} {K : Nat → Int32} {W : tW} {n : Nat} {tl : Int32} (hp : PlanS S (s + 33) s (s + 28)) (hK : TR I (s + 1) K np nc) (hN : TN K np nc) (hW : WC S I s lb W) (hlb : s + 66 ≤ lb) (hn : n ≤ 80) (h : ∀ I2 M, FP s I I2 → Lev (s + 28) L M → Q (getK W K tl n nc np) S I2 M) : Vc mX4_willGet (d + 5) 0 0 [.ref (s + 33), .int tl, .int (nI n)] S I L (ViQ Q) := by
  refine Vc.of rfl (Nat.le_of_ble_eq_true rfl) ?_
  have B := bs_X4_willGet
  show Vw mX4_willGet (d + 5) 0 0 0 0 (ViQ Q) 0 [(0, .ref (s + 33)), (1, .int tl), (2, .int (nI n))] [] S I L
  have h8 := hN.1
  have h10 := hN.2.1
  have hT := hp.p0.p0
  have hR := hp.p1
  have loop : ∀ q, q ≤ np → ∀ J M, FP s I J → Lev (s + 28) L M → Vw mX4_willGet (d + 5) 0 0 0 0 (ViQ Q) 5 [(0, .ref (s + 33)), (1, .int tl), (2, .int (nI n)), (3, .int (getK W K tl n nc q)), (4, .int (nI q))] [] S J M := by
    refine loop_up (fun q hq ih => ?_)
    intro J M fJ fM
    have kJ := fJ.tr hK h8 h10
    have wJ := fJ.wc hW hlb
    refine Vw.iload (de_iload (B 5 _ rfl) (B 6 _ rfl)) 4 rfl (n := 7) rfl ?_
    refine Vw.aload_n (de_aload_0 (B 7 _ rfl)) 0 rfl (n := 8) rfl ?_
    refine Vw.getR (de_getfield (B 8 _ rfl) (B 9 _ rfl) (B 10 _ rfl)) fl_X4_49 rfl hp.k hp.f0 (n := 11) rfl ?_
    refine Vw.getR (de_getfield (B 11 _ rfl) (B 12 _ rfl) (B 13 _ rfl)) fl_X4_57 rfl hp.p0.k hp.p0.f0 (n := 14) rfl ?_
    refine Vw.getI (de_getfield (B 14 _ rfl) (B 15 _ rfl) (B 16 _ rfl)) fl_X4_108 rfl hp.p0.p0.k (n := 17) rfl ?_
    rw [kJ.1]
    refine Vw.icmp_ge (tgt := 59) (n := 20) (de_icmp_ge (B 17 _ rfl) (B 18 _ rfl) (B 19 _ rfl)) rfl rfl (fun c_17 => ?_) (fun c_17 => ?_)
    · have z_17 : np ≤ q := ((nI_leI (a := np) (b := q) (by omega) (by omega)).mp c_17)
      obtain rfl : q = np := by omega
      refine Vw.iload_n (de_iload_3 (B 59 _ rfl)) 3 rfl (n := 60) rfl ?_
      exact Vw.iret (de_ireturn (B 60 _ rfl)) rfl ⟨_, rfl, (h J M fJ fM)⟩
    have z_17 : q < np := by rcases Nat.lt_or_ge q np with z | z; exact z; exact absurd ((nI_leI (a := np) (b := q) (by omega) (by omega)).mpr z) c_17
    refine Vw.aload_n (de_aload_0 (B 20 _ rfl)) 0 rfl (n := 21) rfl ?_
    refine Vw.getR (de_getfield (B 21 _ rfl) (B 22 _ rfl) (B 23 _ rfl)) fl_X4_49 rfl hp.k hp.f0 (n := 24) rfl ?_
    refine Vw.getR (de_getfield (B 24 _ rfl) (B 25 _ rfl) (B 26 _ rfl)) fl_X4_57 rfl hp.p0.k hp.p0.f0 (n := 27) rfl ?_
    refine Vw.iload (de_iload (B 27 _ rfl) (B 28 _ rfl)) 4 rfl (n := 29) rfl ?_
    refine Vw.ivi1 (mi' := mX9_coatsWornBy) (de_invokevirtual (B 29 _ rfl) (B 30 _ rfl) (B 31 _ rfl)) ml_X4_111 mv_X9_coatsWornBy hp.p0.p0.k (Nat.le_of_ble_eq_true rfl) (n := 32) rfl (c_X9_coatsWornBy hT kJ h10 ?_)
    refine Vw.if_le (tgt := 53) (n := 35) (de_if_le (B 32 _ rfl) (B 33 _ rfl) (B 34 _ rfl)) rfl rfl (fun c_32 => ?_) (fun c_32 => ?_)
    · refine Vw.iinc (v := nI (q + 1)) (lv2 := [(0, _), (1, _), (2, _), (3, _), (4, _)]) (de_iinc (B 53 _ rfl) (B 54 _ rfl) (B 55 _ rfl)) 4 rfl (nI_1 q) (by decide) [1, 2, 3, 4, 0] rfl (n := 56) rfl ?_
      refine Vw.goto_ (n := 5) (de_goto_ (B 56 _ rfl) (B 57 _ rfl) (B 58 _ rfl)) rfl ?_
      first
      | (have z := ih z_17 J M fJ fM; rw [getK, if_neg (Int32.not_lt.mpr c_32), Int32.add_zero] at z; exact z)
      | (have z := ih z_17 I4 M4 ((fJ.trans f3).trans (fun b g1 g2 g3 => f4 b g1 g2 (by omega))) ((fM.trans m3).trans m4); rw [getK, if_pos (Int32.not_le.mp c_32)] at z; exact z)
    refine Vw.aload_n (de_aload_0 (B 35 _ rfl)) 0 rfl (n := 36) rfl ?_
    refine Vw.iload (de_iload (B 36 _ rfl) (B 37 _ rfl)) 4 rfl (n := 38) rfl ?_
    refine Vw.iload_n (de_iload_2 (B 38 _ rfl)) 2 rfl (n := 39) rfl ?_
    refine Vw.ivv2 (mi' := mX4_walk) (de_invokevirtual (B 39 _ rfl) (B 40 _ rfl) (B 41 _ rfl)) ml_X4_115 mv_X4_walk hp.k (Nat.le_of_ble_eq_true rfl) (n := 42) rfl (c_X4_walk hp kJ hN wJ hlb z_17 hn (fun I3 M3 f3 m3 p3 o3 => ?_))
    refine Vw.iload_n (de_iload_3 (B 42 _ rfl)) 3 rfl (n := 43) rfl ?_
    refine Vw.aload_n (de_aload_0 (B 43 _ rfl)) 0 rfl (n := 44) rfl ?_
    refine Vw.iload (de_iload (B 44 _ rfl) (B 45 _ rfl)) 4 rfl (n := 46) rfl ?_
    refine Vw.iload_n (de_iload_1 (B 46 _ rfl)) 1 rfl (n := 47) rfl ?_
    refine Vw.iload_n (de_iload_2 (B 47 _ rfl)) 2 rfl (n := 48) rfl ?_
    refine Vw.ivi3 (mi' := mX4_willGetBy) (de_invokevirtual (B 48 _ rfl) (B 49 _ rfl) (B 50 _ rfl)) ml_X4_118 mv_X4_willGetBy hp.k (Nat.le_of_ble_eq_true rfl) (n := 51) rfl (c_X4_willGetBy hp (f3.tr kJ h8 h10) hN (f3.wc wJ hlb) hlb z_17 hn p3 (fun I4 M4 f4 m4 => ?_))
    refine Vw.iadd (de_iadd (B 51 _ rfl)) (n := 52) rfl ?_
    refine Vw.istore_n (lv2 := [(0, _), (1, _), (2, _), (3, _), (4, _)]) (de_istore_3 (B 52 _ rfl)) rfl (by decide) [1, 2, 3, 0, 4] rfl (n := 53) rfl ?_
    refine Vw.iinc (v := nI (q + 1)) (lv2 := [(0, _), (1, _), (2, _), (3, _), (4, _)]) (de_iinc (B 53 _ rfl) (B 54 _ rfl) (B 55 _ rfl)) 4 rfl (nI_1 q) (by decide) [1, 2, 3, 4, 0] rfl (n := 56) rfl ?_
    refine Vw.goto_ (n := 5) (de_goto_ (B 56 _ rfl) (B 57 _ rfl) (B 58 _ rfl)) rfl ?_
    first
    | (have z := ih z_17 J M fJ fM; rw [getK, if_neg (Int32.not_lt.mpr c_32), Int32.add_zero] at z; exact z)
    | (have z := ih z_17 I4 M4 ((fJ.trans f3).trans (fun b g1 g2 g3 => f4 b g1 g2 (by omega))) ((fM.trans m3).trans m4); rw [getK, if_pos (Int32.not_le.mp c_32)] at z; exact z)
  refine Vw.iconst (v := 0) (de_iconst_0 (B 0 _ rfl)) rfl (n := 1) rfl ?_
  refine Vw.istore_n (lv2 := [(0, _), (1, _), (2, _), (3, _)]) (de_istore_3 (B 1 _ rfl)) rfl (by decide) [1, 2, 3, 0] rfl (n := 2) rfl ?_
  refine Vw.iconst (v := 0) (de_iconst_0 (B 2 _ rfl)) rfl (n := 3) rfl ?_
  refine Vw.istore (lv2 := [(0, _), (1, _), (2, _), (3, _), (4, _)]) (de_istore (B 3 _ rfl) (B 4 _ rfl)) (by decide) [1, 2, 3, 4, 0] rfl (n := 5) rfl ?_
  exact loop 0 (Nat.zero_le _) I L FP.rfl Lev.rfl
