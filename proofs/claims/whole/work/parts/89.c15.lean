/-! Sights in the class -/
def SR (I : vI) (s : Nat) (K : Nat → Int32) (ns : Nat) : Prop := I s 9 = nI ns ∧ ns ≤ 6 ∧ ∀ i, i < ns → I (s + 25) i = K (122 + 3 * i) ∧ I (s + 26) i = K (122 + 3 * i + 1) ∧ I (s + 27) i = K (122 + 3 * i + 2)
theorem SR.of {I J : vI} {s ns : Nat} {K : Nat → Int32} (h : SR I s K ns) (e0 : J s = I s) (e : ∀ b, s + 25 ≤ b → b ≤ s + 27 → J b = I b) : SR J s K ns := ⟨by rw [e0]; exact h.1, h.2.1, fun i hi => by rw [e _ (by omega) (by omega), e _ (by omega) (by omega), e _ (by omega) (by omega)]; exact h.2.2 i hi⟩
theorem FP.sr {s ns : Nat} {I J : vI} {K : Nat → Int32} (f : FP s I J) (h : SR I s K ns) : SR J s K ns := h.of (f s (by omega) (by omega) (by omega)) (fun b g1 g2 => f b (by omega) (by omega) (by omega))
def SB (K : Nat → Int32) (ns : Nat) : Prop := ∀ i, i < ns → ∃ e, 1 ≤ e ∧ e ≤ 40 ∧ K (122 + 3 * i) = nI e
def lastN (K : Nat → Int32) (q : Int32) : Nat → Nat
  | 0 => 0
  | i + 1 => if K (122 + 3 * i + 1) = q then (if (K (122 + 3 * i)).toNatClampNeg ≤ lastN K q i then lastN K q i else (K (122 + 3 * i)).toNatClampNeg) else lastN K q i
theorem lastN_le {K : Nat → Int32} {q : Int32} {ns : Nat} (h : SB K ns) : ∀ i, i ≤ ns → lastN K q i ≤ 40
  | 0, _ => Nat.zero_le _
  | i + 1, hi => by
    have ih := lastN_le (q := q) h i (by omega)
    obtain ⟨e, h1, h2, h3⟩ := h i (by omega)
    rw [lastN, h3, nI_cl (by omega)]
    split
    · split <;> omega
    · exact ih
def sawK (f : Nat → tP) (K : Nat → Int32) (q ns : Nat) : Nat → Bool
  | 0 => true
  | k + 1 => sawK f K q ns k && okS K (nI q) (nI (k + 1)) (f (k + 1)).2.2.1 ns
theorem sawK_f {f : Nat → tP} {K : Nat → Int32} {q ns k : Nat} (h : sawK f K q ns k = false) : ∀ {t : Nat}, k ≤ t → sawK f K q ns t = false := by
  intro t
  induction t with
  | zero => intro z; rw [show k = 0 by omega] at h; exact h
  | succ t ih =>
    intro z
    rcases Nat.lt_or_ge k (t + 1) with z2 | z2
    · rw [sawK, ih (by omega)]; rfl
    · rw [show t + 1 = k by omega]; exact h
theorem c_X4_isSeen {d : Nat} {S : vS} {I : vI} {L : vL} {Q : Int32 → vS → vI → vL → Prop} {s ns q : Nat} {x y : Int32} {K : Nat → Int32} (hp : PlanS S (s + 33) s (s + 28)) (hs : SR I s K ns) (h : Q (bI (okS K (nI q) x y ns)) S I L) : Vc mX4_isSeen d 0 0 [.ref (s + 33), .int (nI q), .int x, .int y] S I L (ViQ Q) := by
  refine Vc.of rfl (Nat.le_of_ble_eq_true rfl) ?_
  have B := bs_X4_isSeen
  show Vw mX4_isSeen d 0 0 0 0 (ViQ Q) 0 [(0, .ref (s + 33)), (1, .int (nI q)), (2, .int x), (3, .int y)] [] S I L
  have h6 := hs.2.1
  have loop : ∀ i, i ≤ ns → okS K (nI q) x y i = true → Vw mX4_isSeen d 0 0 0 0 (ViQ Q) 3 [(0, .ref (s + 33)), (1, .int (nI q)), (2, .int x), (3, .int y), (4, .int (nI i))] [] S I L := by
    refine loop_up (fun i hi ih => ?_)
    intro eo
    refine Vw.iload (de_iload (B 3 _ rfl) (B 4 _ rfl)) 4 rfl (n := 5) rfl ?_
    refine Vw.aload_n (de_aload_0 (B 5 _ rfl)) 0 rfl (n := 6) rfl ?_
    refine Vw.getR (de_getfield (B 6 _ rfl) (B 7 _ rfl) (B 8 _ rfl)) fl_X4_49 rfl hp.k hp.f0 (n := 9) rfl ?_
    refine Vw.getI (de_getfield (B 9 _ rfl) (B 10 _ rfl) (B 11 _ rfl)) fl_X4_213 rfl hp.p0.k (n := 12) rfl ?_
    rw [hs.1]
    refine Vw.icmp_ge (tgt := 65) (n := 15) (de_icmp_ge (B 12 _ rfl) (B 13 _ rfl) (B 14 _ rfl)) rfl rfl (fun c_12 => ?_) (fun c_12 => ?_)
    · have z_12 : ns ≤ i := ((nI_leI (a := ns) (b := i) (by omega) (by omega)).mp c_12)
      obtain rfl : i = ns := by omega
      refine Vw.iconst (v := 1) (de_iconst_1 (B 65 _ rfl)) rfl (n := 66) rfl ?_
      exact Vw.zret (de_ireturn (B 66 _ rfl)) rfl rfl ⟨_, rfl, (by rw [eo] at h; exact h)⟩
    have z_12 : i < ns := by rcases Nat.lt_or_ge i ns with z | z; exact z; exact absurd ((nI_leI (a := ns) (b := i) (by omega) (by omega)).mpr z) c_12
    obtain ⟨r1, r2, r3⟩ := hs.2.2 i z_12
    refine Vw.aload_n (de_aload_0 (B 15 _ rfl)) 0 rfl (n := 16) rfl ?_
    refine Vw.getR (de_getfield (B 16 _ rfl) (B 17 _ rfl) (B 18 _ rfl)) fl_X4_49 rfl hp.k hp.f0 (n := 19) rfl ?_
    refine Vw.getR (de_getfield (B 19 _ rfl) (B 20 _ rfl) (B 21 _ rfl)) fl_X4_216 rfl hp.p0.k hp.p0.f7 (n := 22) rfl ?_
    refine Vw.iload (de_iload (B 22 _ rfl) (B 23 _ rfl)) 4 rfl (n := 24) rfl ?_
    refine Vw.iald (de_iaload (B 24 _ rfl)) hp.p0.r7 (vIx_n (k := i) rfl (by omega)) (n := 25) rfl ?_
    rw [r2]
    refine Vw.iload_n (de_iload_1 (B 25 _ rfl)) 1 rfl (n := 26) rfl ?_
    refine Vw.icmp_ne (tgt := 59) (n := 29) (de_icmp_ne (B 26 _ rfl) (B 27 _ rfl) (B 28 _ rfl)) rfl rfl (fun c_26 => ?_) (fun c_26 => ?_)
    · refine Vw.iinc (v := nI (i + 1)) (lv2 := [(0, _), (1, _), (2, _), (3, _), (4, _)]) (de_iinc (B 59 _ rfl) (B 60 _ rfl) (B 61 _ rfl)) 4 rfl (nI_1 i) (by decide) [1, 2, 3, 4, 0] rfl (n := 62) rfl ?_
      refine Vw.goto_ (n := 3) (de_goto_ (B 62 _ rfl) (B 63 _ rfl) (B 64 _ rfl)) rfl ?_
      exact ih z_12 (okS_y eo (by first | exact Or.inr (Or.inl c_26) | exact Or.inl c_40 | exact Or.inr (Or.inr c_54)))
    refine Vw.aload_n (de_aload_0 (B 29 _ rfl)) 0 rfl (n := 30) rfl ?_
    refine Vw.getR (de_getfield (B 30 _ rfl) (B 31 _ rfl) (B 32 _ rfl)) fl_X4_49 rfl hp.k hp.f0 (n := 33) rfl ?_
    refine Vw.getR (de_getfield (B 33 _ rfl) (B 34 _ rfl) (B 35 _ rfl)) fl_X4_219 rfl hp.p0.k hp.p0.f6 (n := 36) rfl ?_
    refine Vw.iload (de_iload (B 36 _ rfl) (B 37 _ rfl)) 4 rfl (n := 38) rfl ?_
    refine Vw.iald (de_iaload (B 38 _ rfl)) hp.p0.r6 (vIx_n (k := i) rfl (by omega)) (n := 39) rfl ?_
    rw [r1]
    refine Vw.iload_n (de_iload_2 (B 39 _ rfl)) 2 rfl (n := 40) rfl ?_
    refine Vw.icmp_ne (tgt := 59) (n := 43) (de_icmp_ne (B 40 _ rfl) (B 41 _ rfl) (B 42 _ rfl)) rfl rfl (fun c_40 => ?_) (fun c_40 => ?_)
    · refine Vw.iinc (v := nI (i + 1)) (lv2 := [(0, _), (1, _), (2, _), (3, _), (4, _)]) (de_iinc (B 59 _ rfl) (B 60 _ rfl) (B 61 _ rfl)) 4 rfl (nI_1 i) (by decide) [1, 2, 3, 4, 0] rfl (n := 62) rfl ?_
      refine Vw.goto_ (n := 3) (de_goto_ (B 62 _ rfl) (B 63 _ rfl) (B 64 _ rfl)) rfl ?_
      exact ih z_12 (okS_y eo (by first | exact Or.inr (Or.inl c_26) | exact Or.inl c_40 | exact Or.inr (Or.inr c_54)))
    refine Vw.aload_n (de_aload_0 (B 43 _ rfl)) 0 rfl (n := 44) rfl ?_
    refine Vw.getR (de_getfield (B 44 _ rfl) (B 45 _ rfl) (B 46 _ rfl)) fl_X4_49 rfl hp.k hp.f0 (n := 47) rfl ?_
    refine Vw.getR (de_getfield (B 47 _ rfl) (B 48 _ rfl) (B 49 _ rfl)) fl_X4_228 rfl hp.p0.k hp.p0.f8 (n := 50) rfl ?_
    refine Vw.iload (de_iload (B 50 _ rfl) (B 51 _ rfl)) 4 rfl (n := 52) rfl ?_
    refine Vw.iald (de_iaload (B 52 _ rfl)) hp.p0.r8 (vIx_n (k := i) rfl (by omega)) (n := 53) rfl ?_
    rw [r3]
    refine Vw.iload_n (de_iload_3 (B 53 _ rfl)) 3 rfl (n := 54) rfl ?_
    refine Vw.icmp_eq (tgt := 59) (n := 57) (de_icmp_eq (B 54 _ rfl) (B 55 _ rfl) (B 56 _ rfl)) rfl rfl (fun c_54 => ?_) (fun c_54 => ?_)
    · refine Vw.iinc (v := nI (i + 1)) (lv2 := [(0, _), (1, _), (2, _), (3, _), (4, _)]) (de_iinc (B 59 _ rfl) (B 60 _ rfl) (B 61 _ rfl)) 4 rfl (nI_1 i) (by decide) [1, 2, 3, 4, 0] rfl (n := 62) rfl ?_
      refine Vw.goto_ (n := 3) (de_goto_ (B 62 _ rfl) (B 63 _ rfl) (B 64 _ rfl)) rfl ?_
      exact ih z_12 (okS_y eo (by first | exact Or.inr (Or.inl c_26) | exact Or.inl c_40 | exact Or.inr (Or.inr c_54)))
    refine Vw.iconst (v := 0) (de_iconst_0 (B 57 _ rfl)) rfl (n := 58) rfl ?_
    exact Vw.zret (de_ireturn (B 58 _ rfl)) rfl rfl ⟨_, rfl, (by rw [okS_f (okS_b c_40 c_26 c_54) z_12] at h; exact h)⟩
  refine Vw.iconst (v := 0) (de_iconst_0 (B 0 _ rfl)) rfl (n := 1) rfl ?_
  refine Vw.istore (lv2 := [(0, _), (1, _), (2, _), (3, _), (4, _)]) (de_istore (B 1 _ rfl) (B 2 _ rfl)) (by decide) [1, 2, 3, 4, 0] rfl (n := 3) rfl ?_
  exact loop 0 (Nat.zero_le _) rfl
theorem c_X4_lastSight {d : Nat} {S : vS} {I : vI} {L : vL} {Q : Int32 → vS → vI → vL → Prop} {s ns q : Nat} {K : Nat → Int32} (hp : PlanS S (s + 33) s (s + 28)) (hs : SR I s K ns) (hb : SB K ns) (h : Q (nI (lastN K (nI q) ns)) S I L) : Vc mX4_lastSight (d + 1) 0 0 [.ref (s + 33), .int (nI q)] S I L (ViQ Q) := by
  refine Vc.of rfl (Nat.le_of_ble_eq_true rfl) ?_
  have B := bs_X4_lastSight
  show Vw mX4_lastSight (d + 1) 0 0 0 0 (ViQ Q) 0 [(0, .ref (s + 33)), (1, .int (nI q))] [] S I L
  have h6 := hs.2.1
  have loop : ∀ i, i ≤ ns → Vw mX4_lastSight (d + 1) 0 0 0 0 (ViQ Q) 4 [(0, .ref (s + 33)), (1, .int (nI q)), (2, .int (nI (lastN K (nI q) i))), (3, .int (nI i))] [] S I L := by
    refine loop_up (fun i hi ih => ?_)
    have hl := lastN_le (q := nI q) hb i hi
    refine Vw.iload_n (de_iload_3 (B 4 _ rfl)) 3 rfl (n := 5) rfl ?_
    refine Vw.aload_n (de_aload_0 (B 5 _ rfl)) 0 rfl (n := 6) rfl ?_
    refine Vw.getR (de_getfield (B 6 _ rfl) (B 7 _ rfl) (B 8 _ rfl)) fl_X4_49 rfl hp.k hp.f0 (n := 9) rfl ?_
    refine Vw.getI (de_getfield (B 9 _ rfl) (B 10 _ rfl) (B 11 _ rfl)) fl_X4_213 rfl hp.p0.k (n := 12) rfl ?_
    rw [hs.1]
    refine Vw.icmp_ge (tgt := 48) (n := 15) (de_icmp_ge (B 12 _ rfl) (B 13 _ rfl) (B 14 _ rfl)) rfl rfl (fun c_12 => ?_) (fun c_12 => ?_)
    · have z_12 : ns ≤ i := ((nI_leI (a := ns) (b := i) (by omega) (by omega)).mp c_12)
      obtain rfl : i = ns := by omega
      refine Vw.iload_n (de_iload_2 (B 48 _ rfl)) 2 rfl (n := 49) rfl ?_
      exact Vw.iret (de_ireturn (B 49 _ rfl)) rfl ⟨_, rfl, h⟩
    have z_12 : i < ns := by rcases Nat.lt_or_ge i ns with z | z; exact z; exact absurd ((nI_leI (a := ns) (b := i) (by omega) (by omega)).mpr z) c_12
    obtain ⟨r1, r2, r3⟩ := hs.2.2 i z_12
    obtain ⟨e, e1, e2, e3⟩ := hb i z_12
    refine Vw.aload_n (de_aload_0 (B 15 _ rfl)) 0 rfl (n := 16) rfl ?_
    refine Vw.getR (de_getfield (B 16 _ rfl) (B 17 _ rfl) (B 18 _ rfl)) fl_X4_49 rfl hp.k hp.f0 (n := 19) rfl ?_
    refine Vw.getR (de_getfield (B 19 _ rfl) (B 20 _ rfl) (B 21 _ rfl)) fl_X4_216 rfl hp.p0.k hp.p0.f7 (n := 22) rfl ?_
    refine Vw.iload_n (de_iload_3 (B 22 _ rfl)) 3 rfl (n := 23) rfl ?_
    refine Vw.iald (de_iaload (B 23 _ rfl)) hp.p0.r7 (vIx_n (k := i) rfl (by omega)) (n := 24) rfl ?_
    rw [r2]
    refine Vw.iload_n (de_iload_1 (B 24 _ rfl)) 1 rfl (n := 25) rfl ?_
    refine Vw.icmp_ne (tgt := 42) (n := 28) (de_icmp_ne (B 25 _ rfl) (B 26 _ rfl) (B 27 _ rfl)) rfl rfl (fun c_25 => ?_) (fun c_25 => ?_)
    · refine Vw.iinc (v := nI (i + 1)) (lv2 := [(0, _), (1, _), (2, _), (3, _)]) (de_iinc (B 42 _ rfl) (B 43 _ rfl) (B 44 _ rfl)) 3 rfl (nI_1 i) (by decide) [1, 2, 3, 0] rfl (n := 45) rfl ?_
      refine Vw.goto_ (n := 4) (de_goto_ (B 45 _ rfl) (B 46 _ rfl) (B 47 _ rfl)) rfl ?_
      first
      | (have z := ih z_12; rw [lastN, if_neg c_25] at z; exact z)
      | (have z := ih z_12
         rw [lastN, if_pos c_25, e3, nI_cl (by omega)] at z
         have ez : zMax (nI e) (nI (lastN K (nI q) i)) = nI (if e ≤ lastN K (nI q) i then lastN K (nI q) i else e) := by
           unfold zMax
           by_cases y : e ≤ lastN K (nI q) i
           · rw [if_pos y, if_pos ((nI_leI (by omega) (by omega)).mpr y)]
           · rw [if_neg y, if_neg (fun x => y ((nI_leI (by omega) (by omega)).mp x))]
         rw [ez]
         exact z)
    refine Vw.iload_n (de_iload_2 (B 28 _ rfl)) 2 rfl (n := 29) rfl ?_
    refine Vw.aload_n (de_aload_0 (B 29 _ rfl)) 0 rfl (n := 30) rfl ?_
    refine Vw.getR (de_getfield (B 30 _ rfl) (B 31 _ rfl) (B 32 _ rfl)) fl_X4_49 rfl hp.k hp.f0 (n := 33) rfl ?_
    refine Vw.getR (de_getfield (B 33 _ rfl) (B 34 _ rfl) (B 35 _ rfl)) fl_X4_219 rfl hp.p0.k hp.p0.f6 (n := 36) rfl ?_
    refine Vw.iload_n (de_iload_3 (B 36 _ rfl)) 3 rfl (n := 37) rfl ?_
    refine Vw.iald (de_iaload (B 37 _ rfl)) hp.p0.r6 (vIx_n (k := i) rfl (by omega)) (n := 38) rfl ?_
    rw [r1, e3]
    refine Vw.mmaxI (de_invokestatic (B 38 _ rfl) (B 39 _ rfl) (B 40 _ rfl)) ml_X4_165 (Nat.le_of_ble_eq_true rfl) (n := 41) rfl ?_
    refine Vw.istore_n (lv2 := [(0, _), (1, _), (2, _), (3, _)]) (de_istore_2 (B 41 _ rfl)) rfl (by decide) [1, 2, 0, 3] rfl (n := 42) rfl ?_
    refine Vw.iinc (v := nI (i + 1)) (lv2 := [(0, _), (1, _), (2, _), (3, _)]) (de_iinc (B 42 _ rfl) (B 43 _ rfl) (B 44 _ rfl)) 3 rfl (nI_1 i) (by decide) [1, 2, 3, 0] rfl (n := 45) rfl ?_
    refine Vw.goto_ (n := 4) (de_goto_ (B 45 _ rfl) (B 46 _ rfl) (B 47 _ rfl)) rfl ?_
    first
    | (have z := ih z_12; rw [lastN, if_neg c_25] at z; exact z)
    | (have z := ih z_12
       rw [lastN, if_pos c_25, e3, nI_cl (by omega)] at z
       have ez : zMax (nI e) (nI (lastN K (nI q) i)) = nI (if e ≤ lastN K (nI q) i then lastN K (nI q) i else e) := by
         unfold zMax
         by_cases y : e ≤ lastN K (nI q) i
         · rw [if_pos y, if_pos ((nI_leI (by omega) (by omega)).mpr y)]
         · rw [if_neg y, if_neg (fun x => y ((nI_leI (by omega) (by omega)).mp x))]
       rw [ez]
       exact z)
  refine Vw.iconst (v := 0) (de_iconst_0 (B 0 _ rfl)) rfl (n := 1) rfl ?_
  refine Vw.istore_n (lv2 := [(0, _), (1, _), (2, _)]) (de_istore_2 (B 1 _ rfl)) rfl (by decide) [1, 2, 0] rfl (n := 2) rfl ?_
  refine Vw.iconst (v := 0) (de_iconst_0 (B 2 _ rfl)) rfl (n := 3) rfl ?_
  refine Vw.istore_n (lv2 := [(0, _), (1, _), (2, _), (3, _)]) (de_istore_3 (B 3 _ rfl)) rfl (by decide) [1, 2, 3, 0] rfl (n := 4) rfl ?_
  exact loop 0 (Nat.zero_le _)
theorem c_X4_isSeenWalking {d : Nat} {S : vS} {I : vI} {L : vL} {Q : Int32 → vS → vI → vL → Prop} {s ns q n n2 : Nat} {K : Nat → Int32} {f : Nat → tP} (hp : PlanS S (s + 33) s (s + 28)) (hs : SR I s K ns) (hP : PW I s f n2) (hn : n ≤ n2) (hn8 : n ≤ 80) (h : Q (bI (sawK f K q ns n)) S I L) : Vc mX4_isSeenWalking (d + 1) 0 0 [.ref (s + 33), .int (nI q), .int (nI n)] S I L (ViQ Q) := by
  refine Vc.of rfl (Nat.le_of_ble_eq_true rfl) ?_
  have B := bs_X4_isSeenWalking
  show Vw mX4_isSeenWalking (d + 1) 0 0 0 0 (ViQ Q) 0 [(0, .ref (s + 33)), (1, .int (nI q)), (2, .int (nI n))] [] S I L
  have loop : ∀ k, k ≤ n → sawK f K q ns k = true → Vw mX4_isSeenWalking (d + 1) 0 0 0 0 (ViQ Q) 2 [(0, .ref (s + 33)), (1, .int (nI q)), (2, .int (nI n)), (3, .int (nI (k + 1)))] [] S I L := by
    refine loop_up (fun k hk ih => ?_)
    intro eo
    refine Vw.iload_n (de_iload_3 (B 2 _ rfl)) 3 rfl (n := 3) rfl ?_
    refine Vw.iload_n (de_iload_2 (B 3 _ rfl)) 2 rfl (n := 4) rfl ?_
    refine Vw.icmp_gt (tgt := 30) (n := 7) (de_icmp_gt (B 4 _ rfl) (B 5 _ rfl) (B 6 _ rfl)) rfl rfl (fun c_4 => ?_) (fun c_4 => ?_)
    · have z_4 : ¬ k + 1 ≤ n := fun z => absurd c_4 (Int32.not_lt.mpr ((nI_leI (a := k + 1) (b := n) (by omega) (by omega)).mpr z))
      obtain rfl : k = n := by omega
      refine Vw.iconst (v := 1) (de_iconst_1 (B 30 _ rfl)) rfl (n := 31) rfl ?_
      exact Vw.zret (de_ireturn (B 31 _ rfl)) rfl rfl ⟨_, rfl, (by rw [eo] at h; exact h)⟩
    have z_4 : k < n := (nI_leI (a := k + 1) (b := n) (by omega) (by omega)).mp (Int32.not_lt.mp c_4)
    refine Vw.aload_n (de_aload_0 (B 7 _ rfl)) 0 rfl (n := 8) rfl ?_
    refine Vw.iload_n (de_iload_1 (B 8 _ rfl)) 1 rfl (n := 9) rfl ?_
    refine Vw.iload_n (de_iload_3 (B 9 _ rfl)) 3 rfl (n := 10) rfl ?_
    refine Vw.aload_n (de_aload_0 (B 10 _ rfl)) 0 rfl (n := 11) rfl ?_
    refine Vw.getR (de_getfield (B 11 _ rfl) (B 12 _ rfl) (B 13 _ rfl)) fl_X4_25 rfl hp.k hp.f5 (n := 14) rfl ?_
    refine Vw.iload_n (de_iload_3 (B 14 _ rfl)) 3 rfl (n := 15) rfl ?_
    refine Vw.iald (de_iaload (B 15 _ rfl)) hp.r5 (vIx_n (k := k + 1) (by simp only [nI_A, nI_M, Int32.zero_add, Int32.add_zero] <;> rfl) (by omega)) (n := 16) rfl ?_
    rw [show I (s + 33 + 4) (k + 1) = (f (k + 1)).2.2.1 from (hP (k + 1) (by omega)).2.2]
    refine Vw.ivi3 (mi' := mX4_isSeen) (de_invokevirtual (B 16 _ rfl) (B 17 _ rfl) (B 18 _ rfl)) ml_X4_222 mv_X4_isSeen hp.k (Nat.le_of_ble_eq_true rfl) (n := 19) rfl (c_X4_isSeen hp hs ?_)
    refine Vw.if_ne (tgt := 24) (n := 22) (de_if_ne (B 19 _ rfl) (B 20 _ rfl) (B 21 _ rfl)) rfl rfl (fun c_19 => ?_) (fun c_19 => ?_)
    · refine Vw.iinc (v := nI (k + 1 + 1)) (lv2 := [(0, _), (1, _), (2, _), (3, _)]) (de_iinc (B 24 _ rfl) (B 25 _ rfl) (B 26 _ rfl)) 3 rfl (nI_1 (k + 1)) (by decide) [1, 2, 3, 0] rfl (n := 27) rfl ?_
      refine Vw.goto_ (n := 2) (de_goto_ (B 27 _ rfl) (B 28 _ rfl) (B 29 _ rfl)) rfl ?_
      refine ih z_4 ?_
      rw [sawK, eo]
      cases hb : okS K (nI q) (nI (k + 1)) (f (k + 1)).2.2.1 ns with
      | true => rfl
      | false => rw [hb] at c_19; exact absurd rfl c_19
    refine Vw.iconst (v := 0) (de_iconst_0 (B 22 _ rfl)) rfl (n := 23) rfl ?_
    exact Vw.zret (de_ireturn (B 23 _ rfl)) rfl rfl ⟨_, rfl, (by rw [sawK_f (k := k + 1) (by cases hb : okS K (nI q) (nI (k + 1)) (f (k + 1)).2.2.1 ns with | false => rw [sawK, hb, Bool.and_false] | true => rw [hb] at c_19; exact absurd c_19 (by decide)) z_4] at h; exact h)⟩
  refine Vw.iconst (v := 1) (de_iconst_1 (B 0 _ rfl)) rfl (n := 1) rfl ?_
  refine Vw.istore_n (lv2 := [(0, _), (1, _), (2, _), (3, _)]) (de_istore_3 (B 1 _ rfl)) rfl (by decide) [1, 2, 3, 0] rfl (n := 2) rfl ?_
  exact loop 0 (Nat.zero_le _) rfl
theorem walkF_b {W : tW} {p now : Int32} {P : tP} {j : Nat} (hj : j < 100000) : ∀ {k : Nat}, k < j → walkF W p now P (nI j) k = walkP W p now P k
  | 0, _ => rfl
  | k + 1, h => by rw [walkF, walkP, if_neg (fun z => absurd (nI_inj (by omega) (by omega) z) (by omega)), walkF_b hj (by omega)]
theorem walkF_at {W : tW} {p now : Int32} {P : tP} {j : Nat} (hj : j + 1 < 100000) : walkF W p now P (nI (j + 1)) (j + 1) = feastP (walkP W p now P (j + 1)) := by
  rw [walkF, if_pos rfl, walkF_b hj (Nat.lt_succ_self j), walkP]
theorem soK_saw {W : tW} {K : Nat → Int32} {q ns j : Nat} (hj : j < 100000) : ∀ {k : Nat}, k < j → soK W K q (nI j) ns k = sawK (walkP W (nI q) (K 121) (perP K q)) K q ns k
  | 0, _ => rfl
  | k + 1, h => by rw [soK, sawK, soK_saw hj (by omega), walkF_b hj (by omega)]
theorem c_X4_isSeenWithFeast {d : Nat} {S : vS} {I : vI} {L : vL} {Q : Int32 → vS → vI → vL → Prop} {s lb np nc : Nat} {K : Nat → Int32} {W : tW} {ns q j n : Nat} (hp : PlanS S (s + 33) s (s + 28)) (hK : TR I (s + 1) K np nc) (hN : TN K np nc) (hW : WC S I s lb W) (hlb : s + 66 ≤ lb) (hs : SR I s K ns) (hq : q < np) (hP : PW I s (walkP W (nI q) (K 121) (perP K q)) n) (hj : j + 1 ≤ n) (hn : n ≤ 40) (h : ∀ I2 M, FP s I I2 → (∀ b, s + 35 ≤ b → b ≤ s + 41 → I2 b = I b) → Lev (s + 28) L M → Q (bI (soK W K q (nI (j + 1)) ns n)) S I2 M) : Vc mX4_isSeenWithFeast (d + 4) 0 0 [.ref (s + 33), .int (nI q), .int (nI (j + 1)), .int (nI n)] S I L (ViQ Q) := by
  refine Vc.of rfl (Nat.le_of_ble_eq_true rfl) ?_
  have B := bs_X4_isSeenWithFeast
  show Vw mX4_isSeenWithFeast (d + 4) 0 0 0 0 (ViQ Q) 0 [(0, .ref (s + 33)), (1, .int (nI q)), (2, .int (nI (j + 1))), (3, .int (nI n))] [] S I L
  have h8 := hN.1
  have h10 := hN.2.1
  have hT := hp.p0.p0
  have hR := hp.p1
  have seen : ∀ k, j ≤ k → k < n → (∀ J M, FP s I J → (∀ b, s + 35 ≤ b → b ≤ s + 41 → J b = I b) → Lev (s + 28) L M → perA J (s + 34) = walkF W (nI q) (K 121) (perP K q) (nI (j + 1)) (k + 1) → soK W K q (nI (j + 1)) ns (k + 1) = true → Vw mX4_isSeenWithFeast (d + 4) 0 0 0 0 (ViQ Q) 43 [(0, .ref (s + 33)), (1, .int (nI q)), (2, .int (nI (j + 1))), (3, .int (nI n)), (4, .int (nI (k + 1 + 1)))] [] S J M) → ∀ J M, FP s I J → (∀ b, s + 35 ≤ b → b ≤ s + 41 → J b = I b) → Lev (s + 28) L M → perA J (s + 34) = walkF W (nI q) (K 121) (perP K q) (nI (j + 1)) (k + 1) → soK W K q (nI (j + 1)) ns k = true → Vw mX4_isSeenWithFeast (d + 4) 0 0 0 0 (ViQ Q) 82 [(0, .ref (s + 33)), (1, .int (nI q)), (2, .int (nI (j + 1))), (3, .int (nI n)), (4, .int (nI (k + 1)))] [] S J M := by
    intro k hk hkn nx J M fJ eJ fM oJ so
    refine Vw.aload_n (de_aload_0 (B 82 _ rfl)) 0 rfl (n := 83) rfl ?_
    refine Vw.iload_n (de_iload_1 (B 83 _ rfl)) 1 rfl (n := 84) rfl ?_
    refine Vw.iload (de_iload (B 84 _ rfl) (B 85 _ rfl)) 4 rfl (n := 86) rfl ?_
    refine Vw.aload_n (de_aload_0 (B 86 _ rfl)) 0 rfl (n := 87) rfl ?_
    refine Vw.getR (de_getfield (B 87 _ rfl) (B 88 _ rfl) (B 89 _ rfl)) fl_X4_12 rfl hp.k hp.f2 (n := 90) rfl ?_
    refine Vw.getI (de_getfield (B 90 _ rfl) (B 91 _ rfl) (B 92 _ rfl)) fl_X4_90 rfl hp.ko2 (n := 93) rfl ?_
    rw [show J (s + 33 + 1) 2 = _ from (perAe oJ).2.2.1]
    refine Vw.ivi3 (mi' := mX4_isSeen) (de_invokevirtual (B 93 _ rfl) (B 94 _ rfl) (B 95 _ rfl)) ml_X4_222 mv_X4_isSeen hp.k (Nat.le_of_ble_eq_true rfl) (n := 96) rfl (c_X4_isSeen hp (fJ.sr hs) ?_)
    refine Vw.if_ne (tgt := 101) (n := 99) (de_if_ne (B 96 _ rfl) (B 97 _ rfl) (B 98 _ rfl)) rfl rfl (fun c_96 => ?_) (fun c_96 => ?_)
    · refine Vw.iinc (v := nI (k + 1 + 1)) (lv2 := [(0, _), (1, _), (2, _), (3, _), (4, _)]) (de_iinc (B 101 _ rfl) (B 102 _ rfl) (B 103 _ rfl)) 4 rfl (nI_1 (k + 1)) (by decide) [1, 2, 3, 4, 0] rfl (n := 104) rfl ?_
      refine Vw.goto_ (n := 43) (de_goto_ (B 104 _ rfl) (B 105 _ rfl) (B 106 _ rfl)) rfl ?_
      refine nx J M fJ eJ fM oJ ?_
      rw [soK, so]
      cases hb : okS K (nI q) (nI (k + 1)) (walkF W (nI q) (K 121) (perP K q) (nI (j + 1)) (k + 1)).2.2.1 ns with
      | true => rfl
      | false => rw [hb] at c_96; exact absurd rfl c_96
    refine Vw.iconst (v := 0) (de_iconst_0 (B 99 _ rfl)) rfl (n := 100) rfl ?_
    exact Vw.zret (de_ireturn (B 100 _ rfl)) rfl rfl ⟨_, rfl, (by have e := h J M fJ eJ fM; rw [soK_f (k := k + 1) (by cases hb : okS K (nI q) (nI (k + 1)) (walkF W (nI q) (K 121) (perP K q) (nI (j + 1)) (k + 1)).2.2.1 ns with | false => rw [soK, hb, Bool.and_false] | true => rw [hb] at c_96; exact absurd c_96 (by decide)) hkn] at e; exact e)⟩
  have loop : ∀ k, k ≤ n → j < k → ∀ J M, FP s I J → (∀ b, s + 35 ≤ b → b ≤ s + 41 → J b = I b) → Lev (s + 28) L M → perA J (s + 34) = walkF W (nI q) (K 121) (perP K q) (nI (j + 1)) k → soK W K q (nI (j + 1)) ns k = true → Vw mX4_isSeenWithFeast (d + 4) 0 0 0 0 (ViQ Q) 43 [(0, .ref (s + 33)), (1, .int (nI q)), (2, .int (nI (j + 1))), (3, .int (nI n)), (4, .int (nI (k + 1)))] [] S J M := by
    refine loop_up (fun k hk ih => ?_)
    intro hjk J M fJ eJ fM oJ so
    refine Vw.iload (de_iload (B 43 _ rfl) (B 44 _ rfl)) 4 rfl (n := 45) rfl ?_
    refine Vw.iload_n (de_iload_3 (B 45 _ rfl)) 3 rfl (n := 46) rfl ?_
    refine Vw.icmp_gt (tgt := 107) (n := 49) (de_icmp_gt (B 46 _ rfl) (B 47 _ rfl) (B 48 _ rfl)) rfl rfl (fun c_46 => ?_) (fun c_46 => ?_)
    · have z_46 : ¬ k + 1 ≤ n := fun z => absurd c_46 (Int32.not_lt.mpr ((nI_leI (a := k + 1) (b := n) (by omega) (by omega)).mpr z))
      obtain rfl : k = n := by omega
      refine Vw.iconst (v := 1) (de_iconst_1 (B 107 _ rfl)) rfl (n := 108) rfl ?_
      exact Vw.zret (de_ireturn (B 108 _ rfl)) rfl rfl ⟨_, rfl, (by have e := h J M fJ eJ fM; rw [so] at e; exact e)⟩
    have z_46 : k < n := (nI_leI (a := k + 1) (b := n) (by omega) (by omega)).mp (Int32.not_lt.mp c_46)
    refine Vw.iload (de_iload (B 49 _ rfl) (B 50 _ rfl)) 4 rfl (n := 51) rfl ?_
    refine Vw.iload_n (de_iload_2 (B 51 _ rfl)) 2 rfl (n := 52) rfl ?_
    refine Vw.icmp_le (tgt := 82) (n := 55) (de_icmp_le (B 52 _ rfl) (B 53 _ rfl) (B 54 _ rfl)) rfl rfl (fun c_52 => ?_) (fun c_52 => ?_)
    · exact absurd ((nI_leI (a := k + 1) (b := j + 1) (by omega) (by omega)).mp c_52) (by omega)
    refine Vw.aload_n (de_aload_0 (B 55 _ rfl)) 0 rfl (n := 56) rfl ?_
    refine Vw.getR (de_getfield (B 56 _ rfl) (B 57 _ rfl) (B 58 _ rfl)) fl_X4_53 rfl hp.k hp.f1 (n := 59) rfl ?_
    refine Vw.aload_n (de_aload_0 (B 59 _ rfl)) 0 rfl (n := 60) rfl ?_
    refine Vw.getR (de_getfield (B 60 _ rfl) (B 61 _ rfl) (B 62 _ rfl)) fl_X4_12 rfl hp.k hp.f2 (n := 63) rfl ?_
    refine Vw.iload_n (de_iload_1 (B 63 _ rfl)) 1 rfl (n := 64) rfl ?_
    refine Vw.aload_n (de_aload_0 (B 64 _ rfl)) 0 rfl (n := 65) rfl ?_
    refine Vw.getR (de_getfield (B 65 _ rfl) (B 66 _ rfl) (B 67 _ rfl)) fl_X4_49 rfl hp.k hp.f0 (n := 68) rfl ?_
    refine Vw.getR (de_getfield (B 68 _ rfl) (B 69 _ rfl) (B 70 _ rfl)) fl_X4_57 rfl hp.p0.k hp.p0.f0 (n := 71) rfl ?_
    refine Vw.getI (de_getfield (B 71 _ rfl) (B 72 _ rfl) (B 73 _ rfl)) fl_X4_74 rfl hp.p0.p0.k (n := 74) rfl ?_
    rw [(fJ.tr hK h8 h10).2.2.1]
    refine Vw.iload (de_iload (B 74 _ rfl) (B 75 _ rfl)) 4 rfl (n := 76) rfl ?_
    refine Vw.iadd (de_iadd (B 76 _ rfl)) (n := 77) rfl ?_
    refine Vw.iconst (v := 1) (de_iconst_1 (B 77 _ rfl)) rfl (n := 78) rfl ?_
    refine Vw.isub (de_isub (B 78 _ rfl)) (n := 79) rfl ?_
    rw [nw_m1]
    refine Vw.ivv3 (mi' := mX6_growOlder) (de_invokevirtual (B 79 _ rfl) (B 80 _ rfl) (B 81 _ rfl)) ml_X4_78 mv_X6_growOlder hp.p1.k (Nat.le_of_ble_eq_true rfl) (n := 82) rfl (c_X6_growOlder hR hp.ko2 (fJ.wc hW hlb) (by omega) (fun I3 M3 f3 m3 e3 => ?_))
    refine seen k (by omega) z_46 (fun J M a1 a2 a3 a4 a5 => ih z_46 (by omega) J M a1 a2 a3 a4 a5) I3 M3 (fJ.trans (fun b g1 g2 g3 => f3 b (by omega) (by omega))) (fun b g1 g2 => (f3 b (by omega) (by omega)).trans (eJ b g1 g2)) (fM.trans m3) ?_ so
    rw [show s + 34 = s + 33 + 1 from rfl, e3, show s + 33 + 1 = s + 34 from rfl, oJ, walkF, if_neg (fun z => absurd (nI_inj (by omega) (by omega) z) (by omega))]
  refine Vw.aload_n (de_aload_0 (B 0 _ rfl)) 0 rfl (n := 1) rfl ?_
  refine Vw.iload_n (de_iload_1 (B 1 _ rfl)) 1 rfl (n := 2) rfl ?_
  refine Vw.iload_n (de_iload_2 (B 2 _ rfl)) 2 rfl (n := 3) rfl ?_
  refine Vw.iconst (v := 1) (de_iconst_1 (B 3 _ rfl)) rfl (n := 4) rfl ?_
  refine Vw.isub (de_isub (B 4 _ rfl)) (n := 5) rfl ?_
  rw [dn_p]
  refine Vw.ivi2 (mi' := mX4_isSeenWalking) (de_invokevirtual (B 5 _ rfl) (B 6 _ rfl) (B 7 _ rfl)) ml_X4_203 mv_X4_isSeenWalking hp.k (Nat.le_of_ble_eq_true rfl) (n := 8) rfl (c_X4_isSeenWalking hp hs hP (by omega) (by omega) ?_)
  refine Vw.if_ne (tgt := 13) (n := 11) (de_if_ne (B 8 _ rfl) (B 9 _ rfl) (B 10 _ rfl)) rfl rfl (fun c_8 => ?_) (fun c_8 => ?_)
  · refine Vw.aload_n (de_aload_0 (B 13 _ rfl)) 0 rfl (n := 14) rfl ?_
    refine Vw.iload_n (de_iload_2 (B 14 _ rfl)) 2 rfl (n := 15) rfl ?_
    refine Vw.aload_n (de_aload_0 (B 15 _ rfl)) 0 rfl (n := 16) rfl ?_
    refine Vw.getR (de_getfield (B 16 _ rfl) (B 17 _ rfl) (B 18 _ rfl)) fl_X4_49 rfl hp.k hp.f0 (n := 19) rfl ?_
    refine Vw.getR (de_getfield (B 19 _ rfl) (B 20 _ rfl) (B 21 _ rfl)) fl_X4_57 rfl hp.p0.k hp.p0.f0 (n := 22) rfl ?_
    refine Vw.getR (de_getfield (B 22 _ rfl) (B 23 _ rfl) (B 24 _ rfl)) fl_X4_62 rfl hp.p0.p0.k hp.p0.p0.f0 (n := 25) rfl ?_
    refine Vw.iload_n (de_iload_1 (B 25 _ rfl)) 1 rfl (n := 26) rfl ?_
    refine Vw.aald3 (b := 0) (de_aaload (B 26 _ rfl)) hp.p0.p0.r0 (vIx_n (k := q) rfl (by omega)) (hT.pr (show q < 8 by omega)) (n := 27) rfl ?_
    refine Vw.getI (de_getfield (B 27 _ rfl) (B 28 _ rfl) (B 29 _ rfl)) fl_X4_97 rfl (hT.pk (show q < 8 by omega)) (n := 30) rfl ?_
    rw [hK.2.2.2.1 q 3 hq (by decide)]
    refine Vw.ivv2 (mi' := mX4_standAt) (de_invokevirtual (B 30 _ rfl) (B 31 _ rfl) (B 32 _ rfl)) ml_X4_100 mv_X4_standAt hp.k (Nat.le_of_ble_eq_true rfl) (n := 33) rfl (c_X4_standAt hp (by omega) (fun I2 f2 e2 => ?_))
    have f2p : FP s I I2 := f2.fp (Or.inr (Or.inr ⟨by omega, by omega⟩))
    refine Vw.aload_n (de_aload_0 (B 33 _ rfl)) 0 rfl (n := 34) rfl ?_
    refine Vw.getR (de_getfield (B 34 _ rfl) (B 35 _ rfl) (B 36 _ rfl)) fl_X4_12 rfl hp.k hp.f2 (n := 37) rfl ?_
    refine Vw.ivv0 (mi' := mX3_feast) (de_invokevirtual (B 37 _ rfl) (B 38 _ rfl) (B 39 _ rfl)) ml_X4_225 mv_X3_feast hp.ko2 (Nat.le_of_ble_eq_true rfl) (n := 40) rfl (c_X3_feast hp.ko2 (fun I3 f3 e3 => ?_))
    refine Vw.iload_n (de_iload_2 (B 40 _ rfl)) 2 rfl (n := 41) rfl ?_
    refine Vw.istore (lv2 := [(0, _), (1, _), (2, _), (3, _), (4, _)]) (de_istore (B 41 _ rfl) (B 42 _ rfl)) (by decide) [1, 2, 3, 4, 0] rfl (n := 43) rfl ?_
    refine Vw.iload (de_iload (B 43 _ rfl) (B 44 _ rfl)) 4 rfl (n := 45) rfl ?_
    refine Vw.iload_n (de_iload_3 (B 45 _ rfl)) 3 rfl (n := 46) rfl ?_
    refine Vw.icmp_gt (tgt := 107) (n := 49) (de_icmp_gt (B 46 _ rfl) (B 47 _ rfl) (B 48 _ rfl)) rfl rfl (fun c_46 => ?_) (fun c_46 => ?_)
    · exact absurd ((nI_leI (a := j + 1) (b := n) (by omega) (by omega)).mpr hj) (Int32.not_le.mpr c_46)
    refine Vw.iload (de_iload (B 49 _ rfl) (B 50 _ rfl)) 4 rfl (n := 51) rfl ?_
    refine Vw.iload_n (de_iload_2 (B 51 _ rfl)) 2 rfl (n := 52) rfl ?_
    refine Vw.icmp_le (tgt := 82) (n := 55) (de_icmp_le (B 52 _ rfl) (B 53 _ rfl) (B 54 _ rfl)) rfl rfl (fun c_52 => ?_) (fun c_52 => ?_)
    · refine seen j (Nat.le_refl _) hj (fun J M a1 a2 a3 a4 a5 => loop (j + 1) hj (by omega) J M a1 a2 a3 a4 a5) I3 L (f2p.trans (f3.fp (Or.inr (Or.inr ⟨by omega, by omega⟩)))) (fun b g1 g2 => (f3 b (by omega)).trans (f2 b (by omega))) Lev.rfl ?_ ?_
      · rw [show s + 34 = s + 33 + 1 from rfl, e3, show s + 33 + 1 = s + 34 from rfl, e2, walkF_at (by omega)]
        congr 1
        have z := hP (j + 1) hj
        rw [z.1, z.2.1, z.2.2, show K (4 * q + 3) = (walkP W (nI q) (K 121) (perP K q) (j + 1)).2.2.2 from (walkP_fed (W := W) (p := nI q) (now := K 121) (P := perP K q) (k := j + 1)).symm]
      · rw [soK_saw (by omega) (Nat.lt_succ_self j)]
        cases hb : sawK (walkP W (nI q) (K 121) (perP K q)) K q ns j with
        | true => rfl
        | false => rw [hb] at c_8; exact absurd rfl c_8
    exact absurd (Int32.le_refl _) c_52
  refine Vw.iconst (v := 0) (de_iconst_0 (B 11 _ rfl)) rfl (n := 12) rfl ?_
  exact Vw.zret (de_ireturn (B 12 _ rfl)) rfl rfl ⟨_, rfl, (by have e := h I L FP.rfl (fun _ _ _ => rfl) Lev.rfl; rw [soK_f (k := j) (by rw [soK_saw (by omega) (Nat.lt_succ_self j)]; cases hb : sawK (walkP W (nI q) (K 121) (perP K q)) K q ns j with | false => rfl | true => rw [hb] at c_8; exact absurd c_8 (by decide)) (by omega)] at e; exact e)⟩
