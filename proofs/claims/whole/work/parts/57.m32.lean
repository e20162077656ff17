/-! How one was fed, hidden feasts -/
def setF (P : tP) (f : Int32) : tP := (P.1, P.2.1, P.2.2.1, f)
def fedB (W : tW) (K : Nat → Int32) (q n : Nat) (wide : Int32) : Nat → Int32
  | 0 => 0
  | f + 1 => fedB W K q n wide f ||| (if (walkP W (nI q) (K 121) (setF (perP K q) (nI f - 3)) n).2.2.1 = wide then 1 <<< ((nI f - 3 + 3) &&& 31) else 0)
def fedP (W : tW) (K : Nat → Int32) (np : Nat) (p n wide : Int32) : Int32 := if zLie p 0 (nI np - 1) = 0 ∨ zLie n 0 40 = 0 then -1 else fedB W K p.toNatClampNeg n.toNatClampNeg wide 7
theorem f3_ti {f : Nat} (h : f ≤ 7) : (nI f - 3).toInt = (f : Int) - 3 := by
  rw [i32_sub (by rw [nI_ti (by omega)]; show _ ≤ _ - (3 : Int); omega) (by rw [nI_ti (by omega)]; show _ - (3 : Int) < _; omega), nI_ti (by omega)]; rfl
theorem f3_le {f : Nat} (h : f ≤ 7) : 3 < nI f - 3 ↔ f = 7 := by
  rw [i32_lt, f3_ti h, show (3 : Int32).toInt = 3 from rfl]; omega
theorem f3_1 (f : Nat) : nI f - 3 + 1 = nI (f + 1) - 3 := by
  rw [← nI_1, Int32.sub_eq_add_neg, Int32.sub_eq_add_neg, Int32.add_assoc, Int32.add_assoc, Int32.add_comm 1]
theorem c_X12_fed {d : Nat} {S : vS} {I : vI} {L : vL} {Q : Int32 → vS → vI → vL → Prop} {r : Nat} {p y x : Int32} {np nc : Nat} {W : tW} (hM : MS S r) (hW : WD (I (r + 2)) W) (hT : TN (I (r + 2)) np nc) (h : ∀ I2, Fr r I I2 → Q (fedP W (I (r + 2)) np p y x) S I2 L) : Vc mX12_fed (d + 45) 0 0 [.ref r, .int p, .int y, .int x] S I L (ViQ Q) := by
  refine Vc.of rfl (Nat.le_of_ble_eq_true rfl) ?_
  have B := bs_X12_fed
  show Vw mX12_fed (d + 45) 0 0 0 0 (ViQ Q) 0 [(0, .ref r), (1, .int p), (2, .int y), (3, .int x)] [] S I L
  have hnp := hT.1
  have hnc := hT.2.1
  have e142 := hT.2.2.1
  have e112 := hT.2.2.2.1
  have loop : ∀ q n, q < np → n ≤ 40 → (∀ I2, Fr r I I2 → Q (fedB W (I (r + 2)) q n x 7) S I2 L) → ∀ f, f ≤ 7 → ∀ J, Fr r I J → Vw mX12_fed (d + 45) 0 0 0 0 (ViQ Q) 27 [(0, .ref r), (1, .int (nI q)), (2, .int (nI n)), (3, .int x), (4, .int (fedB W (I (r + 2)) q n x f)), (5, .int (nI f - 3))] [] S J L := by
    intro q n hq hn fin
    refine loop_up (fun f hf ih => ?_)
    intro J fJ
    have kJ := fJ.k
    have inner : f < 7 → ∀ k, k ≤ n → ∀ J2, Fr r I J2 → PP J2 r = walkP W (nI q) (I (r + 2) 121) (setF (perP (I (r + 2)) q) (nI f - 3)) k → Vw mX12_fed (d + 45) 0 0 0 0 (ViQ Q) 47 [(0, .ref r), (1, .int (nI q)), (2, .int (nI n)), (3, .int x), (4, .int (fedB W (I (r + 2)) q n x f)), (5, .int (nI f - 3)), (6, .int (nI k))] [] S J2 L := by
      intro hf7
      refine loop_up (fun k hk ih2 => ?_)
      intro J2 fJ2 pJ2
      have kJ2 := fJ2.k
      refine Vw.iload (de_iload (B 47 _ rfl) (B 48 _ rfl)) 6 rfl (n := 49) rfl ?_
      refine Vw.iload_n (de_iload_2 (B 49 _ rfl)) 2 rfl (n := 50) rfl ?_
      refine Vw.icmp_ge (tgt := 74) (n := 53) (de_icmp_ge (B 50 _ rfl) (B 51 _ rfl) (B 52 _ rfl)) rfl rfl (fun c_50 => ?_) (fun c_50 => ?_)
      · have z_50 : n ≤ k := ((nI_leI (a := n) (b := k) (by omega) (by omega)).mp c_50)
        obtain rfl : k = n := by omega
        refine Vw.iload (de_iload (B 74 _ rfl) (B 75 _ rfl)) 4 rfl (n := 76) rfl ?_
        refine Vw.aload_n (de_aload_0 (B 76 _ rfl)) 0 rfl (n := 77) rfl ?_
        refine Vw.getI (de_getfield (B 77 _ rfl) (B 78 _ rfl) (B 79 _ rfl)) fl_X12_324 rfl hM.k (n := 80) rfl ?_
        rw [(PPe pJ2).2.2.1]
        refine Vw.iload_n (de_iload_3 (B 80 _ rfl)) 3 rfl (n := 81) rfl ?_
        refine Vw.icmp_ne (tgt := 93) (n := 84) (de_icmp_ne (B 81 _ rfl) (B 82 _ rfl) (B 83 _ rfl)) rfl rfl (fun c_81 => ?_) (fun c_81 => ?_)
        · refine Vw.iconst (v := 0) (de_iconst_0 (B 93 _ rfl)) rfl (n := 94) rfl ?_
          refine Vw.ior (de_ior (B 94 _ rfl)) (n := 95) rfl ?_
          refine Vw.istore (lv2 := [(0, _), (1, _), (2, _), (3, _), (4, _), (5, _), (6, _)]) (de_istore (B 95 _ rfl) (B 96 _ rfl)) (by decide) [1, 2, 3, 4, 0, 5, 6] rfl (n := 97) rfl ?_
          skip
          refine Vw.iinc (v := nI (f + 1) - 3) (lv2 := [(0, _), (1, _), (2, _), (3, _), (4, _), (5, _), (6, _)]) (de_iinc (B 97 _ rfl) (B 98 _ rfl) (B 99 _ rfl)) 5 rfl (f3_1 f) (by decide) [1, 2, 3, 4, 5, 0, 6] rfl (n := 100) rfl ?_
          refine Vw.goto_ (n := 27) (de_goto_ (B 100 _ rfl) (B 101 _ rfl) (B 102 _ rfl)) rfl ?_
          refine Vw.lvs (lv2 := [(0, _), (1, _), (2, _), (3, _), (4, _), (5, _)]) [0, 1, 2, 3, 4, 5] rfl ?_
          have g := ih hf7 J2 fJ2
          rw [fedB] at g
          first
          | (rw [if_pos c_81] at g; exact g)
          | (rw [if_neg c_81] at g; exact g)
        refine Vw.iconst (v := 1) (de_iconst_1 (B 84 _ rfl)) rfl (n := 85) rfl ?_
        refine Vw.iload (de_iload (B 85 _ rfl) (B 86 _ rfl)) 5 rfl (n := 87) rfl ?_
        refine Vw.iconst (v := 3) (de_iconst_3 (B 87 _ rfl)) rfl (n := 88) rfl ?_
        refine Vw.iadd (de_iadd (B 88 _ rfl)) (n := 89) rfl ?_
        refine Vw.ishl (de_ishl (B 89 _ rfl)) (n := 90) rfl ?_
        refine Vw.goto_ (n := 94) (de_goto_ (B 90 _ rfl) (B 91 _ rfl) (B 92 _ rfl)) rfl ?_
        refine Vw.ior (de_ior (B 94 _ rfl)) (n := 95) rfl ?_
        refine Vw.istore (lv2 := [(0, _), (1, _), (2, _), (3, _), (4, _), (5, _), (6, _)]) (de_istore (B 95 _ rfl) (B 96 _ rfl)) (by decide) [1, 2, 3, 4, 0, 5, 6] rfl (n := 97) rfl ?_
        skip
        refine Vw.iinc (v := nI (f + 1) - 3) (lv2 := [(0, _), (1, _), (2, _), (3, _), (4, _), (5, _), (6, _)]) (de_iinc (B 97 _ rfl) (B 98 _ rfl) (B 99 _ rfl)) 5 rfl (f3_1 f) (by decide) [1, 2, 3, 4, 5, 0, 6] rfl (n := 100) rfl ?_
        refine Vw.goto_ (n := 27) (de_goto_ (B 100 _ rfl) (B 101 _ rfl) (B 102 _ rfl)) rfl ?_
        refine Vw.lvs (lv2 := [(0, _), (1, _), (2, _), (3, _), (4, _), (5, _)]) [0, 1, 2, 3, 4, 5] rfl ?_
        have g := ih hf7 J2 fJ2
        rw [fedB] at g
        first
        | (rw [if_pos c_81] at g; exact g)
        | (rw [if_neg c_81] at g; exact g)
      have z_50 : k < n := by rcases Nat.lt_or_ge k n with z | z; exact z; exact absurd ((nI_leI (a := n) (b := k) (by omega) (by omega)).mpr z) c_50
      refine Vw.aload_n (de_aload_0 (B 53 _ rfl)) 0 rfl (n := 54) rfl ?_
      refine Vw.iload_n (de_iload_1 (B 54 _ rfl)) 1 rfl (n := 55) rfl ?_
      refine Vw.aload_n (de_aload_0 (B 55 _ rfl)) 0 rfl (n := 56) rfl ?_
      refine Vw.getR (de_getfield (B 56 _ rfl) (B 57 _ rfl) (B 58 _ rfl)) fl_X12_24 rfl hM.k (MS_kept hM).1 (n := 59) rfl ?_
      refine Vw.bipush (v := 121) (de_bipush (B 59 _ rfl) (B 60 _ rfl)) rfl (n := 61) rfl ?_
      refine Vw.iald (de_iaload (B 61 _ rfl)) (MS_kept hM).2 (j := 121) ⟨rfl, by decide, by decide⟩ (n := 62) rfl ?_
      rw [kJ2]
      refine Vw.iload (de_iload (B 62 _ rfl) (B 63 _ rfl)) 6 rfl (n := 64) rfl ?_
      refine Vw.iadd (de_iadd (B 64 _ rfl)) (n := 65) rfl ?_
      refine Vw.ivv2 (mi' := mX12_goesOn) (de_invokevirtual (B 65 _ rfl) (B 66 _ rfl) (B 67 _ rfl)) ml_X12_375 mv_X12_goesOn hM.k (Nat.le_of_ble_eq_true rfl) (n := 68) rfl (c_X12_goesOn (W := W) hM (by rw [kJ2]; exact hW) (fun I3 f3 e3 => ?_))
      refine Vw.iinc (v := nI (k + 1)) (lv2 := [(0, _), (1, _), (2, _), (3, _), (4, _), (5, _), (6, _)]) (de_iinc (B 68 _ rfl) (B 69 _ rfl) (B 70 _ rfl)) 6 rfl (nI_1 k) (by decide) [1, 2, 3, 4, 5, 6, 0] rfl (n := 71) rfl ?_
      refine Vw.goto_ (n := 47) (de_goto_ (B 71 _ rfl) (B 72 _ rfl) (B 73 _ rfl)) rfl ?_
      exact ih2 z_50 I3 (fJ2.trans f3) (by rw [e3, pJ2, walkP])
    refine Vw.iload (de_iload (B 27 _ rfl) (B 28 _ rfl)) 5 rfl (n := 29) rfl ?_
    refine Vw.iconst (v := 3) (de_iconst_3 (B 29 _ rfl)) rfl (n := 30) rfl ?_
    refine Vw.icmp_gt (tgt := 103) (n := 33) (de_icmp_gt (B 30 _ rfl) (B 31 _ rfl) (B 32 _ rfl)) rfl rfl (fun c_30 => ?_) (fun c_30 => ?_)
    · obtain rfl := (f3_le hf).mp c_30
      refine Vw.iload (de_iload (B 103 _ rfl) (B 104 _ rfl)) 4 rfl (n := 105) rfl ?_
      exact Vw.iret (de_ireturn (B 105 _ rfl)) rfl ⟨_, rfl, (fin J fJ)⟩
    have hf7 : f < 7 := by rcases Nat.lt_or_ge f 7 with z | z; exact z; exact absurd ((f3_le hf).mpr (by omega)) c_30
    refine Vw.aload_n (de_aload_0 (B 33 _ rfl)) 0 rfl (n := 34) rfl ?_
    refine Vw.iload_n (de_iload_1 (B 34 _ rfl)) 1 rfl (n := 35) rfl ?_
    refine Vw.ivv1 (mi' := mX12_takes) (de_invokevirtual (B 35 _ rfl) (B 36 _ rfl) (B 37 _ rfl)) ml_X12_140 mv_X12_takes hM.k (Nat.le_of_ble_eq_true rfl) (n := 38) rfl (c_X12_takes hM (by omega) (fun I3 f3 e3 => ?_))
    refine Vw.aload_n (de_aload_0 (B 38 _ rfl)) 0 rfl (n := 39) rfl ?_
    refine Vw.iload (de_iload (B 39 _ rfl) (B 40 _ rfl)) 5 rfl (n := 41) rfl ?_
    refine Vw.putI (de_putfield (B 41 _ rfl) (B 42 _ rfl) (B 43 _ rfl)) fl_X12_327 hM.k rfl rfl (n := 44) rfl ?_
    refine Vw.iconst (v := 0) (de_iconst_0 (B 44 _ rfl)) rfl (n := 45) rfl ?_
    refine Vw.istore (lv2 := [(0, _), (1, _), (2, _), (3, _), (4, _), (5, _), (6, _)]) (de_istore (B 45 _ rfl) (B 46 _ rfl)) (by decide) [1, 2, 3, 4, 5, 6, 0] rfl (n := 47) rfl ?_
    exact inner hf7 0 (Nat.zero_le _) _ ((fJ.trans f3).trans (fun a k h1 h2 => by simp (disch := omega) only [up2_n])) (by
      have e := PPe e3
      unfold PP
      rw [up2_k (by decide), up2_k (by decide), up2_k (by decide), up2_s, e.1, e.2.1, e.2.2.1, kJ]
      rfl)
  refine Vw.aload_n (de_aload_0 (B 0 _ rfl)) 0 rfl (n := 1) rfl ?_
  refine Vw.iload_n (de_iload_1 (B 1 _ rfl)) 1 rfl (n := 2) rfl ?_
  refine Vw.ivi1 (mi' := mX12_isPerson) (de_invokevirtual (B 2 _ rfl) (B 3 _ rfl) (B 4 _ rfl)) ml_X12_132 mv_X12_isPerson hM.k (Nat.le_of_ble_eq_true rfl) (n := 5) rfl (c_X12_isPerson hM ?_)
  rw [e142]
  refine Vw.if_eq (tgt := 18) (n := 8) (de_if_eq (B 5 _ rfl) (B 6 _ rfl) (B 7 _ rfl)) rfl rfl (fun c_5 => ?_) (fun c_5 => ?_)
  · refine Vw.iconst (v := -1) (de_iconst_m1 (B 18 _ rfl)) rfl (n := 19) rfl ?_
    exact Vw.iret (de_ireturn (B 19 _ rfl)) rfl ⟨_, rfl, (qv (by unfold fedP; rw [if_pos (by first | exact Or.inl c_5 | exact Or.inr c_15)]) (h I Fr.rfl))⟩
  refine Vw.iload_n (de_iload_2 (B 8 _ rfl)) 2 rfl (n := 9) rfl ?_
  refine Vw.iconst (v := 0) (de_iconst_0 (B 9 _ rfl)) rfl (n := 10) rfl ?_
  refine Vw.bipush (v := 40) (de_bipush (B 10 _ rfl) (B 11 _ rfl)) rfl (n := 12) rfl ?_
  refine Vw.isi3 (mi' := mX12_lies) (de_invokestatic (B 12 _ rfl) (B 13 _ rfl) (B 14 _ rfl)) ml_X12_111 ms_X12_lies (Nat.le_of_ble_eq_true rfl) (n := 15) rfl (c_X12_lies ?_)
  refine Vw.if_ne (tgt := 20) (n := 18) (de_if_ne (B 15 _ rfl) (B 16 _ rfl) (B 17 _ rfl)) rfl rfl (fun c_15 => ?_) (fun c_15 => ?_)
  · obtain ⟨q, hq, eq⟩ := lie_ex (by omega) c_5
    subst eq
    obtain ⟨n, hn, en⟩ := lie_n (N := 40) (by decide) c_15
    subst en
    refine Vw.iconst (v := 0) (de_iconst_0 (B 20 _ rfl)) rfl (n := 21) rfl ?_
    refine Vw.istore (lv2 := [(0, _), (1, _), (2, _), (3, _), (4, _)]) (de_istore (B 21 _ rfl) (B 22 _ rfl)) (by decide) [1, 2, 3, 4, 0] rfl (n := 23) rfl ?_
    refine Vw.bipush (v := -3) (de_bipush (B 23 _ rfl) (B 24 _ rfl)) rfl (n := 25) rfl ?_
    refine Vw.istore (lv2 := [(0, _), (1, _), (2, _), (3, _), (4, _), (5, _)]) (de_istore (B 25 _ rfl) (B 26 _ rfl)) (by decide) [1, 2, 3, 4, 5, 0] rfl (n := 27) rfl ?_
    exact loop q n hq hn (fun J fJ => qv (by unfold fedP; rw [if_neg (fun z => z.elim c_5 c_15), nI_cl (by omega), nI_cl (by omega)]) (h J fJ)) 0 (Nat.zero_le _) I Fr.rfl
  refine Vw.iconst (v := -1) (de_iconst_m1 (B 18 _ rfl)) rfl (n := 19) rfl ?_
  exact Vw.iret (de_ireturn (B 19 _ rfl)) rfl ⟨_, rfl, (qv (by unfold fedP; rw [if_pos (by first | exact Or.inl c_5 | exact Or.inr c_15)]) (h I Fr.rfl))⟩
def okS (K : Nat → Int32) (p k w : Int32) : Nat → Bool
  | 0 => true
  | s + 1 => okS K p k w s && !(decide (K (122 + 3 * s) = k) && decide (K (122 + 3 * s + 1) = p) && decide (¬ K (122 + 3 * s + 2) = w))
theorem okS_f {K : Nat → Int32} {p k w : Int32} {s : Nat} (h : okS K p k w s = false) : ∀ {t : Nat}, s ≤ t → okS K p k w t = false := by
  intro t
  induction t with
  | zero => intro q; rw [show s = 0 by omega] at h; exact h
  | succ t ih =>
    intro q
    rcases Nat.lt_or_ge s (t + 1) with z | z
    · rw [okS, ih (by omega)]; rfl
    · rw [show t + 1 = s by omega]; exact h
theorem okS_b {K : Nat → Int32} {p k w : Int32} {s : Nat} (h1 : K (122 + 3 * s) = k) (h2 : K (122 + 3 * s + 1) = p) (h3 : ¬ K (122 + 3 * s + 2) = w) : okS K p k w (s + 1) = false := by
  rw [okS, decide_eq_true h1, decide_eq_true h2, decide_eq_true h3]; simp
theorem okS_y {K : Nat → Int32} {p k w : Int32} {s : Nat} (h : okS K p k w s = true) (h1 : ¬ K (122 + 3 * s) = k ∨ ¬ K (122 + 3 * s + 1) = p ∨ K (122 + 3 * s + 2) = w) : okS K p k w (s + 1) = true := by
  rw [okS, h]
  rcases h1 with h1 | h1 | h1
  · rw [decide_eq_false h1]; rfl
  · rw [decide_eq_false h1]; simp
  · rw [decide_eq_false (p := ¬ K (122 + 3 * s + 2) = w) (fun q => q h1)]; simp
/-- one's way with a feast at the end of one quarter -/
def walkF (W : tW) (p now : Int32) (P : tP) (feast : Int32) : Nat → tP
  | 0 => P
  | k + 1 => if nI (k + 1) = feast then feastP (stepP W p (now + nI k) (walkF W p now P feast k)) else stepP W p (now + nI k) (walkF W p now P feast k)
def soK (W : tW) (K : Nat → Int32) (q : Nat) (feast : Int32) (ns : Nat) : Nat → Bool
  | 0 => true
  | k + 1 => soK W K q feast ns k && okS K (nI q) (nI (k + 1)) (walkF W (nI q) (K 121) (perP K q) feast (k + 1)).2.2.1 ns
theorem soK_f {W : tW} {K : Nat → Int32} {q ns k : Nat} {feast : Int32} (h : soK W K q feast ns k = false) : ∀ {t : Nat}, k ≤ t → soK W K q feast ns t = false := by
  intro t
  induction t with
  | zero => intro z; rw [show k = 0 by omega] at h; exact h
  | succ t ih =>
    intro z
    rcases Nat.lt_or_ge k (t + 1) with z2 | z2
    · rw [soK, ih (by omega)]; rfl
    · rw [show t + 1 = k by omega]; exact h
def bI (b : Bool) : Int32 := if b = true then 1 else 0
theorem bI_z (b : Bool) : narrow .boolean (.int (bI b)) = .int (bI b) := by cases b <;> rfl
theorem c_X12_areSo {d : Nat} {S : vS} {I : vI} {L : vL} {Q : Int32 → vS → vI → vL → Prop} {r : Nat} {x : Int32} {q ns : Nat} {W : tW} (hM : MS S r) (hW : WD (I (r + 2)) W) (hq : q < 8) (hs : I (r + 2) 143 = nI ns) (hs6 : ns ≤ 6) (h : ∀ I2, Fr r I I2 → Q (bI (soK W (I (r + 2)) q x ns 40)) S I2 L) : Vc mX12_areSo (d + 45) 0 0 [.ref r, .int (nI q), .int x] S I L (ViQ Q) := by
  refine Vc.of rfl (Nat.le_of_ble_eq_true rfl) ?_
  have B := bs_X12_areSo
  show Vw mX12_areSo (d + 45) 0 0 0 0 (ViQ Q) 0 [(0, .ref r), (1, .int (nI q)), (2, .int x)] [] S I L
  have loop : ∀ k, k ≤ 40 → ∀ J, Fr r I J → PP J r = walkF W (nI q) (I (r + 2) 121) (perP (I (r + 2)) q) x k → soK W (I (r + 2)) q x ns k = true → Vw mX12_areSo (d + 45) 0 0 0 0 (ViQ Q) 7 [(0, .ref r), (1, .int (nI q)), (2, .int x), (3, .int (nI (k + 1)))] [] S J L := by
    refine loop_up (fun k hk ih => ?_)
    intro J fJ pJ sJ
    have kJ := fJ.k
    have inner : k < 40 → ∀ s, s ≤ ns → ∀ J2, Fr r I J2 → PP J2 r = walkF W (nI q) (I (r + 2) 121) (perP (I (r + 2)) q) x (k + 1) → okS (I (r + 2)) (nI q) (nI (k + 1)) (walkF W (nI q) (I (r + 2) 121) (perP (I (r + 2)) q) x (k + 1)).2.2.1 s = true → Vw mX12_areSo (d + 45) 0 0 0 0 (ViQ Q) 41 [(0, .ref r), (1, .int (nI q)), (2, .int x), (3, .int (nI (k + 1))), (4, .int (nI s))] [] S J2 L := by
      intro hk4
      refine loop_up (fun s hs2 ih2 => ?_)
      intro J2 fJ2 pJ2 oJ2
      have kJ2 := fJ2.k
      refine Vw.iload (de_iload (B 41 _ rfl) (B 42 _ rfl)) 4 rfl (n := 43) rfl ?_
      refine Vw.aload_n (de_aload_0 (B 43 _ rfl)) 0 rfl (n := 44) rfl ?_
      refine Vw.getR (de_getfield (B 44 _ rfl) (B 45 _ rfl) (B 46 _ rfl)) fl_X12_24 rfl hM.k (MS_kept hM).1 (n := 47) rfl ?_
      refine Vw.sipush (v := 143) (de_sipush (B 47 _ rfl) (B 48 _ rfl) (B 49 _ rfl)) rfl (n := 50) rfl ?_
      refine Vw.iald (de_iaload (B 50 _ rfl)) (MS_kept hM).2 (j := 143) ⟨rfl, by decide, by decide⟩ (n := 51) rfl ?_
      rw [kJ2, hs]
      refine Vw.icmp_ge (tgt := 117) (n := 54) (de_icmp_ge (B 51 _ rfl) (B 52 _ rfl) (B 53 _ rfl)) rfl rfl (fun c_51 => ?_) (fun c_51 => ?_)
      · have z_51 : ns ≤ s := ((nI_leI (a := ns) (b := s) (by omega) (by omega)).mp c_51)
        obtain rfl : s = ns := by omega
        refine Vw.iinc (v := nI (k + 1 + 1)) (lv2 := [(0, _), (1, _), (2, _), (3, _), (4, _)]) (de_iinc (B 117 _ rfl) (B 118 _ rfl) (B 119 _ rfl)) 3 rfl (nI_1 (k + 1)) (by decide) [1, 2, 3, 0, 4] rfl (n := 120) rfl ?_
        refine Vw.goto_ (n := 7) (de_goto_ (B 120 _ rfl) (B 121 _ rfl) (B 122 _ rfl)) rfl ?_
        refine Vw.lvs (lv2 := [(0, _), (1, _), (2, _), (3, _)]) [0, 1, 2, 3] rfl ?_
        exact ih hk4 J2 fJ2 pJ2 (by rw [soK, sJ, oJ2]; rfl)
      have z_51 : s < ns := by rcases Nat.lt_or_ge s ns with z | z; exact z; exact absurd ((nI_leI (a := ns) (b := s) (by omega) (by omega)).mpr z) c_51
      refine Vw.aload_n (de_aload_0 (B 54 _ rfl)) 0 rfl (n := 55) rfl ?_
      refine Vw.getR (de_getfield (B 55 _ rfl) (B 56 _ rfl) (B 57 _ rfl)) fl_X12_24 rfl hM.k (MS_kept hM).1 (n := 58) rfl ?_
      refine Vw.bipush (v := 122) (de_bipush (B 58 _ rfl) (B 59 _ rfl)) rfl (n := 60) rfl ?_
      refine Vw.iconst (v := 3) (de_iconst_3 (B 60 _ rfl)) rfl (n := 61) rfl ?_
      refine Vw.iload (de_iload (B 61 _ rfl) (B 62 _ rfl)) 4 rfl (n := 63) rfl ?_
      refine Vw.imul (de_imul (B 63 _ rfl)) (n := 64) rfl ?_
      refine Vw.iadd (de_iadd (B 64 _ rfl)) (n := 65) rfl ?_
      refine Vw.iald (de_iaload (B 65 _ rfl)) (MS_kept hM).2 (vIx_n (k := 122 + 3 * s) (by simp only [nI_A, nI_M, Int32.zero_add, Int32.add_zero] <;> rfl) (by omega)) (n := 66) rfl ?_
      rw [kJ2]
      refine Vw.iload_n (de_iload_3 (B 66 _ rfl)) 3 rfl (n := 67) rfl ?_
      refine Vw.icmp_ne (tgt := 111) (n := 70) (de_icmp_ne (B 67 _ rfl) (B 68 _ rfl) (B 69 _ rfl)) rfl rfl (fun c_67 => ?_) (fun c_67 => ?_)
      · refine Vw.iinc (v := nI (s + 1)) (lv2 := [(0, _), (1, _), (2, _), (3, _), (4, _)]) (de_iinc (B 111 _ rfl) (B 112 _ rfl) (B 113 _ rfl)) 4 rfl (nI_1 s) (by decide) [1, 2, 3, 4, 0] rfl (n := 114) rfl ?_
        refine Vw.goto_ (n := 41) (de_goto_ (B 114 _ rfl) (B 115 _ rfl) (B 116 _ rfl)) rfl ?_
        exact ih2 z_51 J2 fJ2 pJ2 (okS_y oJ2 (by first | exact Or.inl c_67 | exact Or.inr (Or.inl c_85) | exact Or.inr (Or.inr c_106)))
      refine Vw.aload_n (de_aload_0 (B 70 _ rfl)) 0 rfl (n := 71) rfl ?_
      refine Vw.getR (de_getfield (B 71 _ rfl) (B 72 _ rfl) (B 73 _ rfl)) fl_X12_24 rfl hM.k (MS_kept hM).1 (n := 74) rfl ?_
      refine Vw.bipush (v := 122) (de_bipush (B 74 _ rfl) (B 75 _ rfl)) rfl (n := 76) rfl ?_
      refine Vw.iconst (v := 3) (de_iconst_3 (B 76 _ rfl)) rfl (n := 77) rfl ?_
      refine Vw.iload (de_iload (B 77 _ rfl) (B 78 _ rfl)) 4 rfl (n := 79) rfl ?_
      refine Vw.imul (de_imul (B 79 _ rfl)) (n := 80) rfl ?_
      refine Vw.iadd (de_iadd (B 80 _ rfl)) (n := 81) rfl ?_
      refine Vw.iconst (v := 1) (de_iconst_1 (B 81 _ rfl)) rfl (n := 82) rfl ?_
      refine Vw.iadd (de_iadd (B 82 _ rfl)) (n := 83) rfl ?_
      refine Vw.iald (de_iaload (B 83 _ rfl)) (MS_kept hM).2 (vIx_n (k := 122 + 3 * s + 1) (by simp only [nI_A, nI_M, Int32.zero_add, Int32.add_zero] <;> rfl) (by omega)) (n := 84) rfl ?_
      rw [kJ2]
      refine Vw.iload_n (de_iload_1 (B 84 _ rfl)) 1 rfl (n := 85) rfl ?_
      refine Vw.icmp_ne (tgt := 111) (n := 88) (de_icmp_ne (B 85 _ rfl) (B 86 _ rfl) (B 87 _ rfl)) rfl rfl (fun c_85 => ?_) (fun c_85 => ?_)
      · refine Vw.iinc (v := nI (s + 1)) (lv2 := [(0, _), (1, _), (2, _), (3, _), (4, _)]) (de_iinc (B 111 _ rfl) (B 112 _ rfl) (B 113 _ rfl)) 4 rfl (nI_1 s) (by decide) [1, 2, 3, 4, 0] rfl (n := 114) rfl ?_
        refine Vw.goto_ (n := 41) (de_goto_ (B 114 _ rfl) (B 115 _ rfl) (B 116 _ rfl)) rfl ?_
        exact ih2 z_51 J2 fJ2 pJ2 (okS_y oJ2 (by first | exact Or.inl c_67 | exact Or.inr (Or.inl c_85) | exact Or.inr (Or.inr c_106)))
      refine Vw.aload_n (de_aload_0 (B 88 _ rfl)) 0 rfl (n := 89) rfl ?_
      refine Vw.getR (de_getfield (B 89 _ rfl) (B 90 _ rfl) (B 91 _ rfl)) fl_X12_24 rfl hM.k (MS_kept hM).1 (n := 92) rfl ?_
      refine Vw.bipush (v := 122) (de_bipush (B 92 _ rfl) (B 93 _ rfl)) rfl (n := 94) rfl ?_
      refine Vw.iconst (v := 3) (de_iconst_3 (B 94 _ rfl)) rfl (n := 95) rfl ?_
      refine Vw.iload (de_iload (B 95 _ rfl) (B 96 _ rfl)) 4 rfl (n := 97) rfl ?_
      refine Vw.imul (de_imul (B 97 _ rfl)) (n := 98) rfl ?_
      refine Vw.iadd (de_iadd (B 98 _ rfl)) (n := 99) rfl ?_
      refine Vw.iconst (v := 2) (de_iconst_2 (B 99 _ rfl)) rfl (n := 100) rfl ?_
      refine Vw.iadd (de_iadd (B 100 _ rfl)) (n := 101) rfl ?_
      refine Vw.iald (de_iaload (B 101 _ rfl)) (MS_kept hM).2 (vIx_n (k := 122 + 3 * s + 2) (by simp only [nI_A, nI_M, Int32.zero_add, Int32.add_zero] <;> rfl) (by omega)) (n := 102) rfl ?_
      rw [kJ2]
      refine Vw.aload_n (de_aload_0 (B 102 _ rfl)) 0 rfl (n := 103) rfl ?_
      refine Vw.getI (de_getfield (B 103 _ rfl) (B 104 _ rfl) (B 105 _ rfl)) fl_X12_324 rfl hM.k (n := 106) rfl ?_
      rw [(PPe pJ2).2.2.1]
      refine Vw.icmp_eq (tgt := 111) (n := 109) (de_icmp_eq (B 106 _ rfl) (B 107 _ rfl) (B 108 _ rfl)) rfl rfl (fun c_106 => ?_) (fun c_106 => ?_)
      · refine Vw.iinc (v := nI (s + 1)) (lv2 := [(0, _), (1, _), (2, _), (3, _), (4, _)]) (de_iinc (B 111 _ rfl) (B 112 _ rfl) (B 113 _ rfl)) 4 rfl (nI_1 s) (by decide) [1, 2, 3, 4, 0] rfl (n := 114) rfl ?_
        refine Vw.goto_ (n := 41) (de_goto_ (B 114 _ rfl) (B 115 _ rfl) (B 116 _ rfl)) rfl ?_
        exact ih2 z_51 J2 fJ2 pJ2 (okS_y oJ2 (by first | exact Or.inl c_67 | exact Or.inr (Or.inl c_85) | exact Or.inr (Or.inr c_106)))
      refine Vw.iconst (v := 0) (de_iconst_0 (B 109 _ rfl)) rfl (n := 110) rfl ?_
      exact Vw.zret (de_ireturn (B 110 _ rfl)) rfl rfl ⟨_, rfl, (by have e := h J2 fJ2; rw [soK_f (k := k + 1) (by rw [soK, okS_f (okS_b c_67 c_85 c_106) z_51, Bool.and_false]) (by omega)] at e; exact e)⟩
    refine Vw.iload_n (de_iload_3 (B 7 _ rfl)) 3 rfl (n := 8) rfl ?_
    refine Vw.bipush (v := 40) (de_bipush (B 8 _ rfl) (B 9 _ rfl)) rfl (n := 10) rfl ?_
    refine Vw.icmp_gt (tgt := 123) (n := 13) (de_icmp_gt (B 10 _ rfl) (B 11 _ rfl) (B 12 _ rfl)) rfl rfl (fun c_10 => ?_) (fun c_10 => ?_)
    · have hk4 : k = 40 := by rcases Nat.lt_or_ge k 40 with z | z; exact absurd ((nI_leI (a := k + 1) (b := 40) (by omega) (by omega)).mpr (by omega)) (Int32.not_le.mpr c_10); omega
      subst hk4
      refine Vw.iconst (v := 1) (de_iconst_1 (B 123 _ rfl)) rfl (n := 124) rfl ?_
      exact Vw.zret (de_ireturn (B 124 _ rfl)) rfl rfl ⟨_, rfl, (by have e := h J fJ; rw [sJ] at e; exact e)⟩
    have hk4 : k < 40 := by rcases Nat.lt_or_ge k 40 with z | z; exact z; exact absurd (show (40 : Int32) < nI (k + 1) from by rw [show k = 40 by omega]; decide) c_10
    refine Vw.aload_n (de_aload_0 (B 13 _ rfl)) 0 rfl (n := 14) rfl ?_
    refine Vw.iload_n (de_iload_1 (B 14 _ rfl)) 1 rfl (n := 15) rfl ?_
    refine Vw.aload_n (de_aload_0 (B 15 _ rfl)) 0 rfl (n := 16) rfl ?_
    refine Vw.getR (de_getfield (B 16 _ rfl) (B 17 _ rfl) (B 18 _ rfl)) fl_X12_24 rfl hM.k (MS_kept hM).1 (n := 19) rfl ?_
    refine Vw.bipush (v := 121) (de_bipush (B 19 _ rfl) (B 20 _ rfl)) rfl (n := 21) rfl ?_
    refine Vw.iald (de_iaload (B 21 _ rfl)) (MS_kept hM).2 (j := 121) ⟨rfl, by decide, by decide⟩ (n := 22) rfl ?_
    rw [kJ]
    refine Vw.iload_n (de_iload_3 (B 22 _ rfl)) 3 rfl (n := 23) rfl ?_
    refine Vw.iadd (de_iadd (B 23 _ rfl)) (n := 24) rfl ?_
    refine Vw.iconst (v := 1) (de_iconst_1 (B 24 _ rfl)) rfl (n := 25) rfl ?_
    refine Vw.isub (de_isub (B 25 _ rfl)) (n := 26) rfl ?_
    rw [nw_m1]
    refine Vw.ivv2 (mi' := mX12_goesOn) (de_invokevirtual (B 26 _ rfl) (B 27 _ rfl) (B 28 _ rfl)) ml_X12_375 mv_X12_goesOn hM.k (Nat.le_of_ble_eq_true rfl) (n := 29) rfl (c_X12_goesOn (W := W) hM (by rw [kJ]; exact hW) (fun I3 f3 e3 => ?_))
    have e3b : PP I3 r = stepP W (nI q) (I (r + 2) 121 + nI k) (walkF W (nI q) (I (r + 2) 121) (perP (I (r + 2)) q) x k) := by rw [e3, pJ]
    refine Vw.iload_n (de_iload_3 (B 29 _ rfl)) 3 rfl (n := 30) rfl ?_
    refine Vw.iload_n (de_iload_2 (B 30 _ rfl)) 2 rfl (n := 31) rfl ?_
    refine Vw.icmp_ne (tgt := 38) (n := 34) (de_icmp_ne (B 31 _ rfl) (B 32 _ rfl) (B 33 _ rfl)) rfl rfl (fun c_31 => ?_) (fun c_31 => ?_)
    · refine Vw.iconst (v := 0) (de_iconst_0 (B 38 _ rfl)) rfl (n := 39) rfl ?_
      refine Vw.istore (lv2 := [(0, _), (1, _), (2, _), (3, _), (4, _)]) (de_istore (B 39 _ rfl) (B 40 _ rfl)) (by decide) [1, 2, 3, 4, 0] rfl (n := 41) rfl ?_
      first
      | exact inner hk4 0 (Nat.zero_le _) I3 (fJ.trans f3) (by rw [walkF, if_neg c_31]; exact e3b) rfl
      | exact inner hk4 0 (Nat.zero_le _) I4 ((fJ.trans f3).trans f4) (by rw [walkF, if_pos c_31, e4, e3b]) rfl
    refine Vw.aload_n (de_aload_0 (B 34 _ rfl)) 0 rfl (n := 35) rfl ?_
    refine Vw.ivv0 (mi' := mX12_feasts) (de_invokevirtual (B 35 _ rfl) (B 36 _ rfl) (B 37 _ rfl)) ml_X12_384 mv_X12_feasts hM.k (Nat.le_of_ble_eq_true rfl) (n := 38) rfl (c_X12_feasts hM (fun I4 f4 e4 => ?_))
    refine Vw.iconst (v := 0) (de_iconst_0 (B 38 _ rfl)) rfl (n := 39) rfl ?_
    refine Vw.istore (lv2 := [(0, _), (1, _), (2, _), (3, _), (4, _)]) (de_istore (B 39 _ rfl) (B 40 _ rfl)) (by decide) [1, 2, 3, 4, 0] rfl (n := 41) rfl ?_
    first
    | exact inner hk4 0 (Nat.zero_le _) I3 (fJ.trans f3) (by rw [walkF, if_neg c_31]; exact e3b) rfl
    | exact inner hk4 0 (Nat.zero_le _) I4 ((fJ.trans f3).trans f4) (by rw [walkF, if_pos c_31, e4, e3b]) rfl
  refine Vw.aload_n (de_aload_0 (B 0 _ rfl)) 0 rfl (n := 1) rfl ?_
  refine Vw.iload_n (de_iload_1 (B 1 _ rfl)) 1 rfl (n := 2) rfl ?_
  refine Vw.ivv1 (mi' := mX12_takes) (de_invokevirtual (B 2 _ rfl) (B 3 _ rfl) (B 4 _ rfl)) ml_X12_140 mv_X12_takes hM.k (Nat.le_of_ble_eq_true rfl) (n := 5) rfl (c_X12_takes hM hq (fun I2 f2 e2 => ?_))
  refine Vw.iconst (v := 1) (de_iconst_1 (B 5 _ rfl)) rfl (n := 6) rfl ?_
  refine Vw.istore_n (lv2 := [(0, _), (1, _), (2, _), (3, _)]) (de_istore_3 (B 6 _ rfl)) rfl (by decide) [1, 2, 3, 0] rfl (n := 7) rfl ?_
  exact loop 0 (Nat.zero_le _) I2 f2 e2 rfl
