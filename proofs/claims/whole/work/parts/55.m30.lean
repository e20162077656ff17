/-! The tape: feed, row -/
theorem nrB (x : Int32) : narrow .byte (.int x.toInt8.toInt32) = .int x.toInt8.toInt32 := by
  show Value.int x.toInt8.toInt32.toInt8.toInt32 = _
  rw [Int8.toInt8_toInt32]
def byteAt (x : Int32) (m : Nat) : Int32 := (x >>> ((24 - 8 * nI m) &&& 31)).toInt8.toInt32
def fiveV (a b c d e : Int32) : Nat → Int32
  | 0 => a
  | 1 => b
  | 2 => c
  | 3 => d
  | _ => e
def feedT (T : Nat → Int32) (n : Nat) (f : Nat → Int32) (k : Nat) : Nat → Int32 := fun j => if n ≤ j ∧ j < n + k then byteAt (f ((j - n) / 4)) ((j - n) % 4) else T j
theorem feedT_0 (T : Nat → Int32) (n : Nat) (f : Nat → Int32) : feedT T n f 0 = T := by funext j; exact if_neg (by omega)
theorem feedT_s (T : Nat → Int32) (n : Nat) (f : Nat → Int32) (k : Nat) : upK (feedT T n f k) (n + k) (byteAt (f (k / 4)) (k % 4)) = feedT T n f (k + 1) := by
  funext j
  unfold upK feedT
  by_cases h : j = n + k
  · rw [if_pos h, if_pos (by omega), show j - n = k by omega]
  · rw [if_neg h]
    by_cases g : n ≤ j ∧ j < n + k
    · rw [if_pos g, if_pos (by omega)]
    · rw [if_neg g, if_neg (by omega)]
theorem c_X12_feed {d : Nat} {S : vS} {I : vI} {L : vL} {Q : Int32 → vS → vI → vL → Prop} {r : Nat} {a b c d0 e : Int32} {n : Nat} (hM : MS S r) (hn : I r 11 = nI n) (hn4 : n ≤ 400) (h1 : 380 < n → Q (-1) S I L) (h : n ≤ 380 → ∀ I2, (∀ x j, x ≠ r + 7 → x ≠ r + 8 → ¬ (x = r ∧ j = 11) → I2 x j = I x j) → I2 (r + 7) = feedT (I (r + 7)) n (fiveV a b c d0 e) 20 → I2 r 11 = nI (n + 20) → Q (nI (n + 20)) S I2 L) : Vc mX12_feed d 0 0 [.ref r, .int a, .int b, .int c, .int d0, .int e] S I L (ViQ Q) := by
  refine Vc.of rfl (Nat.le_of_ble_eq_true rfl) ?_
  have B := bs_X12_feed
  show Vw mX12_feed d 0 0 0 0 (ViQ Q) 0 [(0, .ref r), (1, .int a), (2, .int b), (3, .int c), (4, .int d0), (5, .int e)] [] S I L
  have loop : n ≤ 380 → ∀ k, k ≤ 20 → ∀ J, (∀ x j, x ≠ r + 7 → x ≠ r + 8 → J x j = I x j) → (∀ i, i < 5 → J (r + 8) i = (fiveV a b c d0 e) i) → J (r + 7) = feedT (I (r + 7)) n (fiveV a b c d0 e) k → Vw mX12_feed d 0 0 0 0 (ViQ Q) 55 [(0, .ref r), (6, .int (nI k))] [] S J L := by
    intro hn38
    refine loop_up (fun k hk ih => ?_)
    intro J fJ eJ tJ
    have j11 : J r 11 = nI n := by rw [fJ r 11 (by omega) (by omega)]; exact hn
    refine Vw.iload (de_iload (B 55 _ rfl) (B 56 _ rfl)) 1 rfl (n := 57) rfl ?_
    refine Vw.bipush (v := 20) (de_bipush (B 57 _ rfl) (B 58 _ rfl)) rfl (n := 59) rfl ?_
    refine Vw.icmp_ge (tgt := 101) (n := 62) (de_icmp_ge (B 59 _ rfl) (B 60 _ rfl) (B 61 _ rfl)) rfl rfl (fun c_59 => ?_) (fun c_59 => ?_)
    · have z_59 : 20 ≤ k := ((nI_leI (a := 20) (b := k) (by omega) (by omega)).mp c_59)
      obtain rfl : k = 20 := by omega
      refine Vw.aload_n (de_aload_0 (B 101 _ rfl)) 0 rfl (n := 102) rfl ?_
      refine Vw.dup (de_dup (B 102 _ rfl)) rfl (n := 103) rfl ?_
      refine Vw.getI (de_getfield (B 103 _ rfl) (B 104 _ rfl) (B 105 _ rfl)) fl_X12_169 rfl hM.k (n := 106) rfl ?_
      rw [j11]
      refine Vw.bipush (v := 20) (de_bipush (B 106 _ rfl) (B 107 _ rfl)) rfl (n := 108) rfl ?_
      refine Vw.iadd (de_iadd (B 108 _ rfl)) (n := 109) rfl ?_
      refine Vw.putI (de_putfield (B 109 _ rfl) (B 110 _ rfl) (B 111 _ rfl)) fl_X12_169 hM.k rfl rfl (n := 112) rfl ?_
      refine Vw.aload_n (de_aload_0 (B 112 _ rfl)) 0 rfl (n := 113) rfl ?_
      refine Vw.getI (de_getfield (B 113 _ rfl) (B 114 _ rfl) (B 115 _ rfl)) fl_X12_169 rfl hM.k (n := 116) rfl ?_
      rw [up2_s]
      exact Vw.iret (de_ireturn (B 116 _ rfl)) rfl ⟨_, rfl, (by rw [show nI n + 20 = nI (n + 20) from (nI_A n 20).symm]; exact h hn38 _ (fun x j q1 q2 q3 => by rw [up2_n q3]; exact fJ x j q1 q2) (by rw [up2_row (by omega)]; exact tJ) (by rw [up2_s]))⟩
    have z_59 : k < 20 := by rcases Nat.lt_or_ge k 20 with z | z; exact z; exact absurd ((nI_leI (a := 20) (b := k) (by omega) (by omega)).mpr z) c_59
    refine Vw.aload_n (de_aload_0 (B 62 _ rfl)) 0 rfl (n := 63) rfl ?_
    refine Vw.getR (de_getfield (B 63 _ rfl) (B 64 _ rfl) (B 65 _ rfl)) fl_X12_41 rfl hM.k (MS_tape hM).1 (n := 66) rfl ?_
    refine Vw.aload_n (de_aload_0 (B 66 _ rfl)) 0 rfl (n := 67) rfl ?_
    refine Vw.getI (de_getfield (B 67 _ rfl) (B 68 _ rfl) (B 69 _ rfl)) fl_X12_169 rfl hM.k (n := 70) rfl ?_
    refine Vw.iload (de_iload (B 70 _ rfl) (B 71 _ rfl)) 1 rfl (n := 72) rfl ?_
    rw [j11]
    refine Vw.iadd (de_iadd (B 72 _ rfl)) (n := 73) rfl ?_
    refine Vw.aload_n (de_aload_0 (B 73 _ rfl)) 0 rfl (n := 74) rfl ?_
    refine Vw.getR (de_getfield (B 74 _ rfl) (B 75 _ rfl) (B 76 _ rfl)) fl_X12_44 rfl hM.k (MS_five hM).1 (n := 77) rfl ?_
    refine Vw.iload (de_iload (B 77 _ rfl) (B 78 _ rfl)) 1 rfl (n := 79) rfl ?_
    refine Vw.iconst (v := 4) (de_iconst_4 (B 79 _ rfl)) rfl (n := 80) rfl ?_
    refine Vw.idiv (de_idiv (B 80 _ rfl)) (by decide) (n := 81) rfl ?_
    rw [show (4 : Int32) = nI 4 from rfl, nI_div (by omega) (by decide)]
    refine Vw.iald (de_iaload (B 81 _ rfl)) (MS_five hM).2 (vIx_n (k := k / 4) rfl (by omega)) (n := 82) rfl ?_
    rw [eJ (k / 4) (by omega)]
    refine Vw.bipush (v := 24) (de_bipush (B 82 _ rfl) (B 83 _ rfl)) rfl (n := 84) rfl ?_
    refine Vw.bipush (v := 8) (de_bipush (B 84 _ rfl) (B 85 _ rfl)) rfl (n := 86) rfl ?_
    refine Vw.iload (de_iload (B 86 _ rfl) (B 87 _ rfl)) 1 rfl (n := 88) rfl ?_
    refine Vw.iconst (v := 4) (de_iconst_4 (B 88 _ rfl)) rfl (n := 89) rfl ?_
    refine Vw.irem (de_irem (B 89 _ rfl)) (by decide) (n := 90) rfl ?_
    rw [show (4 : Int32) = nI 4 from rfl, nI_rem (by omega) (by decide)]
    refine Vw.imul (de_imul (B 90 _ rfl)) (n := 91) rfl ?_
    skip
    refine Vw.isub (de_isub (B 91 _ rfl)) (n := 92) rfl ?_
    refine Vw.ishr (de_ishr (B 92 _ rfl)) (n := 93) rfl ?_
    refine Vw.i2b (de_i2b (B 93 _ rfl)) (n := 94) rfl ?_
    refine Vw.bast (de_bastore (B 94 _ rfl)) (MS_tape hM).2 (vIx_n (k := n + k) (by simp only [nI_A, nI_M, Int32.zero_add, Int32.add_zero] <;> rfl) (by omega)) (nrB _) (n := 95) rfl ?_
    have eT : up2 J (r + 7) (n + k) (byteAt (fiveV a b c d0 e (k / 4)) (k % 4)) (r + 7) = feedT (I (r + 7)) n (fiveV a b c d0 e) (k + 1) := by rw [up2_rs, tJ, feedT_s]
    refine Vw.iinc (v := nI (k + 1)) (lv2 := [(0, _), (6, _)]) (de_iinc (B 95 _ rfl) (B 96 _ rfl) (B 97 _ rfl)) 1 rfl (nI_1 k) (by decide) [1, 0] rfl (n := 98) rfl ?_
    refine Vw.goto_ (n := 55) (de_goto_ (B 98 _ rfl) (B 99 _ rfl) (B 100 _ rfl)) rfl ?_
    exact ih z_59 _ (fun x j q1 q2 => by rw [up2_a q1]; exact fJ x j q1 q2) (fun i hi => by rw [up2_a (by omega)]; exact eJ i hi) eT
  refine Vw.aload_n (de_aload_0 (B 0 _ rfl)) 0 rfl (n := 1) rfl ?_
  refine Vw.getI (de_getfield (B 1 _ rfl) (B 2 _ rfl) (B 3 _ rfl)) fl_X12_169 rfl hM.k (n := 4) rfl ?_
  rw [hn]
  refine Vw.bipush (v := 20) (de_bipush (B 4 _ rfl) (B 5 _ rfl)) rfl (n := 6) rfl ?_
  refine Vw.iadd (de_iadd (B 6 _ rfl)) (n := 7) rfl ?_
  refine Vw.sipush (v := 400) (de_sipush (B 7 _ rfl) (B 8 _ rfl) (B 9 _ rfl)) rfl (n := 10) rfl ?_
  rw [show nI n + 20 = nI (n + 20) from (nI_A n 20).symm]
  refine Vw.icmp_le (tgt := 15) (n := 13) (de_icmp_le (B 10 _ rfl) (B 11 _ rfl) (B 12 _ rfl)) rfl rfl (fun c_10 => ?_) (fun c_10 => ?_)
  · have hb : n ≤ 380 := by have := (nI_leI (a := n + 20) (b := 400) (by omega) (by omega)).mp c_10; omega
    refine Vw.aload_n (de_aload_0 (B 15 _ rfl)) 0 rfl (n := 16) rfl ?_
    refine Vw.getR (de_getfield (B 16 _ rfl) (B 17 _ rfl) (B 18 _ rfl)) fl_X12_44 rfl hM.k (MS_five hM).1 (n := 19) rfl ?_
    refine Vw.iconst (v := 0) (de_iconst_0 (B 19 _ rfl)) rfl (n := 20) rfl ?_
    refine Vw.iload_n (de_iload_1 (B 20 _ rfl)) 1 rfl (n := 21) rfl ?_
    refine Vw.iast (de_iastore (B 21 _ rfl)) (MS_five hM).2 (j := 0) ⟨rfl, by decide, by decide⟩ (n := 22) rfl ?_
    refine Vw.aload_n (de_aload_0 (B 22 _ rfl)) 0 rfl (n := 23) rfl ?_
    refine Vw.getR (de_getfield (B 23 _ rfl) (B 24 _ rfl) (B 25 _ rfl)) fl_X12_44 rfl hM.k (MS_five hM).1 (n := 26) rfl ?_
    refine Vw.iconst (v := 1) (de_iconst_1 (B 26 _ rfl)) rfl (n := 27) rfl ?_
    refine Vw.iload_n (de_iload_2 (B 27 _ rfl)) 2 rfl (n := 28) rfl ?_
    refine Vw.iast (de_iastore (B 28 _ rfl)) (MS_five hM).2 (j := 1) ⟨rfl, by decide, by decide⟩ (n := 29) rfl ?_
    refine Vw.aload_n (de_aload_0 (B 29 _ rfl)) 0 rfl (n := 30) rfl ?_
    refine Vw.getR (de_getfield (B 30 _ rfl) (B 31 _ rfl) (B 32 _ rfl)) fl_X12_44 rfl hM.k (MS_five hM).1 (n := 33) rfl ?_
    refine Vw.iconst (v := 2) (de_iconst_2 (B 33 _ rfl)) rfl (n := 34) rfl ?_
    refine Vw.iload_n (de_iload_3 (B 34 _ rfl)) 3 rfl (n := 35) rfl ?_
    refine Vw.iast (de_iastore (B 35 _ rfl)) (MS_five hM).2 (j := 2) ⟨rfl, by decide, by decide⟩ (n := 36) rfl ?_
    refine Vw.aload_n (de_aload_0 (B 36 _ rfl)) 0 rfl (n := 37) rfl ?_
    refine Vw.getR (de_getfield (B 37 _ rfl) (B 38 _ rfl) (B 39 _ rfl)) fl_X12_44 rfl hM.k (MS_five hM).1 (n := 40) rfl ?_
    refine Vw.iconst (v := 3) (de_iconst_3 (B 40 _ rfl)) rfl (n := 41) rfl ?_
    refine Vw.iload (de_iload (B 41 _ rfl) (B 42 _ rfl)) 4 rfl (n := 43) rfl ?_
    refine Vw.iast (de_iastore (B 43 _ rfl)) (MS_five hM).2 (j := 3) ⟨rfl, by decide, by decide⟩ (n := 44) rfl ?_
    refine Vw.aload_n (de_aload_0 (B 44 _ rfl)) 0 rfl (n := 45) rfl ?_
    refine Vw.getR (de_getfield (B 45 _ rfl) (B 46 _ rfl) (B 47 _ rfl)) fl_X12_44 rfl hM.k (MS_five hM).1 (n := 48) rfl ?_
    refine Vw.iconst (v := 4) (de_iconst_4 (B 48 _ rfl)) rfl (n := 49) rfl ?_
    refine Vw.iload (de_iload (B 49 _ rfl) (B 50 _ rfl)) 5 rfl (n := 51) rfl ?_
    refine Vw.iast (de_iastore (B 51 _ rfl)) (MS_five hM).2 (j := 4) ⟨rfl, by decide, by decide⟩ (n := 52) rfl ?_
    refine Vw.iconst (v := 0) (de_iconst_0 (B 52 _ rfl)) rfl (n := 53) rfl ?_
    refine Vw.istore (lv2 := [(0, _), (1, _), (2, _), (3, _), (4, _), (5, _), (6, _)]) (de_istore (B 53 _ rfl) (B 54 _ rfl)) (by decide) [1, 2, 3, 4, 5, 6, 0] rfl (n := 55) rfl ?_
    refine Vw.lvs (lv2 := [(0, _), (6, _)]) [0, 6] rfl ?_
    exact loop hb 0 (Nat.zero_le _) _ (fun x j q1 q2 => by simp (disch := omega) only [up2_a]) (fun i hi => by rcases (show i = 0 ∨ i = 1 ∨ i = 2 ∨ i = 3 ∨ i = 4 by omega) with rfl | rfl | rfl | rfl | rfl <;> (simp (disch := omega) only [up2_s, up2_k, up2_a, fiveV])) (by simp (disch := omega) only [up2_row]; rw [feedT_0])
  have hb : 380 < n := by rcases Nat.lt_or_ge 380 n with z | z; exact z; exact absurd ((nI_leI (a := n + 20) (b := 400) (by omega) (by omega)).mpr (by omega)) c_10
  refine Vw.iconst (v := -1) (de_iconst_m1 (B 13 _ rfl)) rfl (n := 14) rfl ?_
  exact Vw.iret (de_ireturn (B 14 _ rfl)) rfl ⟨_, rfl, (h1 hb)⟩
