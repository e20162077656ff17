/-! The game -/
def bestJ (k : Nat) (f : Nat → Int32) : Nat → Int32 × Int32
  | 0 => (0, -1)
  | j + 1 => if (bestJ k f j).2 = -1 ∨ (if k % 2 = 0 then (bestJ k f j).1 < f j else f j < (bestJ k f j).1) then (f j, nI j - 1 + 1) else bestJ k f j
def playF (W : tW) (q now a b : Int32) (k : Nat) (g : tP → Int32) (P : tP) (j : Nat) : Int32 := if fitP a b (stepP W q (now + nI k) (setF P (nI j - 1))) = 0 then nI k + 1 else g (stepP W q (now + nI k) (setF P (nI j - 1)))
def playV (W : tW) (q now a b : Int32) (n : Nat) : Nat → tP → Int32
  | 0, _ => nI n + 1
  | m + 1, P => (bestJ (n - (m + 1)) (playF W q now a b (n - (m + 1)) (playV W q now a b n m) P) 3).1
def playB (W : tW) (q now a b : Int32) (n m : Nat) (P : tP) : Int32 := (bestJ (n - (m + 1)) (playF W q now a b (n - (m + 1)) (playV W q now a b n m) P) 3).2
def Fg (r : Nat) (I I2 : vI) : Prop := ∀ a k, ¬ (a = r ∧ (20 ≤ k ∧ k ≤ 29 ∨ k = 42)) → a ≠ r + 12 → I2 a k = I a k
theorem Fg.rfl {r : Nat} {I : vI} : Fg r I I := fun _ _ _ _ => Eq.refl _
theorem Fg.trans {r : Nat} {I I2 I3 : vI} (h : Fg r I I2) (g : Fg r I2 I3) : Fg r I I3 := fun a k h1 h2 => (g a k h1 h2).trans (h a k h1 h2)
theorem Fr.fg {r : Nat} {I I2 : vI} (h : Fr r I I2) : Fg r I I2 := fun a k h1 h2 => h a k (by omega) h2
theorem Fg.k {r : Nat} {I I2 : vI} (h : Fg r I I2) : I2 (r + 2) = I (r + 2) := funext fun k => h _ _ (by omega) (by omega)
theorem j1_ti {f : Nat} (h : f ≤ 3) : (nI f - 1).toInt = (f : Int) - 1 := by
  rw [i32_sub (by rw [nI_ti (by omega)]; show _ ≤ _ - (1 : Int); omega) (by rw [nI_ti (by omega)]; show _ - (1 : Int) < _; omega), nI_ti (by omega)]; rfl
theorem j1_le {f : Nat} (h : f ≤ 3) : 1 < nI f - 1 ↔ f = 3 := by
  rw [i32_lt, j1_ti h, show (1 : Int32).toInt = 1 from rfl]; omega
theorem j1_1 (f : Nat) : nI f - 1 + 1 = nI (f + 1) - 1 := by
  rw [← nI_1, Int32.sub_add_cancel, Int32.add_sub_cancel]
theorem bestJ_y {k j : Nat} {f : Nat → Int32} (h : (bestJ k f j).2 = -1 ∨ (if k % 2 = 0 then (bestJ k f j).1 < f j else f j < (bestJ k f j).1)) : bestJ k f (j + 1) = (f j, nI j - 1 + 1) := by rw [bestJ, if_pos h]
theorem bestJ_n {k j : Nat} {f : Nat → Int32} (h1 : ¬ (bestJ k f j).2 = -1) (h : ¬ (if k % 2 = 0 then (bestJ k f j).1 < f j else f j < (bestJ k f j).1)) : bestJ k f (j + 1) = bestJ k f j := by rw [bestJ, if_neg (fun z => z.elim h1 h)]
theorem playF_y {W : tW} {q now a b : Int32} {k : Nat} {g : tP → Int32} {P : tP} {j : Nat} (h : fitP a b (stepP W q (now + nI k) (setF P (nI j - 1))) = 0) : playF W q now a b k g P j = nI k + 1 := by unfold playF; rw [if_pos h]
theorem playF_n {W : tW} {q now a b : Int32} {k : Nat} {g : tP → Int32} {P : tP} {j : Nat} (h : ¬ fitP a b (stepP W q (now + nI k) (setF P (nI j - 1))) = 0) : playF W q now a b k g P j = g (stepP W q (now + nI k) (setF P (nI j - 1))) := by unfold playF; rw [if_neg h]
theorem c_X12_plays {c q n : Nat} {W : tW} (hn : n ≤ 8) (hc : c < 10) (hq : q < 8) : ∀ (m k : Nat), k + m = n → ∀ (d : Nat) (S : vS) (I : vI) (L : vL) (Q : Int32 → vS → vI → vL → Prop) (r : Nat), MS S r → WD (I (r + 2)) W → I (r + 2) (32 + 8 * c + 4) = nI q → (∀ I2, Fg r I I2 → (∀ m2, m = m2 + 1 → I2 r 42 = playB W (nI q) (I (r + 2) 121) (I (r + 2) (32 + 8 * c)) (I (r + 2) (32 + 8 * c + 1)) n m2 (PP I r)) → Q (playV W (nI q) (I (r + 2) 121) (I (r + 2) (32 + 8 * c)) (I (r + 2) (32 + 8 * c + 1)) n m (PP I r)) S I2 L) → Vc mX12_plays (d + m + 45) 0 0 [.ref r, .int (nI c), .int (nI k), .int (nI n)] S I L (ViQ Q) := by
  intro m
  induction m with
  | zero =>
    intro k hk d S I L Q r hM hW hwr h
    obtain rfl : k = n := by omega
    refine Vc.of rfl (Nat.le_of_ble_eq_true rfl) ?_
    have B := bs_X12_plays
    show Vw mX12_plays (d + 0 + 45) 0 0 0 0 (ViQ Q) 0 [(0, .ref r), (1, .int (nI c)), (2, .int (nI k)), (3, .int (nI k))] [] S I L
    refine Vw.iload_n (de_iload_2 (B 0 _ rfl)) 2 rfl (n := 1) rfl ?_
    refine Vw.iload_n (de_iload_3 (B 1 _ rfl)) 3 rfl (n := 2) rfl ?_
    refine Vw.icmp_ne (tgt := 9) (n := 5) (de_icmp_ne (B 2 _ rfl) (B 3 _ rfl) (B 4 _ rfl)) rfl rfl (fun c_2 => ?_) (fun c_2 => ?_)
    · exact absurd rfl c_2
    refine Vw.iload_n (de_iload_3 (B 5 _ rfl)) 3 rfl (n := 6) rfl ?_
    refine Vw.iconst (v := 1) (de_iconst_1 (B 6 _ rfl)) rfl (n := 7) rfl ?_
    refine Vw.iadd (de_iadd (B 7 _ rfl)) (n := 8) rfl ?_
    exact Vw.iret (de_ireturn (B 8 _ rfl)) rfl ⟨_, rfl, (h I Fg.rfl (fun m2 e => by omega))⟩
  | succ m ihm =>
    intro k hk d S I L Q r hM hW hwr h
    have ek : n - (m + 1) = k := by omega
    unfold playB at h
    rw [playV, ek] at h
    refine Vc.of rfl (Nat.le_of_ble_eq_true rfl) ?_
    have B := bs_X12_plays
    have loop : ∀ j, j ≤ 3 → ∀ J, Fg r I J → Vw mX12_plays (d + (m + 1) + 45) 0 0 0 0 (ViQ Q) 36 [(0, .ref r), (1, .int (nI c)), (2, .int (nI k)), (3, .int (nI n)), (4, .int (I r 26)), (5, .int (I r 27)), (6, .int (I r 28)), (7, .int (bestJ k (playF W (nI q) (I (r + 2) 121) (I (r + 2) (32 + 8 * c)) (I (r + 2) (32 + 8 * c + 1)) k (playV W (nI q) (I (r + 2) 121) (I (r + 2) (32 + 8 * c)) (I (r + 2) (32 + 8 * c + 1)) n m) (PP I r)) j).1), (8, .int (bestJ k (playF W (nI q) (I (r + 2) 121) (I (r + 2) (32 + 8 * c)) (I (r + 2) (32 + 8 * c + 1)) k (playV W (nI q) (I (r + 2) 121) (I (r + 2) (32 + 8 * c)) (I (r + 2) (32 + 8 * c + 1)) n m) (PP I r)) j).2), (9, .int (nI j - 1))] [] S J L := by
      refine loop_up (fun j hj ih => ?_)
      intro J fJ
      have kJ := fJ.k
      have fin : j < 3 → ∀ J2, Fg r I J2 → Vw mX12_plays (d + (m + 1) + 45) 0 0 0 0 (ViQ Q) 108 [(0, .ref r), (1, .int (nI c)), (2, .int (nI k)), (3, .int (nI n)), (4, .int (I r 26)), (5, .int (I r 27)), (6, .int (I r 28)), (7, .int (bestJ k (playF W (nI q) (I (r + 2) 121) (I (r + 2) (32 + 8 * c)) (I (r + 2) (32 + 8 * c + 1)) k (playV W (nI q) (I (r + 2) 121) (I (r + 2) (32 + 8 * c)) (I (r + 2) (32 + 8 * c + 1)) n m) (PP I r)) j).1), (8, .int (bestJ k (playF W (nI q) (I (r + 2) 121) (I (r + 2) (32 + 8 * c)) (I (r + 2) (32 + 8 * c + 1)) k (playV W (nI q) (I (r + 2) 121) (I (r + 2) (32 + 8 * c)) (I (r + 2) (32 + 8 * c + 1)) n m) (PP I r)) j).2), (9, .int (nI j - 1))] [.int ((playF W (nI q) (I (r + 2) 121) (I (r + 2) (32 + 8 * c)) (I (r + 2) (32 + 8 * c + 1)) k (playV W (nI q) (I (r + 2) 121) (I (r + 2) (32 + 8 * c)) (I (r + 2) (32 + 8 * c + 1)) n m) (PP I r)) j)] S J2 L := by
        intro hj3 J2 fJ2
        refine Vw.istore (lv2 := [(0, _), (1, _), (2, _), (3, _), (4, _), (5, _), (6, _), (7, _), (8, _), (9, _), (10, _)]) (de_istore (B 108 _ rfl) (B 109 _ rfl)) (by decide) [1, 2, 3, 4, 5, 6, 7, 8, 9, 10, 0] rfl (n := 110) rfl ?_
        refine Vw.iload (de_iload (B 110 _ rfl) (B 111 _ rfl)) 8 rfl (n := 112) rfl ?_
        refine Vw.iconst (v := -1) (de_iconst_m1 (B 112 _ rfl)) rfl (n := 113) rfl ?_
        refine Vw.icmp_eq (tgt := 142) (n := 116) (de_icmp_eq (B 113 _ rfl) (B 114 _ rfl) (B 115 _ rfl)) rfl rfl (fun c_113 => ?_) (fun c_113 => ?_)
        · refine Vw.iload (de_iload (B 142 _ rfl) (B 143 _ rfl)) 10 rfl (n := 144) rfl ?_
          refine Vw.istore (lv2 := [(0, _), (1, _), (2, _), (3, _), (4, _), (5, _), (6, _), (7, _), (8, _), (9, _), (10, _)]) (de_istore (B 144 _ rfl) (B 145 _ rfl)) (by decide) [1, 2, 3, 4, 5, 6, 7, 0, 8, 9, 10] rfl (n := 146) rfl ?_
          refine Vw.iload (de_iload (B 146 _ rfl) (B 147 _ rfl)) 9 rfl (n := 148) rfl ?_
          refine Vw.iconst (v := 1) (de_iconst_1 (B 148 _ rfl)) rfl (n := 149) rfl ?_
          refine Vw.iadd (de_iadd (B 149 _ rfl)) (n := 150) rfl ?_
          refine Vw.istore (lv2 := [(0, _), (1, _), (2, _), (3, _), (4, _), (5, _), (6, _), (7, _), (8, _), (9, _), (10, _)]) (de_istore (B 150 _ rfl) (B 151 _ rfl)) (by decide) [1, 2, 3, 4, 5, 6, 7, 8, 0, 9, 10] rfl (n := 152) rfl ?_
          refine Vw.iinc (v := nI j - 1 + 1) (lv2 := [(0, _), (1, _), (2, _), (3, _), (4, _), (5, _), (6, _), (7, _), (8, _), (9, _), (10, _)]) (de_iinc (B 152 _ rfl) (B 153 _ rfl) (B 154 _ rfl)) 9 rfl rfl (by decide) [1, 2, 3, 4, 5, 6, 7, 8, 9, 0, 10] rfl (n := 155) rfl ?_
          refine Vw.goto_ (n := 36) (de_goto_ (B 155 _ rfl) (B 156 _ rfl) (B 157 _ rfl)) rfl ?_
          refine Vw.lvs (lv2 := [(0, _), (1, _), (2, _), (3, _), (4, _), (5, _), (6, _), (7, _), (8, _), (9, _)]) [0, 1, 2, 3, 4, 5, 6, 7, 8, 9] rfl ?_
          first
          | (have g := ih hj3 J2 fJ2; rw [bestJ_y (Or.inl c_113), ← j1_1] at g; exact g)
          | (have g := ih hj3 J2 fJ2; rw [bestJ_y (Or.inr (by rw [if_pos (show k % 2 = 0 from nI_inj (by omega) (by decide) c_119)]; exact c_126)), ← j1_1] at g; exact g)
          | (have g := ih hj3 J2 fJ2; rw [bestJ_n c_113 (by rw [if_pos (show k % 2 = 0 from nI_inj (by omega) (by decide) c_119)]; exact c_126), ← j1_1] at g; exact g)
          | (have g := ih hj3 J2 fJ2; rw [bestJ_y (Or.inr (by rw [if_neg (show ¬ k % 2 = 0 from fun z => c_119 (by rw [z]; rfl))]; exact c_136)), ← j1_1] at g; exact g)
          | (have g := ih hj3 J2 fJ2; rw [bestJ_n c_113 (by rw [if_neg (show ¬ k % 2 = 0 from fun z => c_119 (by rw [z]; rfl))]; exact c_136), ← j1_1] at g; exact g)
        refine Vw.iload_n (de_iload_2 (B 116 _ rfl)) 2 rfl (n := 117) rfl ?_
        refine Vw.iconst (v := 2) (de_iconst_2 (B 117 _ rfl)) rfl (n := 118) rfl ?_
        refine Vw.irem (de_irem (B 118 _ rfl)) (by decide) (n := 119) rfl ?_
        rw [show (2 : Int32) = nI 2 from rfl, nI_rem (by omega) (by decide)]
        refine Vw.if_ne (tgt := 132) (n := 122) (de_if_ne (B 119 _ rfl) (B 120 _ rfl) (B 121 _ rfl)) rfl rfl (fun c_119 => ?_) (fun c_119 => ?_)
        · refine Vw.iload (de_iload (B 132 _ rfl) (B 133 _ rfl)) 10 rfl (n := 134) rfl ?_
          refine Vw.iload (de_iload (B 134 _ rfl) (B 135 _ rfl)) 7 rfl (n := 136) rfl ?_
          refine Vw.icmp_lt (tgt := 142) (n := 139) (de_icmp_lt (B 136 _ rfl) (B 137 _ rfl) (B 138 _ rfl)) rfl rfl (fun c_136 => ?_) (fun c_136 => ?_)
          · refine Vw.iload (de_iload (B 142 _ rfl) (B 143 _ rfl)) 10 rfl (n := 144) rfl ?_
            refine Vw.istore (lv2 := [(0, _), (1, _), (2, _), (3, _), (4, _), (5, _), (6, _), (7, _), (8, _), (9, _), (10, _)]) (de_istore (B 144 _ rfl) (B 145 _ rfl)) (by decide) [1, 2, 3, 4, 5, 6, 7, 0, 8, 9, 10] rfl (n := 146) rfl ?_
            refine Vw.iload (de_iload (B 146 _ rfl) (B 147 _ rfl)) 9 rfl (n := 148) rfl ?_
            refine Vw.iconst (v := 1) (de_iconst_1 (B 148 _ rfl)) rfl (n := 149) rfl ?_
            refine Vw.iadd (de_iadd (B 149 _ rfl)) (n := 150) rfl ?_
            refine Vw.istore (lv2 := [(0, _), (1, _), (2, _), (3, _), (4, _), (5, _), (6, _), (7, _), (8, _), (9, _), (10, _)]) (de_istore (B 150 _ rfl) (B 151 _ rfl)) (by decide) [1, 2, 3, 4, 5, 6, 7, 8, 0, 9, 10] rfl (n := 152) rfl ?_
            refine Vw.iinc (v := nI j - 1 + 1) (lv2 := [(0, _), (1, _), (2, _), (3, _), (4, _), (5, _), (6, _), (7, _), (8, _), (9, _), (10, _)]) (de_iinc (B 152 _ rfl) (B 153 _ rfl) (B 154 _ rfl)) 9 rfl rfl (by decide) [1, 2, 3, 4, 5, 6, 7, 8, 9, 0, 10] rfl (n := 155) rfl ?_
            refine Vw.goto_ (n := 36) (de_goto_ (B 155 _ rfl) (B 156 _ rfl) (B 157 _ rfl)) rfl ?_
            refine Vw.lvs (lv2 := [(0, _), (1, _), (2, _), (3, _), (4, _), (5, _), (6, _), (7, _), (8, _), (9, _)]) [0, 1, 2, 3, 4, 5, 6, 7, 8, 9] rfl ?_
            first
            | (have g := ih hj3 J2 fJ2; rw [bestJ_y (Or.inl c_113), ← j1_1] at g; exact g)
            | (have g := ih hj3 J2 fJ2; rw [bestJ_y (Or.inr (by rw [if_pos (show k % 2 = 0 from nI_inj (by omega) (by decide) c_119)]; exact c_126)), ← j1_1] at g; exact g)
            | (have g := ih hj3 J2 fJ2; rw [bestJ_n c_113 (by rw [if_pos (show k % 2 = 0 from nI_inj (by omega) (by decide) c_119)]; exact c_126), ← j1_1] at g; exact g)
            | (have g := ih hj3 J2 fJ2; rw [bestJ_y (Or.inr (by rw [if_neg (show ¬ k % 2 = 0 from fun z => c_119 (by rw [z]; rfl))]; exact c_136)), ← j1_1] at g; exact g)
            | (have g := ih hj3 J2 fJ2; rw [bestJ_n c_113 (by rw [if_neg (show ¬ k % 2 = 0 from fun z => c_119 (by rw [z]; rfl))]; exact c_136), ← j1_1] at g; exact g)
          refine Vw.goto_ (n := 152) (de_goto_ (B 139 _ rfl) (B 140 _ rfl) (B 141 _ rfl)) rfl ?_
          refine Vw.iinc (v := nI j - 1 + 1) (lv2 := [(0, _), (1, _), (2, _), (3, _), (4, _), (5, _), (6, _), (7, _), (8, _), (9, _), (10, _)]) (de_iinc (B 152 _ rfl) (B 153 _ rfl) (B 154 _ rfl)) 9 rfl rfl (by decide) [1, 2, 3, 4, 5, 6, 7, 8, 9, 0, 10] rfl (n := 155) rfl ?_
          refine Vw.goto_ (n := 36) (de_goto_ (B 155 _ rfl) (B 156 _ rfl) (B 157 _ rfl)) rfl ?_
          refine Vw.lvs (lv2 := [(0, _), (1, _), (2, _), (3, _), (4, _), (5, _), (6, _), (7, _), (8, _), (9, _)]) [0, 1, 2, 3, 4, 5, 6, 7, 8, 9] rfl ?_
          first
          | (have g := ih hj3 J2 fJ2; rw [bestJ_y (Or.inl c_113), ← j1_1] at g; exact g)
          | (have g := ih hj3 J2 fJ2; rw [bestJ_y (Or.inr (by rw [if_pos (show k % 2 = 0 from nI_inj (by omega) (by decide) c_119)]; exact c_126)), ← j1_1] at g; exact g)
          | (have g := ih hj3 J2 fJ2; rw [bestJ_n c_113 (by rw [if_pos (show k % 2 = 0 from nI_inj (by omega) (by decide) c_119)]; exact c_126), ← j1_1] at g; exact g)
          | (have g := ih hj3 J2 fJ2; rw [bestJ_y (Or.inr (by rw [if_neg (show ¬ k % 2 = 0 from fun z => c_119 (by rw [z]; rfl))]; exact c_136)), ← j1_1] at g; exact g)
          | (have g := ih hj3 J2 fJ2; rw [bestJ_n c_113 (by rw [if_neg (show ¬ k % 2 = 0 from fun z => c_119 (by rw [z]; rfl))]; exact c_136), ← j1_1] at g; exact g)
        refine Vw.iload (de_iload (B 122 _ rfl) (B 123 _ rfl)) 10 rfl (n := 124) rfl ?_
        refine Vw.iload (de_iload (B 124 _ rfl) (B 125 _ rfl)) 7 rfl (n := 126) rfl ?_
        refine Vw.icmp_gt (tgt := 142) (n := 129) (de_icmp_gt (B 126 _ rfl) (B 127 _ rfl) (B 128 _ rfl)) rfl rfl (fun c_126 => ?_) (fun c_126 => ?_)
        · refine Vw.iload (de_iload (B 142 _ rfl) (B 143 _ rfl)) 10 rfl (n := 144) rfl ?_
          refine Vw.istore (lv2 := [(0, _), (1, _), (2, _), (3, _), (4, _), (5, _), (6, _), (7, _), (8, _), (9, _), (10, _)]) (de_istore (B 144 _ rfl) (B 145 _ rfl)) (by decide) [1, 2, 3, 4, 5, 6, 7, 0, 8, 9, 10] rfl (n := 146) rfl ?_
          refine Vw.iload (de_iload (B 146 _ rfl) (B 147 _ rfl)) 9 rfl (n := 148) rfl ?_
          refine Vw.iconst (v := 1) (de_iconst_1 (B 148 _ rfl)) rfl (n := 149) rfl ?_
          refine Vw.iadd (de_iadd (B 149 _ rfl)) (n := 150) rfl ?_
          refine Vw.istore (lv2 := [(0, _), (1, _), (2, _), (3, _), (4, _), (5, _), (6, _), (7, _), (8, _), (9, _), (10, _)]) (de_istore (B 150 _ rfl) (B 151 _ rfl)) (by decide) [1, 2, 3, 4, 5, 6, 7, 8, 0, 9, 10] rfl (n := 152) rfl ?_
          refine Vw.iinc (v := nI j - 1 + 1) (lv2 := [(0, _), (1, _), (2, _), (3, _), (4, _), (5, _), (6, _), (7, _), (8, _), (9, _), (10, _)]) (de_iinc (B 152 _ rfl) (B 153 _ rfl) (B 154 _ rfl)) 9 rfl rfl (by decide) [1, 2, 3, 4, 5, 6, 7, 8, 9, 0, 10] rfl (n := 155) rfl ?_
          refine Vw.goto_ (n := 36) (de_goto_ (B 155 _ rfl) (B 156 _ rfl) (B 157 _ rfl)) rfl ?_
          refine Vw.lvs (lv2 := [(0, _), (1, _), (2, _), (3, _), (4, _), (5, _), (6, _), (7, _), (8, _), (9, _)]) [0, 1, 2, 3, 4, 5, 6, 7, 8, 9] rfl ?_
          first
          | (have g := ih hj3 J2 fJ2; rw [bestJ_y (Or.inl c_113), ← j1_1] at g; exact g)
          | (have g := ih hj3 J2 fJ2; rw [bestJ_y (Or.inr (by rw [if_pos (show k % 2 = 0 from nI_inj (by omega) (by decide) c_119)]; exact c_126)), ← j1_1] at g; exact g)
          | (have g := ih hj3 J2 fJ2; rw [bestJ_n c_113 (by rw [if_pos (show k % 2 = 0 from nI_inj (by omega) (by decide) c_119)]; exact c_126), ← j1_1] at g; exact g)
          | (have g := ih hj3 J2 fJ2; rw [bestJ_y (Or.inr (by rw [if_neg (show ¬ k % 2 = 0 from fun z => c_119 (by rw [z]; rfl))]; exact c_136)), ← j1_1] at g; exact g)
          | (have g := ih hj3 J2 fJ2; rw [bestJ_n c_113 (by rw [if_neg (show ¬ k % 2 = 0 from fun z => c_119 (by rw [z]; rfl))]; exact c_136), ← j1_1] at g; exact g)
        refine Vw.goto_ (n := 152) (de_goto_ (B 129 _ rfl) (B 130 _ rfl) (B 131 _ rfl)) rfl ?_
        refine Vw.iinc (v := nI j - 1 + 1) (lv2 := [(0, _), (1, _), (2, _), (3, _), (4, _), (5, _), (6, _), (7, _), (8, _), (9, _), (10, _)]) (de_iinc (B 152 _ rfl) (B 153 _ rfl) (B 154 _ rfl)) 9 rfl rfl (by decide) [1, 2, 3, 4, 5, 6, 7, 8, 9, 0, 10] rfl (n := 155) rfl ?_
        refine Vw.goto_ (n := 36) (de_goto_ (B 155 _ rfl) (B 156 _ rfl) (B 157 _ rfl)) rfl ?_
        refine Vw.lvs (lv2 := [(0, _), (1, _), (2, _), (3, _), (4, _), (5, _), (6, _), (7, _), (8, _), (9, _)]) [0, 1, 2, 3, 4, 5, 6, 7, 8, 9] rfl ?_
        first
        | (have g := ih hj3 J2 fJ2; rw [bestJ_y (Or.inl c_113), ← j1_1] at g; exact g)
        | (have g := ih hj3 J2 fJ2; rw [bestJ_y (Or.inr (by rw [if_pos (show k % 2 = 0 from nI_inj (by omega) (by decide) c_119)]; exact c_126)), ← j1_1] at g; exact g)
        | (have g := ih hj3 J2 fJ2; rw [bestJ_n c_113 (by rw [if_pos (show k % 2 = 0 from nI_inj (by omega) (by decide) c_119)]; exact c_126), ← j1_1] at g; exact g)
        | (have g := ih hj3 J2 fJ2; rw [bestJ_y (Or.inr (by rw [if_neg (show ¬ k % 2 = 0 from fun z => c_119 (by rw [z]; rfl))]; exact c_136)), ← j1_1] at g; exact g)
        | (have g := ih hj3 J2 fJ2; rw [bestJ_n c_113 (by rw [if_neg (show ¬ k % 2 = 0 from fun z => c_119 (by rw [z]; rfl))]; exact c_136), ← j1_1] at g; exact g)
      refine Vw.iload (de_iload (B 36 _ rfl) (B 37 _ rfl)) 9 rfl (n := 38) rfl ?_
      refine Vw.iconst (v := 1) (de_iconst_1 (B 38 _ rfl)) rfl (n := 39) rfl ?_
      refine Vw.icmp_gt (tgt := 158) (n := 42) (de_icmp_gt (B 39 _ rfl) (B 40 _ rfl) (B 41 _ rfl)) rfl rfl (fun c_39 => ?_) (fun c_39 => ?_)
      · obtain rfl := (j1_le hj).mp c_39
        refine Vw.aload_n (de_aload_0 (B 158 _ rfl)) 0 rfl (n := 159) rfl ?_
        refine Vw.iload (de_iload (B 159 _ rfl) (B 160 _ rfl)) 8 rfl (n := 161) rfl ?_
        refine Vw.putI (de_putfield (B 161 _ rfl) (B 162 _ rfl) (B 163 _ rfl)) fl_X12_425 hM.k rfl rfl (n := 164) rfl ?_
        refine Vw.iload (de_iload (B 164 _ rfl) (B 165 _ rfl)) 7 rfl (n := 166) rfl ?_
        exact Vw.iret (de_ireturn (B 166 _ rfl)) rfl ⟨_, rfl, (h _ (fJ.trans (fun a k h1 h2 => up2_n (by omega))) (fun m2 e => by rw [up2_s, show m2 = m by omega, ek]))⟩
      have hj3 : j < 3 := by rcases Nat.lt_or_ge j 3 with z | z; exact z; exact absurd ((j1_le hj).mpr (by omega)) c_39
      refine Vw.aload_n (de_aload_0 (B 42 _ rfl)) 0 rfl (n := 43) rfl ?_
      refine Vw.iload (de_iload (B 43 _ rfl) (B 44 _ rfl)) 4 rfl (n := 45) rfl ?_
      refine Vw.putI (de_putfield (B 45 _ rfl) (B 46 _ rfl) (B 47 _ rfl)) fl_X12_318 hM.k rfl rfl (n := 48) rfl ?_
      refine Vw.aload_n (de_aload_0 (B 48 _ rfl)) 0 rfl (n := 49) rfl ?_
      refine Vw.iload (de_iload (B 49 _ rfl) (B 50 _ rfl)) 5 rfl (n := 51) rfl ?_
      refine Vw.putI (de_putfield (B 51 _ rfl) (B 52 _ rfl) (B 53 _ rfl)) fl_X12_321 hM.k rfl rfl (n := 54) rfl ?_
      refine Vw.aload_n (de_aload_0 (B 54 _ rfl)) 0 rfl (n := 55) rfl ?_
      refine Vw.iload (de_iload (B 55 _ rfl) (B 56 _ rfl)) 6 rfl (n := 57) rfl ?_
      refine Vw.putI (de_putfield (B 57 _ rfl) (B 58 _ rfl) (B 59 _ rfl)) fl_X12_324 hM.k rfl rfl (n := 60) rfl ?_
      refine Vw.aload_n (de_aload_0 (B 60 _ rfl)) 0 rfl (n := 61) rfl ?_
      refine Vw.iload (de_iload (B 61 _ rfl) (B 62 _ rfl)) 9 rfl (n := 63) rfl ?_
      refine Vw.putI (de_putfield (B 63 _ rfl) (B 64 _ rfl) (B 65 _ rfl)) fl_X12_327 hM.k rfl rfl (n := 66) rfl ?_
      have fU : Fr r J (up2 (up2 (up2 (up2 J r 26 (I r 26)) r 27 (I r 27)) r 28 (I r 28)) r 29 (nI j - 1)) := (fun a k h1 h2 => by simp (disch := omega) only [up2_n])
      have pU : PP (up2 (up2 (up2 (up2 J r 26 (I r 26)) r 27 (I r 27)) r 28 (I r 28)) r 29 (nI j - 1)) r = setF (PP I r) (nI j - 1) := by unfold PP setF; rw [up2_k (by decide), up2_k (by decide), up2_k (by decide), up2_s, up2_k (by decide), up2_k (by decide), up2_s, up2_k (by decide), up2_s, up2_s]
      have kU := fU.k.trans kJ
      refine Vw.aload_n (de_aload_0 (B 66 _ rfl)) 0 rfl (n := 67) rfl ?_
      refine Vw.aload_n (de_aload_0 (B 67 _ rfl)) 0 rfl (n := 68) rfl ?_
      refine Vw.iload_n (de_iload_1 (B 68 _ rfl)) 1 rfl (n := 69) rfl ?_
      refine Vw.iconst (v := 4) (de_iconst_4 (B 69 _ rfl)) rfl (n := 70) rfl ?_
      refine Vw.ivi2 (mi' := mX12_part) (de_invokevirtual (B 70 _ rfl) (B 71 _ rfl) (B 72 _ rfl)) ml_X12_136 mv_X12_part hM.k (Nat.le_of_ble_eq_true rfl) (n := 73) rfl (c_X12_part hM (vIx_n (k := 32 + 8 * c + 4) (by simp only [nI_A, nI_M, Int32.zero_add, Int32.add_zero] <;> rfl) (by omega)) ?_)
      rw [kU, hwr]
      refine Vw.aload_n (de_aload_0 (B 73 _ rfl)) 0 rfl (n := 74) rfl ?_
      refine Vw.getR (de_getfield (B 74 _ rfl) (B 75 _ rfl) (B 76 _ rfl)) fl_X12_24 rfl hM.k (MS_kept hM).1 (n := 77) rfl ?_
      refine Vw.bipush (v := 121) (de_bipush (B 77 _ rfl) (B 78 _ rfl)) rfl (n := 79) rfl ?_
      refine Vw.iald (de_iaload (B 79 _ rfl)) (MS_kept hM).2 (j := 121) ⟨rfl, by decide, by decide⟩ (n := 80) rfl ?_
      rw [kU]
      refine Vw.iload_n (de_iload_2 (B 80 _ rfl)) 2 rfl (n := 81) rfl ?_
      refine Vw.iadd (de_iadd (B 81 _ rfl)) (n := 82) rfl ?_
      refine Vw.ivv2 (mi' := mX12_goesOn) (de_invokevirtual (B 82 _ rfl) (B 83 _ rfl) (B 84 _ rfl)) ml_X12_375 mv_X12_goesOn hM.k (Nat.le_of_ble_eq_true rfl) (n := 85) rfl (c_X12_goesOn (W := W) hM (by rw [kU]; exact hW) (fun I3 f3 e3 => ?_))
      have e3b : PP I3 r = stepP W (nI q) (I (r + 2) 121 + nI k) (setF (PP I r) (nI j - 1)) := by rw [e3, pU]
      have k3 := f3.k.trans kU
      refine Vw.aload_n (de_aload_0 (B 85 _ rfl)) 0 rfl (n := 86) rfl ?_
      refine Vw.iload_n (de_iload_1 (B 86 _ rfl)) 1 rfl (n := 87) rfl ?_
      refine Vw.ivi1 (mi' := mX12_fits) (de_invokevirtual (B 87 _ rfl) (B 88 _ rfl) (B 89 _ rfl)) ml_X12_352 mv_X12_fits hM.k (Nat.le_of_ble_eq_true rfl) (n := 90) rfl (c_X12_fits hM hc ?_)
      rw [e3b, k3]
      refine Vw.if_eq (tgt := 105) (n := 93) (de_if_eq (B 90 _ rfl) (B 91 _ rfl) (B 92 _ rfl)) rfl rfl (fun c_90 => ?_) (fun c_90 => ?_)
      · refine Vw.iload_n (de_iload_2 (B 105 _ rfl)) 2 rfl (n := 106) rfl ?_
        refine Vw.iconst (v := 1) (de_iconst_1 (B 106 _ rfl)) rfl (n := 107) rfl ?_
        refine Vw.iadd (de_iadd (B 107 _ rfl)) (n := 108) rfl ?_
        first
        | (have g := fin hj3 I3 (fJ.trans (fU.trans f3).fg); rw [playF_y c_90] at g; exact g)
        | (have g := fin hj3 I4 ((fJ.trans (fU.trans f3).fg).trans f4); rw [playF_n c_90] at g; rw [k3, e3b]; exact g)
      refine Vw.aload_n (de_aload_0 (B 93 _ rfl)) 0 rfl (n := 94) rfl ?_
      refine Vw.iload_n (de_iload_1 (B 94 _ rfl)) 1 rfl (n := 95) rfl ?_
      refine Vw.iload_n (de_iload_2 (B 95 _ rfl)) 2 rfl (n := 96) rfl ?_
      refine Vw.iconst (v := 1) (de_iconst_1 (B 96 _ rfl)) rfl (n := 97) rfl ?_
      refine Vw.iadd (de_iadd (B 97 _ rfl)) (n := 98) rfl ?_
      refine Vw.iload_n (de_iload_3 (B 98 _ rfl)) 3 rfl (n := 99) rfl ?_
      rw [nI_1]
      refine Vw.ivi3 (mi' := mX12_plays) (de_invokevirtual (B 99 _ rfl) (B 100 _ rfl) (B 101 _ rfl)) ml_X12_422 mv_X12_plays hM.k (Nat.le_of_ble_eq_true rfl) (n := 102) rfl (ihm (k + 1) (by omega) d S I3 L _ r hM (by rw [k3]; exact hW) (by rw [k3]; exact hwr) (fun I4 f4 _ => ?_))
      refine Vw.goto_ (n := 108) (de_goto_ (B 102 _ rfl) (B 103 _ rfl) (B 104 _ rfl)) rfl ?_
      first
      | (have g := fin hj3 I3 (fJ.trans (fU.trans f3).fg); rw [playF_y c_90] at g; exact g)
      | (have g := fin hj3 I4 ((fJ.trans (fU.trans f3).fg).trans f4); rw [playF_n c_90] at g; rw [k3, e3b]; exact g)
    show Vw mX12_plays (d + (m + 1) + 45) 0 0 0 0 (ViQ Q) 0 [(0, .ref r), (1, .int (nI c)), (2, .int (nI k)), (3, .int (nI n))] [] S I L
    refine Vw.iload_n (de_iload_2 (B 0 _ rfl)) 2 rfl (n := 1) rfl ?_
    refine Vw.iload_n (de_iload_3 (B 1 _ rfl)) 3 rfl (n := 2) rfl ?_
    refine Vw.icmp_ne (tgt := 9) (n := 5) (de_icmp_ne (B 2 _ rfl) (B 3 _ rfl) (B 4 _ rfl)) rfl rfl (fun c_2 => ?_) (fun c_2 => ?_)
    · refine Vw.aload_n (de_aload_0 (B 9 _ rfl)) 0 rfl (n := 10) rfl ?_
      refine Vw.getI (de_getfield (B 10 _ rfl) (B 11 _ rfl) (B 12 _ rfl)) fl_X12_318 rfl hM.k (n := 13) rfl ?_
      refine Vw.istore (lv2 := [(0, _), (1, _), (2, _), (3, _), (4, _)]) (de_istore (B 13 _ rfl) (B 14 _ rfl)) (by decide) [1, 2, 3, 4, 0] rfl (n := 15) rfl ?_
      refine Vw.aload_n (de_aload_0 (B 15 _ rfl)) 0 rfl (n := 16) rfl ?_
      refine Vw.getI (de_getfield (B 16 _ rfl) (B 17 _ rfl) (B 18 _ rfl)) fl_X12_321 rfl hM.k (n := 19) rfl ?_
      refine Vw.istore (lv2 := [(0, _), (1, _), (2, _), (3, _), (4, _), (5, _)]) (de_istore (B 19 _ rfl) (B 20 _ rfl)) (by decide) [1, 2, 3, 4, 5, 0] rfl (n := 21) rfl ?_
      refine Vw.aload_n (de_aload_0 (B 21 _ rfl)) 0 rfl (n := 22) rfl ?_
      refine Vw.getI (de_getfield (B 22 _ rfl) (B 23 _ rfl) (B 24 _ rfl)) fl_X12_324 rfl hM.k (n := 25) rfl ?_
      refine Vw.istore (lv2 := [(0, _), (1, _), (2, _), (3, _), (4, _), (5, _), (6, _)]) (de_istore (B 25 _ rfl) (B 26 _ rfl)) (by decide) [1, 2, 3, 4, 5, 6, 0] rfl (n := 27) rfl ?_
      refine Vw.iconst (v := 0) (de_iconst_0 (B 27 _ rfl)) rfl (n := 28) rfl ?_
      refine Vw.istore (lv2 := [(0, _), (1, _), (2, _), (3, _), (4, _), (5, _), (6, _), (7, _)]) (de_istore (B 28 _ rfl) (B 29 _ rfl)) (by decide) [1, 2, 3, 4, 5, 6, 7, 0] rfl (n := 30) rfl ?_
      refine Vw.iconst (v := -1) (de_iconst_m1 (B 30 _ rfl)) rfl (n := 31) rfl ?_
      refine Vw.istore (lv2 := [(0, _), (1, _), (2, _), (3, _), (4, _), (5, _), (6, _), (7, _), (8, _)]) (de_istore (B 31 _ rfl) (B 32 _ rfl)) (by decide) [1, 2, 3, 4, 5, 6, 7, 8, 0] rfl (n := 33) rfl ?_
      refine Vw.iconst (v := -1) (de_iconst_m1 (B 33 _ rfl)) rfl (n := 34) rfl ?_
      refine Vw.istore (lv2 := [(0, _), (1, _), (2, _), (3, _), (4, _), (5, _), (6, _), (7, _), (8, _), (9, _)]) (de_istore (B 34 _ rfl) (B 35 _ rfl)) (by decide) [1, 2, 3, 4, 5, 6, 7, 8, 9, 0] rfl (n := 36) rfl ?_
      exact loop 0 (Nat.zero_le _) I Fg.rfl
    exact absurd (nI_inj (by omega) (by omega) c_2) (by omega)
def gameP (W : tW) (K : Nat → Int32) (nc : Nat) (c n x : Int32) : Int32 := if zLie c 0 (nI nc - 1) = 0 ∨ K (32 + 8 * c.toNatClampNeg + 4) = -1 ∨ zLie n 1 8 = 0 ∨ zLie x 0 1 = 0 then -1
  else if x = 0 then playV W (K (32 + 8 * c.toNatClampNeg + 4)) (K 121) (K (32 + 8 * c.toNatClampNeg)) (K (32 + 8 * c.toNatClampNeg + 1)) n.toNatClampNeg n.toNatClampNeg (perP K (wrN K c.toNatClampNeg))
  else playB W (K (32 + 8 * c.toNatClampNeg + 4)) (K 121) (K (32 + 8 * c.toNatClampNeg)) (K (32 + 8 * c.toNatClampNeg + 1)) n.toNatClampNeg (n.toNatClampNeg - 1) (perP K (wrN K c.toNatClampNeg))
theorem c_X12_plays_n {d : Nat} {S : vS} {I : vI} {L : vL} {Q : Int32 → vS → vI → vL → Prop} {r : Nat} {c q n : Nat} {W : tW} (hM : MS S r) (hn : n ≤ 8) (hc : c < 10) (hq : q < 8) (hW : WD (I (r + 2)) W) (hwr : I (r + 2) (32 + 8 * c + 4) = nI q) (h : ∀ I2, Fg r I I2 → (∀ m2, n = m2 + 1 → I2 r 42 = playB W (nI q) (I (r + 2) 121) (I (r + 2) (32 + 8 * c)) (I (r + 2) (32 + 8 * c + 1)) n m2 (PP I r)) → Q (playV W (nI q) (I (r + 2) 121) (I (r + 2) (32 + 8 * c)) (I (r + 2) (32 + 8 * c + 1)) n n (PP I r)) S I2 L) : Vc mX12_plays (d + 53) 0 0 [.ref r, .int (nI c), .int 0, .int (nI n)] S I L (ViQ Q) := by
  have e := c_X12_plays (c := c) (q := q) (n := n) (W := W) hn hc hq n 0 (by omega) (d + (8 - n)) S I L Q r hM hW hwr h
  rw [show d + (8 - n) + n + 45 = d + 53 by omega] at e
  exact e
theorem c_X12_game {d : Nat} {S : vS} {I : vI} {L : vL} {Q : Int32 → vS → vI → vL → Prop} {r : Nat} {c y x : Int32} {np nc : Nat} {W : tW}  (hM : MS S r) (hW : WD (I (r + 2)) W) (hT : TN (I (r + 2)) np nc) (h : ∀ I2, Fg r I I2 → Q (gameP W (I (r + 2)) nc c y x) S I2 L) : Vc mX12_game (d + 54) 0 0 [.ref r, .int c, .int y, .int x] S I L (ViQ Q) := by
  refine Vc.of rfl (Nat.le_of_ble_eq_true rfl) ?_
  have B := bs_X12_game
  show Vw mX12_game (d + 54) 0 0 0 0 (ViQ Q) 0 [(0, .ref r), (1, .int c), (2, .int y), (3, .int x)] [] S I L
  have hnp := hT.1
  have hnc := hT.2.1
  have e142 := hT.2.2.1
  have e112 := hT.2.2.2.1
  refine Vw.aload_n (de_aload_0 (B 0 _ rfl)) 0 rfl (n := 1) rfl ?_
  refine Vw.iload_n (de_iload_1 (B 1 _ rfl)) 1 rfl (n := 2) rfl ?_
  refine Vw.ivi1 (mi' := mX12_isCoat) (de_invokevirtual (B 2 _ rfl) (B 3 _ rfl) (B 4 _ rfl)) ml_X12_366 mv_X12_isCoat hM.k (Nat.le_of_ble_eq_true rfl) (n := 5) rfl (c_X12_isCoat hM ?_)
  rw [e112]
  refine Vw.if_eq (tgt := 37) (n := 8) (de_if_eq (B 5 _ rfl) (B 6 _ rfl) (B 7 _ rfl)) rfl rfl (fun c_5 => ?_) (fun c_5 => ?_)
  · refine Vw.iconst (v := -1) (de_iconst_m1 (B 37 _ rfl)) rfl (n := 38) rfl ?_
    exact Vw.iret (de_ireturn (B 38 _ rfl)) rfl ⟨_, rfl, (qv (by unfold gameP; rw [if_pos]; first | exact Or.inl c_5 | (rw [nI_cl (show i < 2147483648 by omega)]; exact Or.inr (Or.inl c_15)) | exact Or.inr (Or.inr (Or.inl c_25)) | exact Or.inr (Or.inr (Or.inr c_34))) (h I Fg.rfl))⟩
  obtain ⟨i, hi, ei⟩ := lie_ex (by omega) c_5
  subst ei
  refine Vw.aload_n (de_aload_0 (B 8 _ rfl)) 0 rfl (n := 9) rfl ?_
  refine Vw.iload_n (de_iload_1 (B 9 _ rfl)) 1 rfl (n := 10) rfl ?_
  refine Vw.iconst (v := 4) (de_iconst_4 (B 10 _ rfl)) rfl (n := 11) rfl ?_
  refine Vw.ivi2 (mi' := mX12_part) (de_invokevirtual (B 11 _ rfl) (B 12 _ rfl) (B 13 _ rfl)) ml_X12_136 mv_X12_part hM.k (Nat.le_of_ble_eq_true rfl) (n := 14) rfl (c_X12_part hM (vIx_n (k := 32 + 8 * i + 4) (by simp only [nI_A, nI_M, Int32.zero_add, Int32.add_zero] <;> rfl) (by omega)) ?_)
  refine Vw.iconst (v := -1) (de_iconst_m1 (B 14 _ rfl)) rfl (n := 15) rfl ?_
  refine Vw.icmp_eq (tgt := 37) (n := 18) (de_icmp_eq (B 15 _ rfl) (B 16 _ rfl) (B 17 _ rfl)) rfl rfl (fun c_15 => ?_) (fun c_15 => ?_)
  · refine Vw.iconst (v := -1) (de_iconst_m1 (B 37 _ rfl)) rfl (n := 38) rfl ?_
    exact Vw.iret (de_ireturn (B 38 _ rfl)) rfl ⟨_, rfl, (qv (by unfold gameP; rw [if_pos]; first | exact Or.inl c_5 | (rw [nI_cl (show i < 2147483648 by omega)]; exact Or.inr (Or.inl c_15)) | exact Or.inr (Or.inr (Or.inl c_25)) | exact Or.inr (Or.inr (Or.inr c_34))) (h I Fg.rfl))⟩
  refine Vw.iload_n (de_iload_2 (B 18 _ rfl)) 2 rfl (n := 19) rfl ?_
  refine Vw.iconst (v := 1) (de_iconst_1 (B 19 _ rfl)) rfl (n := 20) rfl ?_
  refine Vw.bipush (v := 8) (de_bipush (B 20 _ rfl) (B 21 _ rfl)) rfl (n := 22) rfl ?_
  refine Vw.isi3 (mi' := mX12_lies) (de_invokestatic (B 22 _ rfl) (B 23 _ rfl) (B 24 _ rfl)) ml_X12_111 ms_X12_lies (Nat.le_of_ble_eq_true rfl) (n := 25) rfl (c_X12_lies ?_)
  refine Vw.if_eq (tgt := 37) (n := 28) (de_if_eq (B 25 _ rfl) (B 26 _ rfl) (B 27 _ rfl)) rfl rfl (fun c_25 => ?_) (fun c_25 => ?_)
  · refine Vw.iconst (v := -1) (de_iconst_m1 (B 37 _ rfl)) rfl (n := 38) rfl ?_
    exact Vw.iret (de_ireturn (B 38 _ rfl)) rfl ⟨_, rfl, (qv (by unfold gameP; rw [if_pos]; first | exact Or.inl c_5 | (rw [nI_cl (show i < 2147483648 by omega)]; exact Or.inr (Or.inl c_15)) | exact Or.inr (Or.inr (Or.inl c_25)) | exact Or.inr (Or.inr (Or.inr c_34))) (h I Fg.rfl))⟩
  refine Vw.iload_n (de_iload_3 (B 28 _ rfl)) 3 rfl (n := 29) rfl ?_
  refine Vw.iconst (v := 0) (de_iconst_0 (B 29 _ rfl)) rfl (n := 30) rfl ?_
  refine Vw.iconst (v := 1) (de_iconst_1 (B 30 _ rfl)) rfl (n := 31) rfl ?_
  refine Vw.isi3 (mi' := mX12_lies) (de_invokestatic (B 31 _ rfl) (B 32 _ rfl) (B 33 _ rfl)) ml_X12_111 ms_X12_lies (Nat.le_of_ble_eq_true rfl) (n := 34) rfl (c_X12_lies ?_)
  refine Vw.if_ne (tgt := 39) (n := 37) (de_if_ne (B 34 _ rfl) (B 35 _ rfl) (B 36 _ rfl)) rfl rfl (fun c_34 => ?_) (fun c_34 => ?_)
  · obtain ⟨q, hq, eq⟩ := hT.at hi c_15
    obtain ⟨n, hn1, hn, en⟩ := lie_m (a := 1) (N := 8) (by decide) (by decide) c_25
    subst en
    have eG : ∀ J, Fg r I J → Q (if x = 0 then playV W (nI q) (I (r + 2) 121) (I (r + 2) (32 + 8 * i)) (I (r + 2) (32 + 8 * i + 1)) n n (perP (I (r + 2)) q) else playB W (nI q) (I (r + 2) 121) (I (r + 2) (32 + 8 * i)) (I (r + 2) (32 + 8 * i + 1)) n (n - 1) (perP (I (r + 2)) q)) S J L := by
      intro J fJ
      have e := h J fJ
      unfold gameP at e
      rw [nI_cl (show i < 2147483648 by omega), if_neg (fun z => z.elim c_5 (fun z => z.elim c_15 (fun z => z.elim c_25 c_34))), nI_cl (show n < 2147483648 by omega)] at e
      unfold wrN at e
      rw [eq, nI_cl (show q < 2147483648 by omega)] at e
      exact e
    refine Vw.aload_n (de_aload_0 (B 39 _ rfl)) 0 rfl (n := 40) rfl ?_
    refine Vw.aload_n (de_aload_0 (B 40 _ rfl)) 0 rfl (n := 41) rfl ?_
    refine Vw.iload_n (de_iload_1 (B 41 _ rfl)) 1 rfl (n := 42) rfl ?_
    refine Vw.iconst (v := 4) (de_iconst_4 (B 42 _ rfl)) rfl (n := 43) rfl ?_
    refine Vw.ivi2 (mi' := mX12_part) (de_invokevirtual (B 43 _ rfl) (B 44 _ rfl) (B 45 _ rfl)) ml_X12_136 mv_X12_part hM.k (Nat.le_of_ble_eq_true rfl) (n := 46) rfl (c_X12_part hM (vIx_n (k := 32 + 8 * i + 4) (by simp only [nI_A, nI_M, Int32.zero_add, Int32.add_zero] <;> rfl) (by omega)) ?_)
    rw [eq]
    refine Vw.ivv1 (mi' := mX12_takes) (de_invokevirtual (B 46 _ rfl) (B 47 _ rfl) (B 48 _ rfl)) ml_X12_140 mv_X12_takes hM.k (Nat.le_of_ble_eq_true rfl) (n := 49) rfl (c_X12_takes hM (by omega) (fun I2 f2 e2 => ?_))
    refine Vw.aload_n (de_aload_0 (B 49 _ rfl)) 0 rfl (n := 50) rfl ?_
    refine Vw.iload_n (de_iload_1 (B 50 _ rfl)) 1 rfl (n := 51) rfl ?_
    refine Vw.iconst (v := 0) (de_iconst_0 (B 51 _ rfl)) rfl (n := 52) rfl ?_
    refine Vw.iload_n (de_iload_2 (B 52 _ rfl)) 2 rfl (n := 53) rfl ?_
    refine Vw.ivi3 (mi' := mX12_plays) (de_invokevirtual (B 53 _ rfl) (B 54 _ rfl) (B 55 _ rfl)) ml_X12_422 mv_X12_plays hM.k (Nat.le_of_ble_eq_true rfl) (n := 56) rfl (c_X12_plays_n hM (c := i) (q := q) (n := n) (W := W) (d := d) hn (by omega) (by omega) (by rw [f2.k]; exact hW) (by rw [f2.k]; exact eq) (fun I3 f3 b3 => ?_))
    skip
    refine Vw.istore (lv2 := [(0, _), (1, _), (2, _), (3, _), (4, _)]) (de_istore (B 56 _ rfl) (B 57 _ rfl)) (by decide) [1, 2, 3, 4, 0] rfl (n := 58) rfl ?_
    refine Vw.iload_n (de_iload_3 (B 58 _ rfl)) 3 rfl (n := 59) rfl ?_
    refine Vw.if_ne (tgt := 67) (n := 62) (de_if_ne (B 59 _ rfl) (B 60 _ rfl) (B 61 _ rfl)) rfl rfl (fun c_59 => ?_) (fun c_59 => ?_)
    · refine Vw.aload_n (de_aload_0 (B 67 _ rfl)) 0 rfl (n := 68) rfl ?_
      refine Vw.getI (de_getfield (B 68 _ rfl) (B 69 _ rfl) (B 70 _ rfl)) fl_X12_425 rfl hM.k (n := 71) rfl ?_
      skip
      exact Vw.iret (de_ireturn (B 71 _ rfl)) rfl ⟨_, rfl, (by rw [f2.k, e2] at b3; have e := eG I3 (f2.fg.trans f3); first | (rw [if_pos c_59] at e; rw [f2.k, e2]; exact e) | (rw [if_neg c_59] at e; exact qv (b3 (n - 1) (by omega)).symm e))⟩
    refine Vw.iload (de_iload (B 62 _ rfl) (B 63 _ rfl)) 4 rfl (n := 64) rfl ?_
    refine Vw.goto_ (n := 71) (de_goto_ (B 64 _ rfl) (B 65 _ rfl) (B 66 _ rfl)) rfl ?_
    skip
    exact Vw.iret (de_ireturn (B 71 _ rfl)) rfl ⟨_, rfl, (by rw [f2.k, e2] at b3; have e := eG I3 (f2.fg.trans f3); first | (rw [if_pos c_59] at e; rw [f2.k, e2]; exact e) | (rw [if_neg c_59] at e; exact qv (b3 (n - 1) (by omega)).symm e))⟩
  refine Vw.iconst (v := -1) (de_iconst_m1 (B 37 _ rfl)) rfl (n := 38) rfl ?_
  exact Vw.iret (de_ireturn (B 38 _ rfl)) rfl ⟨_, rfl, (qv (by unfold gameP; rw [if_pos]; first | exact Or.inl c_5 | (rw [nI_cl (show i < 2147483648 by omega)]; exact Or.inr (Or.inl c_15)) | exact Or.inr (Or.inr (Or.inl c_25)) | exact Or.inr (Or.inr (Or.inr c_34))) (h I Fg.rfl))⟩
