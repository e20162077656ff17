/-! play() of the class -/
theorem up2_ne {I : vI} {a k b j : Nat} {v : Int32} (h : ¬ (b = a ∧ j = k)) : up2 I a k v b j = I b j := by
  by_cases z : b = a
  · subst z; exact up2_k (fun y => h ⟨rfl, y⟩)
  · exact up2_a z
theorem mKp_k {I : vI} {s k b i : Nat} (h : ¬ (s + 35 ≤ b ∧ b ≤ s + 37 ∧ i = k)) : mKp I s k b i = I b i := by
  unfold mKp; rw [up2_ne (by omega), up2_ne (by omega), up2_ne (by omega)]
theorem mKp_r {I : vI} {s k : Nat} : mKp I s k (s + 35) k = I (s + 34) 0 ∧ mKp I s k (s + 36) k = I (s + 34) 1 ∧ mKp I s k (s + 37) k = I (s + 34) 2 := by
  unfold mKp
  refine ⟨?_, ?_, ?_⟩
  · rw [up2_a (by omega), up2_a (by omega), up2_s]
  · rw [up2_a (by omega), up2_s]
  · rw [up2_s]
theorem k0_of {k : Nat} (hk : k < 100000) (h : nI (k + 1) = 1) : k = 0 := by
  have := nI_inj (a := k + 1) (b := 1) (by omega) (by omega) h
  omega
theorem c_X4_play {s lb np nc q c n : Nat} {K : Nat → Int32} {W : tW} (hN : TN K np nc) (hlb : s + 66 ≤ lb) (hn : n ≤ 8) (hc : c < nc) (hq : q < np) (hw : K (32 + 8 * c + 4) = nI q) : ∀ (m k : Nat), k + m = n → ∀ (d : Nat) (S : vS) (I : vI) (L : vL) (Q : Int32 → vS → vI → vL → Prop) (lo hi : Nat) (P : tP), PlanS S (s + 33) s (s + 28) → TR I (s + 1) K np nc → WC S I s lb W → lo < hi → hi ≤ n + 1 → I (s + 35) k = P.1 → I (s + 36) k = P.2.1 → I (s + 37) k = P.2.2.1 → (∀ r I2 M, FG s k I I2 → Lev (s + 28) L M → r ≤ n + 2 → AB lo hi r (plN W (nI q) (K 121) (K (32 + 8 * c)) (K (32 + 8 * c + 1)) n m P) → (∀ m2, m = m2 + 1 → k = 0 → lo = 0 → hi = n + 1 → I2 (s + 33) 12 = nI (fM (plF W (nI q) (K 121) (K (32 + 8 * c)) (K (32 + 8 * c + 1)) k (plN W (nI q) (K 121) (K (32 + 8 * c)) (K (32 + 8 * c + 1)) n m2) P) 3) - 1) → Q (nI r) S I2 M) → Vc mX4_play (d + m + 3) 0 0 [.ref (s + 33), .ref (s + 1 + 13 + c), .int (nI (k + 1)), .int (nI n), .int (nI lo), .int (nI hi)] S I L (ViQ Q) := by
  have h8 := hN.1
  have h10 := hN.2.1
  intro m
  induction m with
  | zero =>
    intro k hk d S I L Q lo hi P hp hK hW hlh hhn p1 p2 p3 h
    have hT := hp.p0.p0
    have hR := hp.p1
    obtain rfl : k = n := by omega
    refine Vc.of rfl (Nat.le_of_ble_eq_true rfl) ?_
    have B := bs_X4_play
    show Vw mX4_play (d + 0 + 3) 0 0 0 0 (ViQ Q) 0 [(0, .ref (s + 33)), (1, .ref (s + 1 + 13 + c)), (2, .int (nI (k + 1))), (3, .int (nI k)), (4, .int (nI lo)), (5, .int (nI hi))] [] S I L
    refine Vw.iload_n (de_iload_2 (B 0 _ rfl)) 2 rfl (n := 1) rfl ?_
    refine Vw.iload_n (de_iload_3 (B 1 _ rfl)) 3 rfl (n := 2) rfl ?_
    refine Vw.icmp_gt (tgt := 11) (n := 5) (de_icmp_gt (B 2 _ rfl) (B 3 _ rfl) (B 4 _ rfl)) rfl rfl (fun c_2 => ?_) (fun c_2 => ?_)
    · refine Vw.iload_n (de_iload_3 (B 11 _ rfl)) 3 rfl (n := 12) rfl ?_
      refine Vw.iconst (v := 1) (de_iconst_1 (B 12 _ rfl)) rfl (n := 13) rfl ?_
      refine Vw.iadd (de_iadd (B 13 _ rfl)) (n := 14) rfl ?_
      exact Vw.iret (de_ireturn (B 14 _ rfl)) rfl ⟨_, rfl, (by have e := h (k + 1) I L FG.rfl Lev.rfl (by omega) ⟨fun _ => Nat.le_refl _, fun _ => Nat.le_refl _⟩ (fun m2 e => by omega); rw [← nI_1] at e; exact e)⟩
    exact absurd (Int32.not_le.mp (fun z => absurd ((nI_leI (a := k + 1) (b := k) (by omega) (by omega)).mp z) (by omega))) c_2
  | succ m ihm =>
    intro k hk d S I L Q lo hi P hp hK hW hlh hhn p1 p2 p3 h
    have hT := hp.p0.p0
    have hR := hp.p1
    have ek : n - (m + 1) = k := by omega
    have hf : ∀ j, 1 ≤ (plF W (nI q) (K 121) (K (32 + 8 * c)) (K (32 + 8 * c + 1)) k (plN W (nI q) (K 121) (K (32 + 8 * c)) (K (32 + 8 * c + 1)) n m) P) j ∧ (plF W (nI q) (K 121) (K (32 + 8 * c)) (K (32 + 8 * c + 1)) k (plN W (nI q) (K 121) (K (32 + 8 * c)) (K (32 + 8 * c + 1)) n m) P) j ≤ n + 1 := by
      intro j
      unfold plF
      split
      · omega
      · exact plN_b (by omega)
    rw [plN, ek] at h
    refine Vc.of rfl (Nat.le_of_ble_eq_true rfl) ?_
    have B := bs_X4_play
    show Vw mX4_play (d + (m + 1) + 3) 0 0 0 0 (ViQ Q) 0 [(0, .ref (s + 33)), (1, .ref (s + 1 + 13 + c)), (2, .int (nI (k + 1))), (3, .int (nI n)), (4, .int (nI lo)), (5, .int (nI hi))] [] S I L
    have loopM : k % 2 = 0 → ∀ j, j ≤ 3 → ∀ b J M, FG s k I J → Lev (s + 28) L M → b ≤ n + 2 → AB lo hi b (bM (plF W (nI q) (K 121) (K (32 + 8 * c)) (K (32 + 8 * c + 1)) k (plN W (nI q) (K 121) (K (32 + 8 * c)) (K (32 + 8 * c + 1)) n m) P) j) → (k = 0 → lo = 0 → hi = n + 1 → 0 < j → J (s + 33) 12 = nI (fM (plF W (nI q) (K 121) (K (32 + 8 * c)) (K (32 + 8 * c + 1)) k (plN W (nI q) (K 121) (K (32 + 8 * c)) (K (32 + 8 * c + 1)) n m) P) j) - 1) → Vw mX4_play (d + (m + 1) + 3) 0 0 0 0 (ViQ Q) 46 [(0, .ref (s + 33)), (1, .ref (s + 1 + 13 + c)), (2, .int (nI (k + 1))), (3, .int (nI n)), (4, .int (nI (if b ≤ lo then lo else b))), (5, .int (nI hi)), (6, .int 1), (7, .int (nI b)), (8, .int (nI j - 1))] [] S J M := by
      intro hpar
      refine loop_up (fun j hj ih => ?_)
      intro b J M fJ fM_ hb ab fd
      have kJ := fJ.tr hK h8 h10
      have after : j < 3 → (if b ≤ lo then lo else b) < hi → ∀ r J M, FG s k I J → Lev (s + 28) L M → r ≤ n + 2 → AB (if b ≤ lo then lo else b) hi r ((plF W (nI q) (K 121) (K (32 + 8 * c)) (K (32 + 8 * c + 1)) k (plN W (nI q) (K 121) (K (32 + 8 * c)) (K (32 + 8 * c + 1)) n m) P) j) → (k = 0 → lo = 0 → hi = n + 1 → 0 < j → J (s + 33) 12 = nI (fM (plF W (nI q) (K 121) (K (32 + 8 * c)) (K (32 + 8 * c + 1)) k (plN W (nI q) (K 121) (K (32 + 8 * c)) (K (32 + 8 * c + 1)) n m) P) j) - 1) → Vw mX4_play (d + (m + 1) + 3) 0 0 0 0 (ViQ Q) 141 [(0, .ref (s + 33)), (1, .ref (s + 1 + 13 + c)), (2, .int (nI (k + 1))), (3, .int (nI n)), (4, .int (nI (if b ≤ lo then lo else b))), (5, .int (nI hi)), (6, .int 1), (7, .int (nI b)), (8, .int (nI j - 1))] [.int (nI r)] S J M := by
        intro hj3 hlh2 r J M fJ fM_ hr ar fd
        refine Vw.istore (lv2 := [(0, _), (1, _), (2, _), (3, _), (4, _), (5, _), (6, _), (7, _), (8, _), (10, _)]) (de_istore (B 141 _ rfl) (B 142 _ rfl)) (by decide) [1, 2, 3, 4, 5, 6, 7, 8, 9, 0] rfl (n := 143) rfl ?_
        refine Vw.iload (de_iload (B 143 _ rfl) (B 144 _ rfl)) 6 rfl (n := 145) rfl ?_
        refine Vw.if_eq (tgt := 158) (n := 148) (de_if_eq (B 145 _ rfl) (B 146 _ rfl) (B 147 _ rfl)) rfl rfl (fun c_145 => ?_) (fun c_145 => ?_)
        · exact absurd c_145 (by decide)
        refine Vw.iload (de_iload (B 148 _ rfl) (B 149 _ rfl)) 9 rfl (n := 150) rfl ?_
        refine Vw.iload (de_iload (B 150 _ rfl) (B 151 _ rfl)) 7 rfl (n := 152) rfl ?_
        refine Vw.icmp_le (tgt := 187) (n := 155) (de_icmp_le (B 152 _ rfl) (B 153 _ rfl) (B 154 _ rfl)) rfl rfl (fun c_152 => ?_) (fun c_152 => ?_)
        · refine Vw.iload (de_iload (B 187 _ rfl) (B 188 _ rfl)) 6 rfl (n := 189) rfl ?_
          refine Vw.if_eq (tgt := 204) (n := 192) (de_if_eq (B 189 _ rfl) (B 190 _ rfl) (B 191 _ rfl)) rfl rfl (fun c_189 => ?_) (fun c_189 => ?_)
          · exact absurd c_189 (by decide)
          refine Vw.iload (de_iload (B 192 _ rfl) (B 193 _ rfl)) 4 rfl (n := 194) rfl ?_
          refine Vw.iload (de_iload (B 194 _ rfl) (B 195 _ rfl)) 7 rfl (n := 196) rfl ?_
          refine Vw.mmaxI (de_invokestatic (B 196 _ rfl) (B 197 _ rfl) (B 198 _ rfl)) ml_X4_165 (Nat.le_of_ble_eq_true rfl) (n := 199) rfl ?_
          refine Vw.istore (lv2 := [(0, _), (1, _), (2, _), (3, _), (4, _), (5, _), (6, _), (7, _), (8, _), (10, _)]) (de_istore (B 199 _ rfl) (B 200 _ rfl)) (by decide) [1, 2, 3, 4, 0, 5, 6, 7, 8, 9] rfl (n := 201) rfl ?_
          refine Vw.goto_ (n := 213) (de_goto_ (B 201 _ rfl) (B 202 _ rfl) (B 203 _ rfl)) rfl ?_
          refine Vw.iinc (v := nI j - 1 + 1) (lv2 := [(0, _), (1, _), (2, _), (3, _), (4, _), (5, _), (6, _), (7, _), (8, _), (10, _)]) (de_iinc (B 213 _ rfl) (B 214 _ rfl) (B 215 _ rfl)) 8 rfl rfl (by decide) [1, 2, 3, 4, 5, 6, 7, 8, 0, 9] rfl (n := 216) rfl ?_
          refine Vw.goto_ (n := 46) (de_goto_ (B 216 _ rfl) (B 217 _ rfl) (B 218 _ rfl)) rfl ?_
          refine Vw.lvs (lv2 := [(0, _), (1, _), (2, _), (3, _), (4, _), (5, _), (6, _), (7, _), (8, _)]) [0, 1, 2, 3, 4, 5, 6, 7, 8] rfl ?_
          first
          | (have zr : r ≤ b := ((nI_leI (a := r) (b := b) (by omega) (by omega)).mp c_152)
             have g := ih hj3 b J M fJ fM_ hb (by have y := ab.mo ar; rw [if_pos zr] at y; rw [bM]; exact y) (fun e1 e2 e3 e4 => by
               have eb := (show AB 0 (n + 1) b (bM (plF W (nI q) (K 121) (K (32 + 8 * c)) (K (32 + 8 * c + 1)) k (plN W (nI q) (K 121) (K (32 + 8 * c)) (K (32 + 8 * c + 1)) n m) P) j) by rw [e2, e3] at ab; exact ab).ex (bM_le (fun j => (hf j).2))
               have er : (plF W (nI q) (K 121) (K (32 + 8 * c)) (K (32 + 8 * c + 1)) k (plN W (nI q) (K 121) (K (32 + 8 * c)) (K (32 + 8 * c + 1)) n m) P) j ≤ bM (plF W (nI q) (K 121) (K (32 + 8 * c)) (K (32 + 8 * c + 1)) k (plN W (nI q) (K 121) (K (32 + 8 * c)) (K (32 + 8 * c + 1)) n m) P) j := by
                 rw [e2, e3] at ar
                 obtain ⟨a1, a2⟩ := ar
                 have := (hf j).2
                 split at a1 <;> omega
               rw [fM, if_neg (by omega)]
               refine fd e1 e2 e3 (Nat.pos_of_ne_zero (fun z => ?_))
               rw [z] at er
               have := (hf 0).1
               rw [bM] at er
               omega)
             rw [← j1_1] at g
             rw [zMaxN (Nat.le_refl b) (by omega) (by omega)]
             exact g)
          | (have zr : ¬ r ≤ b := fun z => c_152 ((nI_leI (a := r) (b := b) (by omega) (by omega)).mpr z)
             have g := ih hj3 r (up2 J (s + 33) 12 (J (s + 33) 12)) M (fJ.trans (fun b i h1 h2 h3 h4 h5 => up2_id)) fM_ hr (by have y := ab.mo ar; rw [if_neg zr] at y; rw [bM]; exact y) (fun e1 e2 e3 e4 => by
               exact absurd (show nI (k + 1) = 1 by rw [e1]; rfl) c_172)
             rw [← j1_1] at g
             rw [zMaxN (show b ≤ r by omega) (by omega) (by omega)]
             exact g)
          | (have zr : ¬ r ≤ b := fun z => c_152 ((nI_leI (a := r) (b := b) (by omega) (by omega)).mpr z)
             have g := ih hj3 r (up2 J (s + 33) 12 (nI j - 1)) M (fJ.trans (fun b i h1 h2 h3 h4 h5 => up2_ne (fun z => h5 ⟨z.1, z.2, k0_of (by omega) c_172⟩))) fM_ hr (by have y := ab.mo ar; rw [if_neg zr] at y; rw [bM]; exact y) (fun e1 e2 e3 e4 => by
               have eb := (show AB 0 (n + 1) b (bM (plF W (nI q) (K 121) (K (32 + 8 * c)) (K (32 + 8 * c + 1)) k (plN W (nI q) (K 121) (K (32 + 8 * c)) (K (32 + 8 * c + 1)) n m) P) j) by rw [e2, e3] at ab; exact ab).ex (bM_le (fun j => (hf j).2))
               have er : bM (plF W (nI q) (K 121) (K (32 + 8 * c)) (K (32 + 8 * c + 1)) k (plN W (nI q) (K 121) (K (32 + 8 * c)) (K (32 + 8 * c + 1)) n m) P) j < (plF W (nI q) (K 121) (K (32 + 8 * c)) (K (32 + 8 * c + 1)) k (plN W (nI q) (K 121) (K (32 + 8 * c)) (K (32 + 8 * c + 1)) n m) P) j := by
                 rw [e2, e3] at ar
                 obtain ⟨a1, a2⟩ := ar
                 split at a1 <;> omega
               rw [up2_s, fM, if_pos er])
             rw [← j1_1] at g
             rw [zMaxN (show b ≤ r by omega) (by omega) (by omega)]
             exact g)
        refine Vw.goto_ (n := 165) (de_goto_ (B 155 _ rfl) (B 156 _ rfl) (B 157 _ rfl)) rfl ?_
        refine Vw.iload (de_iload (B 165 _ rfl) (B 166 _ rfl)) 9 rfl (n := 167) rfl ?_
        refine Vw.istore (lv2 := [(0, _), (1, _), (2, _), (3, _), (4, _), (5, _), (6, _), (7, _), (8, _), (10, _)]) (de_istore (B 167 _ rfl) (B 168 _ rfl)) (by decide) [1, 2, 3, 4, 5, 6, 7, 0, 8, 9] rfl (n := 169) rfl ?_
        refine Vw.aload_n (de_aload_0 (B 169 _ rfl)) 0 rfl (n := 170) rfl ?_
        refine Vw.iload_n (de_iload_2 (B 170 _ rfl)) 2 rfl (n := 171) rfl ?_
        refine Vw.iconst (v := 1) (de_iconst_1 (B 171 _ rfl)) rfl (n := 172) rfl ?_
        refine Vw.icmp_ne (tgt := 180) (n := 175) (de_icmp_ne (B 172 _ rfl) (B 173 _ rfl) (B 174 _ rfl)) rfl rfl (fun c_172 => ?_) (fun c_172 => ?_)
        · refine Vw.aload_n (de_aload_0 (B 180 _ rfl)) 0 rfl (n := 181) rfl ?_
          refine Vw.getI (de_getfield (B 181 _ rfl) (B 182 _ rfl) (B 183 _ rfl)) fl_X4_186 rfl hp.k (n := 184) rfl ?_
          refine Vw.putI (de_putfield (B 184 _ rfl) (B 185 _ rfl) (B 186 _ rfl)) fl_X4_186 hp.k rfl rfl (n := 187) rfl ?_
          refine Vw.iload (de_iload (B 187 _ rfl) (B 188 _ rfl)) 6 rfl (n := 189) rfl ?_
          refine Vw.if_eq (tgt := 204) (n := 192) (de_if_eq (B 189 _ rfl) (B 190 _ rfl) (B 191 _ rfl)) rfl rfl (fun c_189 => ?_) (fun c_189 => ?_)
          · exact absurd c_189 (by decide)
          refine Vw.iload (de_iload (B 192 _ rfl) (B 193 _ rfl)) 4 rfl (n := 194) rfl ?_
          refine Vw.iload (de_iload (B 194 _ rfl) (B 195 _ rfl)) 7 rfl (n := 196) rfl ?_
          refine Vw.mmaxI (de_invokestatic (B 196 _ rfl) (B 197 _ rfl) (B 198 _ rfl)) ml_X4_165 (Nat.le_of_ble_eq_true rfl) (n := 199) rfl ?_
          refine Vw.istore (lv2 := [(0, _), (1, _), (2, _), (3, _), (4, _), (5, _), (6, _), (7, _), (8, _), (10, _)]) (de_istore (B 199 _ rfl) (B 200 _ rfl)) (by decide) [1, 2, 3, 4, 0, 5, 6, 7, 8, 9] rfl (n := 201) rfl ?_
          refine Vw.goto_ (n := 213) (de_goto_ (B 201 _ rfl) (B 202 _ rfl) (B 203 _ rfl)) rfl ?_
          refine Vw.iinc (v := nI j - 1 + 1) (lv2 := [(0, _), (1, _), (2, _), (3, _), (4, _), (5, _), (6, _), (7, _), (8, _), (10, _)]) (de_iinc (B 213 _ rfl) (B 214 _ rfl) (B 215 _ rfl)) 8 rfl rfl (by decide) [1, 2, 3, 4, 5, 6, 7, 8, 0, 9] rfl (n := 216) rfl ?_
          refine Vw.goto_ (n := 46) (de_goto_ (B 216 _ rfl) (B 217 _ rfl) (B 218 _ rfl)) rfl ?_
          refine Vw.lvs (lv2 := [(0, _), (1, _), (2, _), (3, _), (4, _), (5, _), (6, _), (7, _), (8, _)]) [0, 1, 2, 3, 4, 5, 6, 7, 8] rfl ?_
          first
          | (have zr : r ≤ b := ((nI_leI (a := r) (b := b) (by omega) (by omega)).mp c_152)
             have g := ih hj3 b J M fJ fM_ hb (by have y := ab.mo ar; rw [if_pos zr] at y; rw [bM]; exact y) (fun e1 e2 e3 e4 => by
               have eb := (show AB 0 (n + 1) b (bM (plF W (nI q) (K 121) (K (32 + 8 * c)) (K (32 + 8 * c + 1)) k (plN W (nI q) (K 121) (K (32 + 8 * c)) (K (32 + 8 * c + 1)) n m) P) j) by rw [e2, e3] at ab; exact ab).ex (bM_le (fun j => (hf j).2))
               have er : (plF W (nI q) (K 121) (K (32 + 8 * c)) (K (32 + 8 * c + 1)) k (plN W (nI q) (K 121) (K (32 + 8 * c)) (K (32 + 8 * c + 1)) n m) P) j ≤ bM (plF W (nI q) (K 121) (K (32 + 8 * c)) (K (32 + 8 * c + 1)) k (plN W (nI q) (K 121) (K (32 + 8 * c)) (K (32 + 8 * c + 1)) n m) P) j := by
                 rw [e2, e3] at ar
                 obtain ⟨a1, a2⟩ := ar
                 have := (hf j).2
                 split at a1 <;> omega
               rw [fM, if_neg (by omega)]
               refine fd e1 e2 e3 (Nat.pos_of_ne_zero (fun z => ?_))
               rw [z] at er
               have := (hf 0).1
               rw [bM] at er
               omega)
             rw [← j1_1] at g
             rw [zMaxN (Nat.le_refl b) (by omega) (by omega)]
             exact g)
          | (have zr : ¬ r ≤ b := fun z => c_152 ((nI_leI (a := r) (b := b) (by omega) (by omega)).mpr z)
             have g := ih hj3 r (up2 J (s + 33) 12 (J (s + 33) 12)) M (fJ.trans (fun b i h1 h2 h3 h4 h5 => up2_id)) fM_ hr (by have y := ab.mo ar; rw [if_neg zr] at y; rw [bM]; exact y) (fun e1 e2 e3 e4 => by
               exact absurd (show nI (k + 1) = 1 by rw [e1]; rfl) c_172)
             rw [← j1_1] at g
             rw [zMaxN (show b ≤ r by omega) (by omega) (by omega)]
             exact g)
          | (have zr : ¬ r ≤ b := fun z => c_152 ((nI_leI (a := r) (b := b) (by omega) (by omega)).mpr z)
             have g := ih hj3 r (up2 J (s + 33) 12 (nI j - 1)) M (fJ.trans (fun b i h1 h2 h3 h4 h5 => up2_ne (fun z => h5 ⟨z.1, z.2, k0_of (by omega) c_172⟩))) fM_ hr (by have y := ab.mo ar; rw [if_neg zr] at y; rw [bM]; exact y) (fun e1 e2 e3 e4 => by
               have eb := (show AB 0 (n + 1) b (bM (plF W (nI q) (K 121) (K (32 + 8 * c)) (K (32 + 8 * c + 1)) k (plN W (nI q) (K 121) (K (32 + 8 * c)) (K (32 + 8 * c + 1)) n m) P) j) by rw [e2, e3] at ab; exact ab).ex (bM_le (fun j => (hf j).2))
               have er : bM (plF W (nI q) (K 121) (K (32 + 8 * c)) (K (32 + 8 * c + 1)) k (plN W (nI q) (K 121) (K (32 + 8 * c)) (K (32 + 8 * c + 1)) n m) P) j < (plF W (nI q) (K 121) (K (32 + 8 * c)) (K (32 + 8 * c + 1)) k (plN W (nI q) (K 121) (K (32 + 8 * c)) (K (32 + 8 * c + 1)) n m) P) j := by
                 rw [e2, e3] at ar
                 obtain ⟨a1, a2⟩ := ar
                 split at a1 <;> omega
               rw [up2_s, fM, if_pos er])
             rw [← j1_1] at g
             rw [zMaxN (show b ≤ r by omega) (by omega) (by omega)]
             exact g)
        refine Vw.iload (de_iload (B 175 _ rfl) (B 176 _ rfl)) 8 rfl (n := 177) rfl ?_
        refine Vw.goto_ (n := 184) (de_goto_ (B 177 _ rfl) (B 178 _ rfl) (B 179 _ rfl)) rfl ?_
        refine Vw.putI (de_putfield (B 184 _ rfl) (B 185 _ rfl) (B 186 _ rfl)) fl_X4_186 hp.k rfl rfl (n := 187) rfl ?_
        refine Vw.iload (de_iload (B 187 _ rfl) (B 188 _ rfl)) 6 rfl (n := 189) rfl ?_
        refine Vw.if_eq (tgt := 204) (n := 192) (de_if_eq (B 189 _ rfl) (B 190 _ rfl) (B 191 _ rfl)) rfl rfl (fun c_189 => ?_) (fun c_189 => ?_)
        · exact absurd c_189 (by decide)
        refine Vw.iload (de_iload (B 192 _ rfl) (B 193 _ rfl)) 4 rfl (n := 194) rfl ?_
        refine Vw.iload (de_iload (B 194 _ rfl) (B 195 _ rfl)) 7 rfl (n := 196) rfl ?_
        refine Vw.mmaxI (de_invokestatic (B 196 _ rfl) (B 197 _ rfl) (B 198 _ rfl)) ml_X4_165 (Nat.le_of_ble_eq_true rfl) (n := 199) rfl ?_
        refine Vw.istore (lv2 := [(0, _), (1, _), (2, _), (3, _), (4, _), (5, _), (6, _), (7, _), (8, _), (10, _)]) (de_istore (B 199 _ rfl) (B 200 _ rfl)) (by decide) [1, 2, 3, 4, 0, 5, 6, 7, 8, 9] rfl (n := 201) rfl ?_
        refine Vw.goto_ (n := 213) (de_goto_ (B 201 _ rfl) (B 202 _ rfl) (B 203 _ rfl)) rfl ?_
        refine Vw.iinc (v := nI j - 1 + 1) (lv2 := [(0, _), (1, _), (2, _), (3, _), (4, _), (5, _), (6, _), (7, _), (8, _), (10, _)]) (de_iinc (B 213 _ rfl) (B 214 _ rfl) (B 215 _ rfl)) 8 rfl rfl (by decide) [1, 2, 3, 4, 5, 6, 7, 8, 0, 9] rfl (n := 216) rfl ?_
        refine Vw.goto_ (n := 46) (de_goto_ (B 216 _ rfl) (B 217 _ rfl) (B 218 _ rfl)) rfl ?_
        refine Vw.lvs (lv2 := [(0, _), (1, _), (2, _), (3, _), (4, _), (5, _), (6, _), (7, _), (8, _)]) [0, 1, 2, 3, 4, 5, 6, 7, 8] rfl ?_
        first
        | (have zr : r ≤ b := ((nI_leI (a := r) (b := b) (by omega) (by omega)).mp c_152)
           have g := ih hj3 b J M fJ fM_ hb (by have y := ab.mo ar; rw [if_pos zr] at y; rw [bM]; exact y) (fun e1 e2 e3 e4 => by
             have eb := (show AB 0 (n + 1) b (bM (plF W (nI q) (K 121) (K (32 + 8 * c)) (K (32 + 8 * c + 1)) k (plN W (nI q) (K 121) (K (32 + 8 * c)) (K (32 + 8 * c + 1)) n m) P) j) by rw [e2, e3] at ab; exact ab).ex (bM_le (fun j => (hf j).2))
             have er : (plF W (nI q) (K 121) (K (32 + 8 * c)) (K (32 + 8 * c + 1)) k (plN W (nI q) (K 121) (K (32 + 8 * c)) (K (32 + 8 * c + 1)) n m) P) j ≤ bM (plF W (nI q) (K 121) (K (32 + 8 * c)) (K (32 + 8 * c + 1)) k (plN W (nI q) (K 121) (K (32 + 8 * c)) (K (32 + 8 * c + 1)) n m) P) j := by
               rw [e2, e3] at ar
               obtain ⟨a1, a2⟩ := ar
               have := (hf j).2
               split at a1 <;> omega
             rw [fM, if_neg (by omega)]
             refine fd e1 e2 e3 (Nat.pos_of_ne_zero (fun z => ?_))
             rw [z] at er
             have := (hf 0).1
             rw [bM] at er
             omega)
           rw [← j1_1] at g
           rw [zMaxN (Nat.le_refl b) (by omega) (by omega)]
           exact g)
        | (have zr : ¬ r ≤ b := fun z => c_152 ((nI_leI (a := r) (b := b) (by omega) (by omega)).mpr z)
           have g := ih hj3 r (up2 J (s + 33) 12 (J (s + 33) 12)) M (fJ.trans (fun b i h1 h2 h3 h4 h5 => up2_id)) fM_ hr (by have y := ab.mo ar; rw [if_neg zr] at y; rw [bM]; exact y) (fun e1 e2 e3 e4 => by
             exact absurd (show nI (k + 1) = 1 by rw [e1]; rfl) c_172)
           rw [← j1_1] at g
           rw [zMaxN (show b ≤ r by omega) (by omega) (by omega)]
           exact g)
        | (have zr : ¬ r ≤ b := fun z => c_152 ((nI_leI (a := r) (b := b) (by omega) (by omega)).mpr z)
           have g := ih hj3 r (up2 J (s + 33) 12 (nI j - 1)) M (fJ.trans (fun b i h1 h2 h3 h4 h5 => up2_ne (fun z => h5 ⟨z.1, z.2, k0_of (by omega) c_172⟩))) fM_ hr (by have y := ab.mo ar; rw [if_neg zr] at y; rw [bM]; exact y) (fun e1 e2 e3 e4 => by
             have eb := (show AB 0 (n + 1) b (bM (plF W (nI q) (K 121) (K (32 + 8 * c)) (K (32 + 8 * c + 1)) k (plN W (nI q) (K 121) (K (32 + 8 * c)) (K (32 + 8 * c + 1)) n m) P) j) by rw [e2, e3] at ab; exact ab).ex (bM_le (fun j => (hf j).2))
             have er : bM (plF W (nI q) (K 121) (K (32 + 8 * c)) (K (32 + 8 * c + 1)) k (plN W (nI q) (K 121) (K (32 + 8 * c)) (K (32 + 8 * c + 1)) n m) P) j < (plF W (nI q) (K 121) (K (32 + 8 * c)) (K (32 + 8 * c + 1)) k (plN W (nI q) (K 121) (K (32 + 8 * c)) (K (32 + 8 * c + 1)) n m) P) j := by
               rw [e2, e3] at ar
               obtain ⟨a1, a2⟩ := ar
               split at a1 <;> omega
             rw [up2_s, fM, if_pos er])
           rw [← j1_1] at g
           rw [zMaxN (show b ≤ r by omega) (by omega) (by omega)]
           exact g)
      refine Vw.iload (de_iload (B 46 _ rfl) (B 47 _ rfl)) 8 rfl (n := 48) rfl ?_
      refine Vw.iconst (v := 1) (de_iconst_1 (B 48 _ rfl)) rfl (n := 49) rfl ?_
      refine Vw.icmp_gt (tgt := 219) (n := 52) (de_icmp_gt (B 49 _ rfl) (B 50 _ rfl) (B 51 _ rfl)) rfl rfl (fun c_49 => ?_) (fun c_49 => ?_)
      · refine Vw.iload (de_iload (B 219 _ rfl) (B 220 _ rfl)) 7 rfl (n := 221) rfl ?_
        exact Vw.iret (de_ireturn (B 221 _ rfl)) rfl ⟨_, rfl, (by
          refine h b J M fJ fM_ hb ?_ ?_
          · rw [if_pos hpar]
            have := bM_up (f := (plF W (nI q) (K 121) (K (32 + 8 * c)) (K (32 + 8 * c + 1)) k (plN W (nI q) (K 121) (K (32 + 8 * c)) (K (32 + 8 * c + 1)) n m) P)) (j := j) (t := 3) hj
            obtain ⟨y1, y2⟩ := ab
            first
            | (have hz : ¬ (if b ≤ lo then lo else b) < hi := fun z => absurd ((nI_leI (a := hi) (b := (if b ≤ lo then lo else b)) (by first | omega | (split <;> omega)) (by first | omega | (split <;> omega))).mp c_56) (Nat.not_le.mpr z)
               unfold AB
               split at hz <;> omega)
            | (have e3 : j = 3 := (j1_le hj).mp c_49
               rw [e3] at y1 y2
               exact ⟨y1, y2⟩)
          · intro m2 e0 e1 e2 e3
            obtain rfl : m = m2 := by omega
            have eb := (show AB 0 (n + 1) b (bM (plF W (nI q) (K 121) (K (32 + 8 * c)) (K (32 + 8 * c + 1)) k (plN W (nI q) (K 121) (K (32 + 8 * c)) (K (32 + 8 * c + 1)) n m) P) j) by rw [e2, e3] at ab; exact ab).ex (bM_le (fun j => (hf j).2))
            first
            | (have e4 : j = 3 := (j1_le hj).mp c_49
               rw [e4] at fd
               exact fd e1 e2 e3 (by decide))
            | (have hz : ¬ (if b ≤ lo then lo else b) < hi := fun z => absurd ((nI_leI (a := hi) (b := (if b ≤ lo then lo else b)) (by first | omega | (split <;> omega)) (by first | omega | (split <;> omega))).mp c_56) (Nat.not_le.mpr z)
               have hbn : bM (plF W (nI q) (K 121) (K (32 + 8 * c)) (K (32 + 8 * c + 1)) k (plN W (nI q) (K 121) (K (32 + 8 * c)) (K (32 + 8 * c + 1)) n m) P) j = n + 1 := by
                 have := bM_le (n := n) (j := j) (fun j => (hf j).2)
                 split at hz <;> omega
               rw [fM_end (n := n) (fun j => (hf j).2) hbn hj]
               refine fd e1 e2 e3 (Nat.pos_of_ne_zero (fun z => ?_))
               rw [z, bM] at hbn
               omega))⟩
      have hj3 : j < 3 := by rcases Nat.lt_or_ge j 3 with z | z; exact z; exact absurd ((j1_le hj).mpr (by omega)) c_49
      refine Vw.iload (de_iload (B 52 _ rfl) (B 53 _ rfl)) 4 rfl (n := 54) rfl ?_
      refine Vw.iload (de_iload (B 54 _ rfl) (B 55 _ rfl)) 5 rfl (n := 56) rfl ?_
      refine Vw.icmp_ge (tgt := 219) (n := 59) (de_icmp_ge (B 56 _ rfl) (B 57 _ rfl) (B 58 _ rfl)) rfl rfl (fun c_56 => ?_) (fun c_56 => ?_)
      · refine Vw.iload (de_iload (B 219 _ rfl) (B 220 _ rfl)) 7 rfl (n := 221) rfl ?_
        exact Vw.iret (de_ireturn (B 221 _ rfl)) rfl ⟨_, rfl, (by
          refine h b J M fJ fM_ hb ?_ ?_
          · rw [if_pos hpar]
            have := bM_up (f := (plF W (nI q) (K 121) (K (32 + 8 * c)) (K (32 + 8 * c + 1)) k (plN W (nI q) (K 121) (K (32 + 8 * c)) (K (32 + 8 * c + 1)) n m) P)) (j := j) (t := 3) hj
            obtain ⟨y1, y2⟩ := ab
            first
            | (have hz : ¬ (if b ≤ lo then lo else b) < hi := fun z => absurd ((nI_leI (a := hi) (b := (if b ≤ lo then lo else b)) (by first | omega | (split <;> omega)) (by first | omega | (split <;> omega))).mp c_56) (Nat.not_le.mpr z)
               unfold AB
               split at hz <;> omega)
            | (have e3 : j = 3 := (j1_le hj).mp c_49
               rw [e3] at y1 y2
               exact ⟨y1, y2⟩)
          · intro m2 e0 e1 e2 e3
            obtain rfl : m = m2 := by omega
            have eb := (show AB 0 (n + 1) b (bM (plF W (nI q) (K 121) (K (32 + 8 * c)) (K (32 + 8 * c + 1)) k (plN W (nI q) (K 121) (K (32 + 8 * c)) (K (32 + 8 * c + 1)) n m) P) j) by rw [e2, e3] at ab; exact ab).ex (bM_le (fun j => (hf j).2))
            first
            | (have e4 : j = 3 := (j1_le hj).mp c_49
               rw [e4] at fd
               exact fd e1 e2 e3 (by decide))
            | (have hz : ¬ (if b ≤ lo then lo else b) < hi := fun z => absurd ((nI_leI (a := hi) (b := (if b ≤ lo then lo else b)) (by first | omega | (split <;> omega)) (by first | omega | (split <;> omega))).mp c_56) (Nat.not_le.mpr z)
               have hbn : bM (plF W (nI q) (K 121) (K (32 + 8 * c)) (K (32 + 8 * c + 1)) k (plN W (nI q) (K 121) (K (32 + 8 * c)) (K (32 + 8 * c + 1)) n m) P) j = n + 1 := by
                 have := bM_le (n := n) (j := j) (fun j => (hf j).2)
                 split at hz <;> omega
               rw [fM_end (n := n) (fun j => (hf j).2) hbn hj]
               refine fd e1 e2 e3 (Nat.pos_of_ne_zero (fun z => ?_))
               rw [z, bM] at hbn
               omega))⟩
      have hlh2 : (if b ≤ lo then lo else b) < hi := by rcases Nat.lt_or_ge (if b ≤ lo then lo else b) hi with z | z; exact z; exact absurd ((nI_leI (a := hi) (b := (if b ≤ lo then lo else b)) (by first | omega | (split <;> omega)) (by first | omega | (split <;> omega))).mpr z) c_56
      refine Vw.aload_n (de_aload_0 (B 59 _ rfl)) 0 rfl (n := 60) rfl ?_
      refine Vw.iload_n (de_iload_2 (B 60 _ rfl)) 2 rfl (n := 61) rfl ?_
      refine Vw.iconst (v := 1) (de_iconst_1 (B 61 _ rfl)) rfl (n := 62) rfl ?_
      refine Vw.isub (de_isub (B 62 _ rfl)) (n := 63) rfl ?_
      refine Vw.iload (de_iload (B 63 _ rfl) (B 64 _ rfl)) 8 rfl (n := 65) rfl ?_
      rw [dn_p]
      refine Vw.ivv2 (mi' := mX4_standAt) (de_invokevirtual (B 65 _ rfl) (B 66 _ rfl) (B 67 _ rfl)) ml_X4_100 mv_X4_standAt hp.k (Nat.le_of_ble_eq_true rfl) (n := 68) rfl (c_X4_standAt hp (by omega) (fun I2 f2 e2 => ?_))
      have f2g : FG s k J I2 := fun b i h1 h2 h3 h4 h5 => congrFun (f2 b h3) i
      have k2 := f2g.tr kJ h8 h10
      refine Vw.aload_n (de_aload_0 (B 68 _ rfl)) 0 rfl (n := 69) rfl ?_
      refine Vw.getR (de_getfield (B 69 _ rfl) (B 70 _ rfl) (B 71 _ rfl)) fl_X4_53 rfl hp.k hp.f1 (n := 72) rfl ?_
      refine Vw.aload_n (de_aload_0 (B 72 _ rfl)) 0 rfl (n := 73) rfl ?_
      refine Vw.getR (de_getfield (B 73 _ rfl) (B 74 _ rfl) (B 75 _ rfl)) fl_X4_12 rfl hp.k hp.f2 (n := 76) rfl ?_
      refine Vw.aload_n (de_aload_1 (B 76 _ rfl)) 1 rfl (n := 77) rfl ?_
      refine Vw.getI (de_getfield (B 77 _ rfl) (B 78 _ rfl) (B 79 _ rfl)) fl_X4_129 rfl (hT.ck (show c < 10 by omega)) (n := 80) rfl ?_
      rw [k2.co hc (by decide), hw]
      refine Vw.aload_n (de_aload_0 (B 80 _ rfl)) 0 rfl (n := 81) rfl ?_
      refine Vw.getR (de_getfield (B 81 _ rfl) (B 82 _ rfl) (B 83 _ rfl)) fl_X4_49 rfl hp.k hp.f0 (n := 84) rfl ?_
      refine Vw.getR (de_getfield (B 84 _ rfl) (B 85 _ rfl) (B 86 _ rfl)) fl_X4_57 rfl hp.p0.k hp.p0.f0 (n := 87) rfl ?_
      refine Vw.getI (de_getfield (B 87 _ rfl) (B 88 _ rfl) (B 89 _ rfl)) fl_X4_74 rfl hp.p0.p0.k (n := 90) rfl ?_
      rw [k2.2.2.1]
      refine Vw.iload_n (de_iload_2 (B 90 _ rfl)) 2 rfl (n := 91) rfl ?_
      refine Vw.iadd (de_iadd (B 91 _ rfl)) (n := 92) rfl ?_
      refine Vw.iconst (v := 1) (de_iconst_1 (B 92 _ rfl)) rfl (n := 93) rfl ?_
      refine Vw.isub (de_isub (B 93 _ rfl)) (n := 94) rfl ?_
      rw [nw_m1]
      refine Vw.ivv3 (mi' := mX6_growOlder) (de_invokevirtual (B 94 _ rfl) (B 95 _ rfl) (B 96 _ rfl)) ml_X4_78 mv_X6_growOlder hp.p1.k (Nat.le_of_ble_eq_true rfl) (n := 97) rfl (c_X6_growOlder hR hp.ko2 (f2g.wc (fJ.wc hW hlb) hlb) (by omega) (fun I3 M3 f3 m3 e3 => ?_))
      have e3b : perA I3 (s + 34) = stepP W (nI q) (K 121 + nI k) (setF P (nI j - 1)) := by rw [show s + 34 = s + 33 + 1 from rfl, e3, e2, show J (s + 35) k = P.1 from (fJ _ _ (by omega) (by omega) (by omega) (by omega) (by omega)).trans p1, show J (s + 36) k = P.2.1 from (fJ _ _ (by omega) (by omega) (by omega) (by omega) (by omega)).trans p2, show J (s + 37) k = P.2.2.1 from (fJ _ _ (by omega) (by omega) (by omega) (by omega) (by omega)).trans p3]; rfl
      have f3g : FG s k I2 I3 := fun b i h1 h2 h3 h4 h5 => congrFun (f3 b h2 h3) i
      refine Vw.aload_n (de_aload_0 (B 97 _ rfl)) 0 rfl (n := 98) rfl ?_
      refine Vw.iload_n (de_iload_2 (B 98 _ rfl)) 2 rfl (n := 99) rfl ?_
      refine Vw.ivv1 (mi' := mX4_keep) (de_invokevirtual (B 99 _ rfl) (B 100 _ rfl) (B 101 _ rfl)) ml_X4_70 mv_X4_keep hp.k (Nat.le_of_ble_eq_true rfl) (n := 102) rfl (c_X4_keep hp (by omega) ?_)
      have f4g : FG s k I3 (mKp I3 s (k + 1)) := fun b i h1 h2 h3 h4 h5 => mKp_k (by omega)
      have fA : FG s k J (mKp I3 s (k + 1)) := f2g.trans (f3g.trans f4g)
      have e4 : perA (mKp I3 s (k + 1)) (s + 33 + 1) = stepP W (nI q) (K 121 + nI k) (setF P (nI j - 1)) := by rw [show s + 33 + 1 = s + 34 from rfl, perA_of (mKp_o (by omega))]; exact e3b
      have k4 := fA.tr kJ h8 h10
      have z4 := perAe e3b
      have eF : mKp I3 s (k + 1) (s + 33) 12 = J (s + 33) 12 := by rw [mKp_o (by omega), f3 _ (by omega) (by omega), f2 _ (by omega)]
      refine Vw.aload_n (de_aload_0 (B 102 _ rfl)) 0 rfl (n := 103) rfl ?_
      refine Vw.getR (de_getfield (B 103 _ rfl) (B 104 _ rfl) (B 105 _ rfl)) fl_X4_12 rfl hp.k hp.f2 (n := 106) rfl ?_
      refine Vw.aload_n (de_aload_1 (B 106 _ rfl)) 1 rfl (n := 107) rfl ?_
      refine Vw.getI (de_getfield (B 107 _ rfl) (B 108 _ rfl) (B 109 _ rfl)) fl_X4_134 rfl (hT.ck (show c < 10 by omega)) (n := 110) rfl ?_
      rw [k4.co0 hc]
      refine Vw.aload_n (de_aload_1 (B 110 _ rfl)) 1 rfl (n := 111) rfl ?_
      refine Vw.getI (de_getfield (B 111 _ rfl) (B 112 _ rfl) (B 113 _ rfl)) fl_X4_135 rfl (hT.ck (show c < 10 by omega)) (n := 114) rfl ?_
      rw [k4.co hc (by decide)]
      refine Vw.ivi2 (mi' := mX3_fitsInto) (de_invokevirtual (B 114 _ rfl) (B 115 _ rfl) (B 116 _ rfl)) ml_X4_193 mv_X3_fitsInto hp.ko2 (Nat.le_of_ble_eq_true rfl) (n := 117) rfl (c_X3_fitsInto hp.ko2 ?_)
      rw [e4]
      refine Vw.istore (lv2 := [(0, _), (1, _), (2, _), (3, _), (4, _), (5, _), (6, _), (7, _), (8, _), (9, _)]) (de_istore (B 117 _ rfl) (B 118 _ rfl)) (by decide) [1, 2, 3, 4, 5, 6, 7, 8, 9, 0] rfl (n := 119) rfl ?_
      refine Vw.iload (de_iload (B 119 _ rfl) (B 120 _ rfl)) 9 rfl (n := 121) rfl ?_
      refine Vw.if_eq (tgt := 140) (n := 124) (de_if_eq (B 121 _ rfl) (B 122 _ rfl) (B 123 _ rfl)) rfl rfl (fun c_121 => ?_) (fun c_121 => ?_)
      · refine Vw.iload_n (de_iload_2 (B 140 _ rfl)) 2 rfl (n := 141) rfl ?_
        refine Vw.lvs (lv2 := [(0, _), (1, _), (2, _), (3, _), (4, _), (5, _), (6, _), (7, _), (8, _)]) [0, 1, 2, 3, 4, 5, 6, 7, 8] rfl ?_
        first
        | exact after hj3 hlh2 (k + 1) _ M3 (fJ.trans fA) (fM_.trans m3) (by omega) (by unfold plF; rw [if_pos c_121]; exact ⟨fun _ => Nat.le_refl _, fun _ => Nat.le_refl _⟩) (fun e1 e2 e3 e4 => by rw [eF]; exact fd e1 e2 e3 e4)
        | exact after hj3 hlh2 r _ M4 ((fJ.trans fA).trans f4.up) ((fM_.trans m3).trans m4) hr4 (by unfold plF; rw [if_neg c_121]; exact ar4) (fun e1 e2 e3 e4 => by rw [f4 _ _ (by omega) (by omega) (by omega) (by omega) (by omega), eF]; exact fd e1 e2 e3 e4)
      refine Vw.aload_n (de_aload_0 (B 124 _ rfl)) 0 rfl (n := 125) rfl ?_
      refine Vw.aload_n (de_aload_1 (B 125 _ rfl)) 1 rfl (n := 126) rfl ?_
      refine Vw.iload_n (de_iload_2 (B 126 _ rfl)) 2 rfl (n := 127) rfl ?_
      refine Vw.iconst (v := 1) (de_iconst_1 (B 127 _ rfl)) rfl (n := 128) rfl ?_
      refine Vw.iadd (de_iadd (B 128 _ rfl)) (n := 129) rfl ?_
      rw [nI_1]
      refine Vw.iload_n (de_iload_3 (B 129 _ rfl)) 3 rfl (n := 130) rfl ?_
      refine Vw.iload (de_iload (B 130 _ rfl) (B 131 _ rfl)) 4 rfl (n := 132) rfl ?_
      refine Vw.iload (de_iload (B 132 _ rfl) (B 133 _ rfl)) 5 rfl (n := 134) rfl ?_
      refine Vw.ivi5 (mi' := mX4_play) (de_invokevirtual (B 134 _ rfl) (B 135 _ rfl) (B 136 _ rfl)) ml_X4_189 mv_X4_play hp.k (Nat.le_of_ble_eq_true rfl) (n := 137) rfl (ihm (k + 1) (by omega) d S _ _ _ (if b ≤ lo then lo else b) hi (stepP W (nI q) (K 121 + nI k) (setF P (nI j - 1))) hp k4 (fA.wc (fJ.wc hW hlb) hlb) hlh2 (by first | exact hhn | (split <;> omega)) (mKp_r.1.trans z4.1) (mKp_r.2.1.trans z4.2.1) (mKp_r.2.2.trans z4.2.2.1) (fun r I4 M4 f4 m4 hr4 ar4 fd4 => ?_))
      refine Vw.goto_ (n := 141) (de_goto_ (B 137 _ rfl) (B 138 _ rfl) (B 139 _ rfl)) rfl ?_
      refine Vw.lvs (lv2 := [(0, _), (1, _), (2, _), (3, _), (4, _), (5, _), (6, _), (7, _), (8, _)]) [0, 1, 2, 3, 4, 5, 6, 7, 8] rfl ?_
      first
      | exact after hj3 hlh2 (k + 1) _ M3 (fJ.trans fA) (fM_.trans m3) (by omega) (by unfold plF; rw [if_pos c_121]; exact ⟨fun _ => Nat.le_refl _, fun _ => Nat.le_refl _⟩) (fun e1 e2 e3 e4 => by rw [eF]; exact fd e1 e2 e3 e4)
      | exact after hj3 hlh2 r _ M4 ((fJ.trans fA).trans f4.up) ((fM_.trans m3).trans m4) hr4 (by unfold plF; rw [if_neg c_121]; exact ar4) (fun e1 e2 e3 e4 => by rw [f4 _ _ (by omega) (by omega) (by omega) (by omega) (by omega), eF]; exact fd e1 e2 e3 e4)
    have loopS : ¬ k % 2 = 0 → ∀ j, j ≤ 3 → ∀ b J M, FG s k I J → Lev (s + 28) L M → b ≤ n + 2 → AB lo hi b (bS n (plF W (nI q) (K 121) (K (32 + 8 * c)) (K (32 + 8 * c + 1)) k (plN W (nI q) (K 121) (K (32 + 8 * c)) (K (32 + 8 * c + 1)) n m) P) j) → (k = 0 → lo = 0 → hi = n + 1 → 0 < j → J (s + 33) 12 = nI (fM (plF W (nI q) (K 121) (K (32 + 8 * c)) (K (32 + 8 * c + 1)) k (plN W (nI q) (K 121) (K (32 + 8 * c)) (K (32 + 8 * c + 1)) n m) P) j) - 1) → Vw mX4_play (d + (m + 1) + 3) 0 0 0 0 (ViQ Q) 46 [(0, .ref (s + 33)), (1, .ref (s + 1 + 13 + c)), (2, .int (nI (k + 1))), (3, .int (nI n)), (4, .int (nI lo)), (5, .int (nI (if hi ≤ b then hi else b))), (6, .int 0), (7, .int (nI b)), (8, .int (nI j - 1))] [] S J M := by
      intro hpar
      refine loop_up (fun j hj ih => ?_)
      intro b J M fJ fM_ hb ab fd
      have kJ := fJ.tr hK h8 h10
      have after : j < 3 → lo < (if hi ≤ b then hi else b) → ∀ r J M, FG s k I J → Lev (s + 28) L M → r ≤ n + 2 → AB lo (if hi ≤ b then hi else b) r ((plF W (nI q) (K 121) (K (32 + 8 * c)) (K (32 + 8 * c + 1)) k (plN W (nI q) (K 121) (K (32 + 8 * c)) (K (32 + 8 * c + 1)) n m) P) j) → (k = 0 → lo = 0 → hi = n + 1 → 0 < j → J (s + 33) 12 = nI (fM (plF W (nI q) (K 121) (K (32 + 8 * c)) (K (32 + 8 * c + 1)) k (plN W (nI q) (K 121) (K (32 + 8 * c)) (K (32 + 8 * c + 1)) n m) P) j) - 1) → Vw mX4_play (d + (m + 1) + 3) 0 0 0 0 (ViQ Q) 141 [(0, .ref (s + 33)), (1, .ref (s + 1 + 13 + c)), (2, .int (nI (k + 1))), (3, .int (nI n)), (4, .int (nI lo)), (5, .int (nI (if hi ≤ b then hi else b))), (6, .int 0), (7, .int (nI b)), (8, .int (nI j - 1))] [.int (nI r)] S J M := by
        intro hj3 hlh2 r J M fJ fM_ hr ar fd
        refine Vw.istore (lv2 := [(0, _), (1, _), (2, _), (3, _), (4, _), (5, _), (6, _), (7, _), (8, _), (10, _)]) (de_istore (B 141 _ rfl) (B 142 _ rfl)) (by decide) [1, 2, 3, 4, 5, 6, 7, 8, 9, 0] rfl (n := 143) rfl ?_
        refine Vw.iload (de_iload (B 143 _ rfl) (B 144 _ rfl)) 6 rfl (n := 145) rfl ?_
        refine Vw.if_eq (tgt := 158) (n := 148) (de_if_eq (B 145 _ rfl) (B 146 _ rfl) (B 147 _ rfl)) rfl rfl (fun c_145 => ?_) (fun c_145 => ?_)
        · refine Vw.iload (de_iload (B 158 _ rfl) (B 159 _ rfl)) 9 rfl (n := 160) rfl ?_
          refine Vw.iload (de_iload (B 160 _ rfl) (B 161 _ rfl)) 7 rfl (n := 162) rfl ?_
          refine Vw.icmp_ge (tgt := 187) (n := 165) (de_icmp_ge (B 162 _ rfl) (B 163 _ rfl) (B 164 _ rfl)) rfl rfl (fun c_162 => ?_) (fun c_162 => ?_)
          · refine Vw.iload (de_iload (B 187 _ rfl) (B 188 _ rfl)) 6 rfl (n := 189) rfl ?_
            refine Vw.if_eq (tgt := 204) (n := 192) (de_if_eq (B 189 _ rfl) (B 190 _ rfl) (B 191 _ rfl)) rfl rfl (fun c_189 => ?_) (fun c_189 => ?_)
            · refine Vw.iload (de_iload (B 204 _ rfl) (B 205 _ rfl)) 5 rfl (n := 206) rfl ?_
              refine Vw.iload (de_iload (B 206 _ rfl) (B 207 _ rfl)) 7 rfl (n := 208) rfl ?_
              refine Vw.mminI (de_invokestatic (B 208 _ rfl) (B 209 _ rfl) (B 210 _ rfl)) ml_X4_177 (Nat.le_of_ble_eq_true rfl) (n := 211) rfl ?_
              refine Vw.istore (lv2 := [(0, _), (1, _), (2, _), (3, _), (4, _), (5, _), (6, _), (7, _), (8, _), (10, _)]) (de_istore (B 211 _ rfl) (B 212 _ rfl)) (by decide) [1, 2, 3, 4, 5, 0, 6, 7, 8, 9] rfl (n := 213) rfl ?_
              refine Vw.iinc (v := nI j - 1 + 1) (lv2 := [(0, _), (1, _), (2, _), (3, _), (4, _), (5, _), (6, _), (7, _), (8, _), (10, _)]) (de_iinc (B 213 _ rfl) (B 214 _ rfl) (B 215 _ rfl)) 8 rfl rfl (by decide) [1, 2, 3, 4, 5, 6, 7, 8, 0, 9] rfl (n := 216) rfl ?_
              refine Vw.goto_ (n := 46) (de_goto_ (B 216 _ rfl) (B 217 _ rfl) (B 218 _ rfl)) rfl ?_
              refine Vw.lvs (lv2 := [(0, _), (1, _), (2, _), (3, _), (4, _), (5, _), (6, _), (7, _), (8, _)]) [0, 1, 2, 3, 4, 5, 6, 7, 8] rfl ?_
              first
              | (have zr : b ≤ r := ((nI_leI (a := b) (b := r) (by omega) (by omega)).mp c_162)
                 have g := ih hj3 b J M fJ fM_ hb (by have y := ab.mi ar; rw [if_pos zr] at y; rw [bS]; exact y) (fun e1 _ _ _ => absurd (show k % 2 = 0 by omega) hpar)
                 rw [← j1_1] at g
                 rw [zMinN (Nat.le_refl b) (by omega) (by omega)]
                 exact g)
              | (have zr : ¬ b ≤ r := fun z => c_162 ((nI_leI (a := b) (b := r) (by omega) (by omega)).mpr z)
                 have g := ih hj3 r (up2 J (s + 33) 12 (J (s + 33) 12)) M (fJ.trans (fun b i h1 h2 h3 h4 h5 => up2_id)) fM_ hr (by have y := ab.mi ar; rw [if_neg zr] at y; rw [bS]; exact y) (fun e1 _ _ _ => absurd (show k % 2 = 0 by omega) hpar)
                 rw [← j1_1] at g
                 rw [zMinN (show r ≤ b by omega) (by omega) (by omega)]
                 exact g)
            exact absurd rfl c_189
          refine Vw.iload (de_iload (B 165 _ rfl) (B 166 _ rfl)) 9 rfl (n := 167) rfl ?_
          refine Vw.istore (lv2 := [(0, _), (1, _), (2, _), (3, _), (4, _), (5, _), (6, _), (7, _), (8, _), (10, _)]) (de_istore (B 167 _ rfl) (B 168 _ rfl)) (by decide) [1, 2, 3, 4, 5, 6, 7, 0, 8, 9] rfl (n := 169) rfl ?_
          refine Vw.aload_n (de_aload_0 (B 169 _ rfl)) 0 rfl (n := 170) rfl ?_
          refine Vw.iload_n (de_iload_2 (B 170 _ rfl)) 2 rfl (n := 171) rfl ?_
          refine Vw.iconst (v := 1) (de_iconst_1 (B 171 _ rfl)) rfl (n := 172) rfl ?_
          refine Vw.icmp_ne (tgt := 180) (n := 175) (de_icmp_ne (B 172 _ rfl) (B 173 _ rfl) (B 174 _ rfl)) rfl rfl (fun c_172 => ?_) (fun c_172 => ?_)
          · refine Vw.aload_n (de_aload_0 (B 180 _ rfl)) 0 rfl (n := 181) rfl ?_
            refine Vw.getI (de_getfield (B 181 _ rfl) (B 182 _ rfl) (B 183 _ rfl)) fl_X4_186 rfl hp.k (n := 184) rfl ?_
            refine Vw.putI (de_putfield (B 184 _ rfl) (B 185 _ rfl) (B 186 _ rfl)) fl_X4_186 hp.k rfl rfl (n := 187) rfl ?_
            refine Vw.iload (de_iload (B 187 _ rfl) (B 188 _ rfl)) 6 rfl (n := 189) rfl ?_
            refine Vw.if_eq (tgt := 204) (n := 192) (de_if_eq (B 189 _ rfl) (B 190 _ rfl) (B 191 _ rfl)) rfl rfl (fun c_189 => ?_) (fun c_189 => ?_)
            · refine Vw.iload (de_iload (B 204 _ rfl) (B 205 _ rfl)) 5 rfl (n := 206) rfl ?_
              refine Vw.iload (de_iload (B 206 _ rfl) (B 207 _ rfl)) 7 rfl (n := 208) rfl ?_
              refine Vw.mminI (de_invokestatic (B 208 _ rfl) (B 209 _ rfl) (B 210 _ rfl)) ml_X4_177 (Nat.le_of_ble_eq_true rfl) (n := 211) rfl ?_
              refine Vw.istore (lv2 := [(0, _), (1, _), (2, _), (3, _), (4, _), (5, _), (6, _), (7, _), (8, _), (10, _)]) (de_istore (B 211 _ rfl) (B 212 _ rfl)) (by decide) [1, 2, 3, 4, 5, 0, 6, 7, 8, 9] rfl (n := 213) rfl ?_
              refine Vw.iinc (v := nI j - 1 + 1) (lv2 := [(0, _), (1, _), (2, _), (3, _), (4, _), (5, _), (6, _), (7, _), (8, _), (10, _)]) (de_iinc (B 213 _ rfl) (B 214 _ rfl) (B 215 _ rfl)) 8 rfl rfl (by decide) [1, 2, 3, 4, 5, 6, 7, 8, 0, 9] rfl (n := 216) rfl ?_
              refine Vw.goto_ (n := 46) (de_goto_ (B 216 _ rfl) (B 217 _ rfl) (B 218 _ rfl)) rfl ?_
              refine Vw.lvs (lv2 := [(0, _), (1, _), (2, _), (3, _), (4, _), (5, _), (6, _), (7, _), (8, _)]) [0, 1, 2, 3, 4, 5, 6, 7, 8] rfl ?_
              first
              | (have zr : b ≤ r := ((nI_leI (a := b) (b := r) (by omega) (by omega)).mp c_162)
                 have g := ih hj3 b J M fJ fM_ hb (by have y := ab.mi ar; rw [if_pos zr] at y; rw [bS]; exact y) (fun e1 _ _ _ => absurd (show k % 2 = 0 by omega) hpar)
                 rw [← j1_1] at g
                 rw [zMinN (Nat.le_refl b) (by omega) (by omega)]
                 exact g)
              | (have zr : ¬ b ≤ r := fun z => c_162 ((nI_leI (a := b) (b := r) (by omega) (by omega)).mpr z)
                 have g := ih hj3 r (up2 J (s + 33) 12 (J (s + 33) 12)) M (fJ.trans (fun b i h1 h2 h3 h4 h5 => up2_id)) fM_ hr (by have y := ab.mi ar; rw [if_neg zr] at y; rw [bS]; exact y) (fun e1 _ _ _ => absurd (show k % 2 = 0 by omega) hpar)
                 rw [← j1_1] at g
                 rw [zMinN (show r ≤ b by omega) (by omega) (by omega)]
                 exact g)
            exact absurd rfl c_189
          exact absurd (by rw [k0_of (by omega) c_172]) hpar
        exact absurd rfl c_145
      refine Vw.iload (de_iload (B 46 _ rfl) (B 47 _ rfl)) 8 rfl (n := 48) rfl ?_
      refine Vw.iconst (v := 1) (de_iconst_1 (B 48 _ rfl)) rfl (n := 49) rfl ?_
      refine Vw.icmp_gt (tgt := 219) (n := 52) (de_icmp_gt (B 49 _ rfl) (B 50 _ rfl) (B 51 _ rfl)) rfl rfl (fun c_49 => ?_) (fun c_49 => ?_)
      · refine Vw.iload (de_iload (B 219 _ rfl) (B 220 _ rfl)) 7 rfl (n := 221) rfl ?_
        exact Vw.iret (de_ireturn (B 221 _ rfl)) rfl ⟨_, rfl, (by
          refine h b J M fJ fM_ hb ?_ ?_
          · rw [if_neg hpar]
            have := bS_dn (n := n) (f := (plF W (nI q) (K 121) (K (32 + 8 * c)) (K (32 + 8 * c + 1)) k (plN W (nI q) (K 121) (K (32 + 8 * c)) (K (32 + 8 * c + 1)) n m) P)) (j := j) (t := 3) hj
            obtain ⟨y1, y2⟩ := ab
            first
            | (have hz : ¬ lo < (if hi ≤ b then hi else b) := fun z => absurd ((nI_leI (a := (if hi ≤ b then hi else b)) (b := lo) (by first | omega | (split <;> omega)) (by first | omega | (split <;> omega))).mp c_56) (Nat.not_le.mpr z)
               unfold AB
               split at hz <;> omega)
            | (have e3 : j = 3 := (j1_le hj).mp c_49
               rw [e3] at y1 y2
               exact ⟨y1, y2⟩)
          · intro m2 e0 e1 e2 e3
            exact absurd (show k % 2 = 0 by omega) hpar)⟩
      have hj3 : j < 3 := by rcases Nat.lt_or_ge j 3 with z | z; exact z; exact absurd ((j1_le hj).mpr (by omega)) c_49
      refine Vw.iload (de_iload (B 52 _ rfl) (B 53 _ rfl)) 4 rfl (n := 54) rfl ?_
      refine Vw.iload (de_iload (B 54 _ rfl) (B 55 _ rfl)) 5 rfl (n := 56) rfl ?_
      refine Vw.icmp_ge (tgt := 219) (n := 59) (de_icmp_ge (B 56 _ rfl) (B 57 _ rfl) (B 58 _ rfl)) rfl rfl (fun c_56 => ?_) (fun c_56 => ?_)
      · refine Vw.iload (de_iload (B 219 _ rfl) (B 220 _ rfl)) 7 rfl (n := 221) rfl ?_
        exact Vw.iret (de_ireturn (B 221 _ rfl)) rfl ⟨_, rfl, (by
          refine h b J M fJ fM_ hb ?_ ?_
          · rw [if_neg hpar]
            have := bS_dn (n := n) (f := (plF W (nI q) (K 121) (K (32 + 8 * c)) (K (32 + 8 * c + 1)) k (plN W (nI q) (K 121) (K (32 + 8 * c)) (K (32 + 8 * c + 1)) n m) P)) (j := j) (t := 3) hj
            obtain ⟨y1, y2⟩ := ab
            first
            | (have hz : ¬ lo < (if hi ≤ b then hi else b) := fun z => absurd ((nI_leI (a := (if hi ≤ b then hi else b)) (b := lo) (by first | omega | (split <;> omega)) (by first | omega | (split <;> omega))).mp c_56) (Nat.not_le.mpr z)
               unfold AB
               split at hz <;> omega)
            | (have e3 : j = 3 := (j1_le hj).mp c_49
               rw [e3] at y1 y2
               exact ⟨y1, y2⟩)
          · intro m2 e0 e1 e2 e3
            exact absurd (show k % 2 = 0 by omega) hpar)⟩
      have hlh2 : lo < (if hi ≤ b then hi else b) := by rcases Nat.lt_or_ge lo (if hi ≤ b then hi else b) with z | z; exact z; exact absurd ((nI_leI (a := (if hi ≤ b then hi else b)) (b := lo) (by first | omega | (split <;> omega)) (by first | omega | (split <;> omega))).mpr z) c_56
      refine Vw.aload_n (de_aload_0 (B 59 _ rfl)) 0 rfl (n := 60) rfl ?_
      refine Vw.iload_n (de_iload_2 (B 60 _ rfl)) 2 rfl (n := 61) rfl ?_
      refine Vw.iconst (v := 1) (de_iconst_1 (B 61 _ rfl)) rfl (n := 62) rfl ?_
      refine Vw.isub (de_isub (B 62 _ rfl)) (n := 63) rfl ?_
      refine Vw.iload (de_iload (B 63 _ rfl) (B 64 _ rfl)) 8 rfl (n := 65) rfl ?_
      rw [dn_p]
      refine Vw.ivv2 (mi' := mX4_standAt) (de_invokevirtual (B 65 _ rfl) (B 66 _ rfl) (B 67 _ rfl)) ml_X4_100 mv_X4_standAt hp.k (Nat.le_of_ble_eq_true rfl) (n := 68) rfl (c_X4_standAt hp (by omega) (fun I2 f2 e2 => ?_))
      have f2g : FG s k J I2 := fun b i h1 h2 h3 h4 h5 => congrFun (f2 b h3) i
      have k2 := f2g.tr kJ h8 h10
      refine Vw.aload_n (de_aload_0 (B 68 _ rfl)) 0 rfl (n := 69) rfl ?_
      refine Vw.getR (de_getfield (B 69 _ rfl) (B 70 _ rfl) (B 71 _ rfl)) fl_X4_53 rfl hp.k hp.f1 (n := 72) rfl ?_
      refine Vw.aload_n (de_aload_0 (B 72 _ rfl)) 0 rfl (n := 73) rfl ?_
      refine Vw.getR (de_getfield (B 73 _ rfl) (B 74 _ rfl) (B 75 _ rfl)) fl_X4_12 rfl hp.k hp.f2 (n := 76) rfl ?_
      refine Vw.aload_n (de_aload_1 (B 76 _ rfl)) 1 rfl (n := 77) rfl ?_
      refine Vw.getI (de_getfield (B 77 _ rfl) (B 78 _ rfl) (B 79 _ rfl)) fl_X4_129 rfl (hT.ck (show c < 10 by omega)) (n := 80) rfl ?_
      rw [k2.co hc (by decide), hw]
      refine Vw.aload_n (de_aload_0 (B 80 _ rfl)) 0 rfl (n := 81) rfl ?_
      refine Vw.getR (de_getfield (B 81 _ rfl) (B 82 _ rfl) (B 83 _ rfl)) fl_X4_49 rfl hp.k hp.f0 (n := 84) rfl ?_
      refine Vw.getR (de_getfield (B 84 _ rfl) (B 85 _ rfl) (B 86 _ rfl)) fl_X4_57 rfl hp.p0.k hp.p0.f0 (n := 87) rfl ?_
      refine Vw.getI (de_getfield (B 87 _ rfl) (B 88 _ rfl) (B 89 _ rfl)) fl_X4_74 rfl hp.p0.p0.k (n := 90) rfl ?_
      rw [k2.2.2.1]
      refine Vw.iload_n (de_iload_2 (B 90 _ rfl)) 2 rfl (n := 91) rfl ?_
      refine Vw.iadd (de_iadd (B 91 _ rfl)) (n := 92) rfl ?_
      refine Vw.iconst (v := 1) (de_iconst_1 (B 92 _ rfl)) rfl (n := 93) rfl ?_
      refine Vw.isub (de_isub (B 93 _ rfl)) (n := 94) rfl ?_
      rw [nw_m1]
      refine Vw.ivv3 (mi' := mX6_growOlder) (de_invokevirtual (B 94 _ rfl) (B 95 _ rfl) (B 96 _ rfl)) ml_X4_78 mv_X6_growOlder hp.p1.k (Nat.le_of_ble_eq_true rfl) (n := 97) rfl (c_X6_growOlder hR hp.ko2 (f2g.wc (fJ.wc hW hlb) hlb) (by omega) (fun I3 M3 f3 m3 e3 => ?_))
      have e3b : perA I3 (s + 34) = stepP W (nI q) (K 121 + nI k) (setF P (nI j - 1)) := by rw [show s + 34 = s + 33 + 1 from rfl, e3, e2, show J (s + 35) k = P.1 from (fJ _ _ (by omega) (by omega) (by omega) (by omega) (by omega)).trans p1, show J (s + 36) k = P.2.1 from (fJ _ _ (by omega) (by omega) (by omega) (by omega) (by omega)).trans p2, show J (s + 37) k = P.2.2.1 from (fJ _ _ (by omega) (by omega) (by omega) (by omega) (by omega)).trans p3]; rfl
      have f3g : FG s k I2 I3 := fun b i h1 h2 h3 h4 h5 => congrFun (f3 b h2 h3) i
      refine Vw.aload_n (de_aload_0 (B 97 _ rfl)) 0 rfl (n := 98) rfl ?_
      refine Vw.iload_n (de_iload_2 (B 98 _ rfl)) 2 rfl (n := 99) rfl ?_
      refine Vw.ivv1 (mi' := mX4_keep) (de_invokevirtual (B 99 _ rfl) (B 100 _ rfl) (B 101 _ rfl)) ml_X4_70 mv_X4_keep hp.k (Nat.le_of_ble_eq_true rfl) (n := 102) rfl (c_X4_keep hp (by omega) ?_)
      have f4g : FG s k I3 (mKp I3 s (k + 1)) := fun b i h1 h2 h3 h4 h5 => mKp_k (by omega)
      have fA : FG s k J (mKp I3 s (k + 1)) := f2g.trans (f3g.trans f4g)
      have e4 : perA (mKp I3 s (k + 1)) (s + 33 + 1) = stepP W (nI q) (K 121 + nI k) (setF P (nI j - 1)) := by rw [show s + 33 + 1 = s + 34 from rfl, perA_of (mKp_o (by omega))]; exact e3b
      have k4 := fA.tr kJ h8 h10
      have z4 := perAe e3b
      have eF : mKp I3 s (k + 1) (s + 33) 12 = J (s + 33) 12 := by rw [mKp_o (by omega), f3 _ (by omega) (by omega), f2 _ (by omega)]
      refine Vw.aload_n (de_aload_0 (B 102 _ rfl)) 0 rfl (n := 103) rfl ?_
      refine Vw.getR (de_getfield (B 103 _ rfl) (B 104 _ rfl) (B 105 _ rfl)) fl_X4_12 rfl hp.k hp.f2 (n := 106) rfl ?_
      refine Vw.aload_n (de_aload_1 (B 106 _ rfl)) 1 rfl (n := 107) rfl ?_
      refine Vw.getI (de_getfield (B 107 _ rfl) (B 108 _ rfl) (B 109 _ rfl)) fl_X4_134 rfl (hT.ck (show c < 10 by omega)) (n := 110) rfl ?_
      rw [k4.co0 hc]
      refine Vw.aload_n (de_aload_1 (B 110 _ rfl)) 1 rfl (n := 111) rfl ?_
      refine Vw.getI (de_getfield (B 111 _ rfl) (B 112 _ rfl) (B 113 _ rfl)) fl_X4_135 rfl (hT.ck (show c < 10 by omega)) (n := 114) rfl ?_
      rw [k4.co hc (by decide)]
      refine Vw.ivi2 (mi' := mX3_fitsInto) (de_invokevirtual (B 114 _ rfl) (B 115 _ rfl) (B 116 _ rfl)) ml_X4_193 mv_X3_fitsInto hp.ko2 (Nat.le_of_ble_eq_true rfl) (n := 117) rfl (c_X3_fitsInto hp.ko2 ?_)
      rw [e4]
      refine Vw.istore (lv2 := [(0, _), (1, _), (2, _), (3, _), (4, _), (5, _), (6, _), (7, _), (8, _), (9, _)]) (de_istore (B 117 _ rfl) (B 118 _ rfl)) (by decide) [1, 2, 3, 4, 5, 6, 7, 8, 9, 0] rfl (n := 119) rfl ?_
      refine Vw.iload (de_iload (B 119 _ rfl) (B 120 _ rfl)) 9 rfl (n := 121) rfl ?_
      refine Vw.if_eq (tgt := 140) (n := 124) (de_if_eq (B 121 _ rfl) (B 122 _ rfl) (B 123 _ rfl)) rfl rfl (fun c_121 => ?_) (fun c_121 => ?_)
      · refine Vw.iload_n (de_iload_2 (B 140 _ rfl)) 2 rfl (n := 141) rfl ?_
        refine Vw.lvs (lv2 := [(0, _), (1, _), (2, _), (3, _), (4, _), (5, _), (6, _), (7, _), (8, _)]) [0, 1, 2, 3, 4, 5, 6, 7, 8] rfl ?_
        first
        | exact after hj3 hlh2 (k + 1) _ M3 (fJ.trans fA) (fM_.trans m3) (by omega) (by unfold plF; rw [if_pos c_121]; exact ⟨fun _ => Nat.le_refl _, fun _ => Nat.le_refl _⟩) (fun e1 e2 e3 e4 => by rw [eF]; exact fd e1 e2 e3 e4)
        | exact after hj3 hlh2 r _ M4 ((fJ.trans fA).trans f4.up) ((fM_.trans m3).trans m4) hr4 (by unfold plF; rw [if_neg c_121]; exact ar4) (fun e1 e2 e3 e4 => by rw [f4 _ _ (by omega) (by omega) (by omega) (by omega) (by omega), eF]; exact fd e1 e2 e3 e4)
      refine Vw.aload_n (de_aload_0 (B 124 _ rfl)) 0 rfl (n := 125) rfl ?_
      refine Vw.aload_n (de_aload_1 (B 125 _ rfl)) 1 rfl (n := 126) rfl ?_
      refine Vw.iload_n (de_iload_2 (B 126 _ rfl)) 2 rfl (n := 127) rfl ?_
      refine Vw.iconst (v := 1) (de_iconst_1 (B 127 _ rfl)) rfl (n := 128) rfl ?_
      refine Vw.iadd (de_iadd (B 128 _ rfl)) (n := 129) rfl ?_
      rw [nI_1]
      refine Vw.iload_n (de_iload_3 (B 129 _ rfl)) 3 rfl (n := 130) rfl ?_
      refine Vw.iload (de_iload (B 130 _ rfl) (B 131 _ rfl)) 4 rfl (n := 132) rfl ?_
      refine Vw.iload (de_iload (B 132 _ rfl) (B 133 _ rfl)) 5 rfl (n := 134) rfl ?_
      refine Vw.ivi5 (mi' := mX4_play) (de_invokevirtual (B 134 _ rfl) (B 135 _ rfl) (B 136 _ rfl)) ml_X4_189 mv_X4_play hp.k (Nat.le_of_ble_eq_true rfl) (n := 137) rfl (ihm (k + 1) (by omega) d S _ _ _ lo (if hi ≤ b then hi else b) (stepP W (nI q) (K 121 + nI k) (setF P (nI j - 1))) hp k4 (fA.wc (fJ.wc hW hlb) hlb) hlh2 (by first | exact hhn | (split <;> omega)) (mKp_r.1.trans z4.1) (mKp_r.2.1.trans z4.2.1) (mKp_r.2.2.trans z4.2.2.1) (fun r I4 M4 f4 m4 hr4 ar4 fd4 => ?_))
      refine Vw.goto_ (n := 141) (de_goto_ (B 137 _ rfl) (B 138 _ rfl) (B 139 _ rfl)) rfl ?_
      refine Vw.lvs (lv2 := [(0, _), (1, _), (2, _), (3, _), (4, _), (5, _), (6, _), (7, _), (8, _)]) [0, 1, 2, 3, 4, 5, 6, 7, 8] rfl ?_
      first
      | exact after hj3 hlh2 (k + 1) _ M3 (fJ.trans fA) (fM_.trans m3) (by omega) (by unfold plF; rw [if_pos c_121]; exact ⟨fun _ => Nat.le_refl _, fun _ => Nat.le_refl _⟩) (fun e1 e2 e3 e4 => by rw [eF]; exact fd e1 e2 e3 e4)
      | exact after hj3 hlh2 r _ M4 ((fJ.trans fA).trans f4.up) ((fM_.trans m3).trans m4) hr4 (by unfold plF; rw [if_neg c_121]; exact ar4) (fun e1 e2 e3 e4 => by rw [f4 _ _ (by omega) (by omega) (by omega) (by omega) (by omega), eF]; exact fd e1 e2 e3 e4)
    have mother : k % 2 = 0 → Vw mX4_play (d + (m + 1) + 3) 0 0 0 0 (ViQ Q) 22 [(0, .ref (s + 33)), (1, .ref (s + 1 + 13 + c)), (2, .int (nI (k + 1))), (3, .int (nI n)), (4, .int (nI lo)), (5, .int (nI hi))] [] S I L := by
      intro hpar
      refine Vw.iconst (v := 1) (de_iconst_1 (B 22 _ rfl)) rfl (n := 23) rfl ?_
      refine Vw.goto_ (n := 27) (de_goto_ (B 23 _ rfl) (B 24 _ rfl) (B 25 _ rfl)) rfl ?_
      refine Vw.istore (lv2 := [(0, _), (1, _), (2, _), (3, _), (4, _), (5, _), (6, _)]) (de_istore (B 27 _ rfl) (B 28 _ rfl)) (by decide) [1, 2, 3, 4, 5, 6, 0] rfl (n := 29) rfl ?_
      refine Vw.iload (de_iload (B 29 _ rfl) (B 30 _ rfl)) 6 rfl (n := 31) rfl ?_
      refine Vw.if_eq (tgt := 38) (n := 34) (de_if_eq (B 31 _ rfl) (B 32 _ rfl) (B 33 _ rfl)) rfl rfl (fun c_31 => ?_) (fun c_31 => ?_)
      · exact absurd c_31 (by decide)
      refine Vw.iconst (v := 0) (de_iconst_0 (B 34 _ rfl)) rfl (n := 35) rfl ?_
      refine Vw.goto_ (n := 41) (de_goto_ (B 35 _ rfl) (B 36 _ rfl) (B 37 _ rfl)) rfl ?_
      refine Vw.istore (lv2 := [(0, _), (1, _), (2, _), (3, _), (4, _), (5, _), (6, _), (7, _)]) (de_istore (B 41 _ rfl) (B 42 _ rfl)) (by decide) [1, 2, 3, 4, 5, 6, 7, 0] rfl (n := 43) rfl ?_
      refine Vw.iconst (v := -1) (de_iconst_m1 (B 43 _ rfl)) rfl (n := 44) rfl ?_
      refine Vw.istore (lv2 := [(0, _), (1, _), (2, _), (3, _), (4, _), (5, _), (6, _), (7, _), (8, _)]) (de_istore (B 44 _ rfl) (B 45 _ rfl)) (by decide) [1, 2, 3, 4, 5, 6, 7, 8, 0] rfl (n := 46) rfl ?_
      have g := loopM hpar 0 (Nat.zero_le _) 0 I L FG.rfl Lev.rfl (by omega) ⟨fun _ => Nat.le_refl _, fun _ => Nat.le_refl _⟩ (fun _ _ _ z => absurd z (Nat.lt_irrefl _))
      rw [if_pos (Nat.zero_le _)] at g
      exact g
    have son : ¬ k % 2 = 0 → Vw mX4_play (d + (m + 1) + 3) 0 0 0 0 (ViQ Q) 26 [(0, .ref (s + 33)), (1, .ref (s + 1 + 13 + c)), (2, .int (nI (k + 1))), (3, .int (nI n)), (4, .int (nI lo)), (5, .int (nI hi))] [] S I L := by
      intro hpar
      refine Vw.iconst (v := 0) (de_iconst_0 (B 26 _ rfl)) rfl (n := 27) rfl ?_
      refine Vw.istore (lv2 := [(0, _), (1, _), (2, _), (3, _), (4, _), (5, _), (6, _)]) (de_istore (B 27 _ rfl) (B 28 _ rfl)) (by decide) [1, 2, 3, 4, 5, 6, 0] rfl (n := 29) rfl ?_
      refine Vw.iload (de_iload (B 29 _ rfl) (B 30 _ rfl)) 6 rfl (n := 31) rfl ?_
      refine Vw.if_eq (tgt := 38) (n := 34) (de_if_eq (B 31 _ rfl) (B 32 _ rfl) (B 33 _ rfl)) rfl rfl (fun c_31 => ?_) (fun c_31 => ?_)
      · refine Vw.iload_n (de_iload_3 (B 38 _ rfl)) 3 rfl (n := 39) rfl ?_
        refine Vw.iconst (v := 2) (de_iconst_2 (B 39 _ rfl)) rfl (n := 40) rfl ?_
        refine Vw.iadd (de_iadd (B 40 _ rfl)) (n := 41) rfl ?_
        rw [show nI n + 2 = nI (n + 2) from (nI_A n 2).symm]
        refine Vw.istore (lv2 := [(0, _), (1, _), (2, _), (3, _), (4, _), (5, _), (6, _), (7, _)]) (de_istore (B 41 _ rfl) (B 42 _ rfl)) (by decide) [1, 2, 3, 4, 5, 6, 7, 0] rfl (n := 43) rfl ?_
        refine Vw.iconst (v := -1) (de_iconst_m1 (B 43 _ rfl)) rfl (n := 44) rfl ?_
        refine Vw.istore (lv2 := [(0, _), (1, _), (2, _), (3, _), (4, _), (5, _), (6, _), (7, _), (8, _)]) (de_istore (B 44 _ rfl) (B 45 _ rfl)) (by decide) [1, 2, 3, 4, 5, 6, 7, 8, 0] rfl (n := 46) rfl ?_
        have g := loopS hpar 0 (Nat.zero_le _) (n + 2) I L FG.rfl Lev.rfl (by omega) ⟨fun _ => Nat.le_refl _, fun _ => Nat.le_refl _⟩ (fun _ _ _ z => absurd z (Nat.lt_irrefl _))
        rw [if_pos (by omega)] at g
        exact g
      exact absurd rfl c_31
    refine Vw.iload_n (de_iload_2 (B 0 _ rfl)) 2 rfl (n := 1) rfl ?_
    refine Vw.iload_n (de_iload_3 (B 1 _ rfl)) 3 rfl (n := 2) rfl ?_
    refine Vw.icmp_gt (tgt := 11) (n := 5) (de_icmp_gt (B 2 _ rfl) (B 3 _ rfl) (B 4 _ rfl)) rfl rfl (fun c_2 => ?_) (fun c_2 => ?_)
    · exact absurd ((nI_leI (a := k + 1) (b := n) (by omega) (by omega)).mpr (by omega)) (Int32.not_le.mpr c_2)
    refine Vw.iload_n (de_iload_2 (B 5 _ rfl)) 2 rfl (n := 6) rfl ?_
    refine Vw.bipush (v := 8) (de_bipush (B 6 _ rfl) (B 7 _ rfl)) rfl (n := 8) rfl ?_
    refine Vw.icmp_le (tgt := 15) (n := 11) (de_icmp_le (B 8 _ rfl) (B 9 _ rfl) (B 10 _ rfl)) rfl rfl (fun c_8 => ?_) (fun c_8 => ?_)
    · refine Vw.iload_n (de_iload_2 (B 15 _ rfl)) 2 rfl (n := 16) rfl ?_
      refine Vw.iconst (v := 2) (de_iconst_2 (B 16 _ rfl)) rfl (n := 17) rfl ?_
      refine Vw.irem (de_irem (B 17 _ rfl)) (by decide) (n := 18) rfl ?_
      refine Vw.iconst (v := 1) (de_iconst_1 (B 18 _ rfl)) rfl (n := 19) rfl ?_
      rw [show (2 : Int32) = nI 2 from rfl, nI_rem (by omega) (by decide)]
      refine Vw.icmp_ne (tgt := 26) (n := 22) (de_icmp_ne (B 19 _ rfl) (B 20 _ rfl) (B 21 _ rfl)) rfl rfl (fun c_19 => ?_) (fun c_19 => ?_)
      · exact son (fun z => c_19 (by rw [show (k + 1) % 2 = 1 by omega]; rfl))
      exact mother (by have := nI_inj (a := (k + 1) % 2) (b := 1) (by omega) (by omega) c_19; omega)
    exact absurd ((nI_leI (a := k + 1) (b := 8) (by omega) (by omega)).mpr (by omega)) c_8
