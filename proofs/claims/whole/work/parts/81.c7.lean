/-! The ring of towns -/
abbrev tH : Type := (Nat → Int32) × Int32
def psh (l : List tH) (x : tH) : List tH := if l.length = 16 then l.tail ++ [x] else l ++ [x]
theorem psh_len {l : List tH} {x : tH} (h : l.length ≤ 16) : (psh l x).length = if l.length = 16 then 16 else l.length + 1 := by
  unfold psh
  split
  · rename_i g; simp [g]
  · simp
def HC (I : vI) (a : Nat) (l : List tH) (np : Nat) : Prop := l.length ≤ 16 ∧ I a 3 = nI l.length ∧ ∃ old, old < 16 ∧ I a 2 = nI old ∧ ∀ i k c, l[i]? = some (k, c) → ∃ nc, nc ≤ 10 ∧ k 112 = nI nc ∧ TR I (a + 3 + 23 * ((old + i) % 16)) k np nc ∧ I (a + 2) ((old + i) % 16) = c
theorem rem16 {n : Nat} (h : n < 100000) : nI n - nI n / 16 * 16 = nI (n % 16) := nI_rem (a := n) (b := 16) (by omega) (by decide)
theorem HC.of {I J : vI} {a np : Nat} {l : List tH} (h : HC I a l np) (h8 : np ≤ 8) (e : ∀ b, a ≤ b → b ≤ a + 370 → J b = I b) : HC J a l np := by
  obtain ⟨h1, h2, old, h3, h4, h5⟩ := h
  refine ⟨h1, by rw [e a (by omega) (by omega)]; exact h2, old, h3, by rw [e a (by omega) (by omega)]; exact h4, fun i k c hi => ?_⟩
  obtain ⟨nc, g1, g2, g3, g4⟩ := h5 i k c hi
  have m := Nat.mod_lt (old + i) (show 0 < 16 by decide)
  exact ⟨nc, g1, g2, g3.of (fun b z1 z2 => e b (by omega) (by omega)) h8 g1, by rw [e _ (by omega) (by omega)]; exact g4⟩
theorem c_X2_clear {d : Nat} {S : vS} {I : vI} {L : vL} {Q : vS → vI → vL → Prop} {a np : Nat} (hH : HistS S a) (hold : ∃ old, old < 16 ∧ I a 2 = nI old) (h : ∀ I2, Oa a I I2 → (∀ k, k ≠ 3 → I2 a k = I a k) → HC I2 a [] np → Q S I2 L) : Vc mX2_clear d 0 0 [.ref a] S I L (VvQ Q) := by
  refine Vc.of rfl (Nat.le_of_ble_eq_true rfl) ?_
  have B := bs_X2_clear
  show Vw mX2_clear d 0 0 0 0 (VvQ Q) 0 [(0, .ref a)] [] S I L
  refine Vw.aload_n (de_aload_0 (B 0 _ rfl)) 0 rfl (n := 1) rfl ?_
  refine Vw.iconst (v := 0) (de_iconst_0 (B 1 _ rfl)) rfl (n := 2) rfl ?_
  refine Vw.putI (de_putfield (B 2 _ rfl) (B 3 _ rfl) (B 4 _ rfl)) fl_X2_22 hH.k rfl rfl (n := 5) rfl ?_
  exact Vw.vret (de_return_ (B 5 _ rfl)) rfl ⟨rfl, (h _ Oa.rfl.up (fun k hk => up2_k hk) (by obtain ⟨old, h1, h2⟩ := hold; exact ⟨by decide, up2_s _ _ _ _, old, h1, by rw [up2_k (by decide)]; exact h2, fun i k c hi => by simp at hi⟩))⟩
theorem c_X2_push {d : Nat} {S : vS} {I : vI} {L : vL} {Q : vS → vI → vL → Prop} {a t np nc : Nat} {x : Int32} {K : Nat → Int32} {l : List tH} (hH : HistS S a) (hT : TownS S t) (hC : HC I a l np) (hK : TR I t K np nc) (h8 : np ≤ 8) (h10 : nc ≤ 10) (h112 : K 112 = nI nc) (hd : t + 22 < a ∨ a + 370 < t) (h : ∀ I2, (∀ b, ¬ (a ≤ b ∧ b ≤ a + 370) → I2 b = I b) → HC I2 a (psh l (K, x)) np → Q S I2 L) : Vc mX2_push (d + 3) 0 0 [.ref a, .int x, .ref t] S I L (VvQ Q) := by
  refine Vc.of rfl (Nat.le_of_ble_eq_true rfl) ?_
  have B := bs_X2_push
  show Vw mX2_push (d + 3) 0 0 0 0 (VvQ Q) 0 [(0, .ref a), (1, .int x), (2, .ref t)] [] S I L
  obtain ⟨l16, e3, old, ho, e2, hl⟩ := hC
  have fin : ∀ (o2 n2 : Nat) (J : vI), o2 < 16 → 1 ≤ n2 → n2 ≤ 16 → (∀ b, b ≠ a → J b = I b) → J a 2 = nI o2 → J a 3 = nI n2 → n2 = (psh l (K, x)).length → (∀ i, i + 1 < n2 → ∀ k c, (psh l (K, x))[i]? = some (k, c) → ∃ nc, nc ≤ 10 ∧ k 112 = nI nc ∧ TR I (a + 3 + 23 * ((o2 + i) % 16)) k np nc ∧ I (a + 2) ((o2 + i) % 16) = c) → (psh l (K, x))[n2 - 1]? = some (K, x) → Vw mX2_push (d + 3) 0 0 0 0 (VvQ Q) 35 [(0, .ref a), (1, .int x), (2, .ref t)] [] S J L := by
    intro o2 n2 J g1 g2 g3 fJ j2 j3 jl js jx
    have kT : TR J t K np nc := hK.of (fun b z1 z2 => fJ b (by omega)) h8 h10
    have hm := Nat.mod_lt (o2 + (n2 - 1)) (show 0 < 16 by decide)
    refine Vw.aload_n (de_aload_0 (B 35 _ rfl)) 0 rfl (n := 36) rfl ?_
    refine Vw.getI (de_getfield (B 36 _ rfl) (B 37 _ rfl) (B 38 _ rfl)) fl_X2_26 rfl hH.k (n := 39) rfl ?_
    rw [j2]
    refine Vw.aload_n (de_aload_0 (B 39 _ rfl)) 0 rfl (n := 40) rfl ?_
    refine Vw.getI (de_getfield (B 40 _ rfl) (B 41 _ rfl) (B 42 _ rfl)) fl_X2_22 rfl hH.k (n := 43) rfl ?_
    rw [j3]
    refine Vw.iadd (de_iadd (B 43 _ rfl)) (n := 44) rfl ?_
    refine Vw.iconst (v := 1) (de_iconst_1 (B 44 _ rfl)) rfl (n := 45) rfl ?_
    refine Vw.isub (de_isub (B 45 _ rfl)) (n := 46) rfl ?_
    rw [show nI o2 + nI n2 - 1 = nI (o2 + (n2 - 1)) from by rw [← nI_A, show o2 + n2 = o2 + (n2 - 1) + 1 by omega, dn_p]]
    refine Vw.bipush (v := 16) (de_bipush (B 46 _ rfl) (B 47 _ rfl)) rfl (n := 48) rfl ?_
    refine Vw.irem (de_irem (B 48 _ rfl)) (by decide) (n := 49) rfl ?_
    rw [rem16 (by omega)]
    refine Vw.istore_n (lv2 := [(0, _), (1, _), (2, _), (3, _)]) (de_istore_3 (B 49 _ rfl)) rfl (by decide) [1, 2, 3, 0] rfl (n := 50) rfl ?_
    refine Vw.aload_n (de_aload_0 (B 50 _ rfl)) 0 rfl (n := 51) rfl ?_
    refine Vw.getR (de_getfield (B 51 _ rfl) (B 52 _ rfl) (B 53 _ rfl)) fl_X2_11 rfl hH.k hH.f0 (n := 54) rfl ?_
    refine Vw.iload_n (de_iload_3 (B 54 _ rfl)) 3 rfl (n := 55) rfl ?_
    refine Vw.aald9 (b := 0) (de_aaload (B 55 _ rfl)) hH.r0 (vIx_n (k := ((o2 + (n2 - 1)) % 16)) rfl (by omega)) (hH.tr (show ((o2 + (n2 - 1)) % 16) < 16 by omega)) (n := 56) rfl ?_
    refine Vw.aload_n (de_aload_2 (B 56 _ rfl)) 2 rfl (n := 57) rfl ?_
    refine Vw.ivv1 (mi' := mX9_copyFrom) (de_invokevirtual (B 57 _ rfl) (B 58 _ rfl) (B 59 _ rfl)) ml_X2_29 mv_X9_copyFrom (hH.tt ((o2 + (n2 - 1)) % 16) (show ((o2 + (n2 - 1)) % 16) < 16 by omega)).2.k (Nat.le_of_ble_eq_true rfl) (n := 60) rfl (c_X9_copyFrom (hH.tt ((o2 + (n2 - 1)) % 16) hm).2 hT kT h8 h10 (by omega) (fun I3 f3 k3 => ?_))
    refine Vw.aload_n (de_aload_0 (B 60 _ rfl)) 0 rfl (n := 61) rfl ?_
    refine Vw.getR (de_getfield (B 61 _ rfl) (B 62 _ rfl) (B 63 _ rfl)) fl_X2_17 rfl hH.k hH.f1 (n := 64) rfl ?_
    refine Vw.iload_n (de_iload_3 (B 64 _ rfl)) 3 rfl (n := 65) rfl ?_
    refine Vw.iload_n (de_iload_1 (B 65 _ rfl)) 1 rfl (n := 66) rfl ?_
    refine Vw.iast (de_iastore (B 66 _ rfl)) hH.r1 (vIx_n (k := ((o2 + (n2 - 1)) % 16)) rfl (by omega)) (n := 67) rfl ?_
    exact Vw.vret (de_return_ (B 67 _ rfl)) rfl ⟨rfl, (h _ (fun b hb => by rw [up2_row (by omega), f3 b (by omega)]; exact fJ b (by omega)) ⟨by omega, by rw [up2_a (by omega), f3 a (by omega), j3, jl], o2, g1, by rw [up2_a (by omega), f3 a (by omega)]; exact j2, fun i k c hi => by
    by_cases z : i + 1 < n2
    · obtain ⟨nc2, y1, y2, y3, y4⟩ := js i z k c hi
      have q1 := Nat.mod_lt (o2 + i) (show 0 < 16 by decide)
      refine ⟨nc2, y1, y2, y3.of (fun b z1 z2 => by rw [up2_row (by omega), f3 b (by omega)]; exact fJ b (by omega)) h8 y1, ?_⟩
      rw [up2_k (by omega), f3 _ (by omega), fJ _ (by omega)]; exact y4
    · have hin : i < (psh l (K, x)).length := by
        rcases Nat.lt_or_ge i (psh l (K, x)).length with y | y
        · exact y
        · rw [List.getElem?_eq_none y] at hi; cases hi
      obtain rfl : i = n2 - 1 := by omega
      rw [jx] at hi
      cases hi
      exact ⟨nc, h10, h112, k3.of (fun b z1 z2 => by rw [up2_row (by omega)]) h8 h10, up2_s _ _ _ _⟩⟩)⟩
  have hpl := psh_len (x := (K, x)) l16
  refine Vw.aload_n (de_aload_0 (B 0 _ rfl)) 0 rfl (n := 1) rfl ?_
  refine Vw.getI (de_getfield (B 1 _ rfl) (B 2 _ rfl) (B 3 _ rfl)) fl_X2_22 rfl hH.k (n := 4) rfl ?_
  rw [e3]
  refine Vw.bipush (v := 16) (de_bipush (B 4 _ rfl) (B 5 _ rfl)) rfl (n := 6) rfl ?_
  refine Vw.icmp_ne (tgt := 25) (n := 9) (de_icmp_ne (B 6 _ rfl) (B 7 _ rfl) (B 8 _ rfl)) rfl rfl (fun c_6 => ?_) (fun c_6 => ?_)
  · have hf : ¬ l.length = 16 := fun z => c_6 (by rw [z]; rfl)
    rw [if_neg hf] at hpl
    refine Vw.aload_n (de_aload_0 (B 25 _ rfl)) 0 rfl (n := 26) rfl ?_
    refine Vw.dup (de_dup (B 26 _ rfl)) rfl (n := 27) rfl ?_
    refine Vw.getI (de_getfield (B 27 _ rfl) (B 28 _ rfl) (B 29 _ rfl)) fl_X2_22 rfl hH.k (n := 30) rfl ?_
    rw [e3]
    refine Vw.iconst (v := 1) (de_iconst_1 (B 30 _ rfl)) rfl (n := 31) rfl ?_
    refine Vw.iadd (de_iadd (B 31 _ rfl)) (n := 32) rfl ?_
    rw [nI_1]
    refine Vw.putI (de_putfield (B 32 _ rfl) (B 33 _ rfl) (B 34 _ rfl)) fl_X2_22 hH.k rfl rfl (n := 35) rfl ?_
    first
    | (refine fin ((old + 1) % 16) 16 _ (Nat.mod_lt _ (by decide)) (by decide) (by decide) (fun b hb => up2_row hb) (up2_s _ _ _ _) (by rw [up2_k (by decide), e3, hf]) hpl.symm (fun i hi k c hk => ?_) ?_
       · unfold psh at hk
         rw [if_pos hf, List.getElem?_append_left (by simp; omega), List.getElem?_tail] at hk
         have z := hl (i + 1) k c hk
         rw [show ((old + 1) % 16 + i) % 16 = (old + (i + 1)) % 16 by omega]
         exact z
       · unfold psh
         rw [if_pos hf, List.getElem?_append_right (by simp; omega)]
         simp [hf])
    | (refine fin old (l.length + 1) _ ho (by omega) (by omega) (fun b hb => up2_row hb) (by rw [up2_k (by decide)]; exact e2) (up2_s _ _ _ _) hpl.symm (fun i hi k c hk => ?_) ?_
       · unfold psh at hk
         rw [if_neg hf, List.getElem?_append_left (by omega)] at hk
         exact hl i k c hk
       · unfold psh
         rw [if_neg hf]
         simp)
  have hf : l.length = 16 := nI_inj (by omega) (by decide) c_6
  rw [if_pos hf] at hpl
  refine Vw.aload_n (de_aload_0 (B 9 _ rfl)) 0 rfl (n := 10) rfl ?_
  refine Vw.aload_n (de_aload_0 (B 10 _ rfl)) 0 rfl (n := 11) rfl ?_
  refine Vw.getI (de_getfield (B 11 _ rfl) (B 12 _ rfl) (B 13 _ rfl)) fl_X2_26 rfl hH.k (n := 14) rfl ?_
  rw [e2]
  refine Vw.iconst (v := 1) (de_iconst_1 (B 14 _ rfl)) rfl (n := 15) rfl ?_
  refine Vw.iadd (de_iadd (B 15 _ rfl)) (n := 16) rfl ?_
  refine Vw.bipush (v := 16) (de_bipush (B 16 _ rfl) (B 17 _ rfl)) rfl (n := 18) rfl ?_
  refine Vw.irem (de_irem (B 18 _ rfl)) (by decide) (n := 19) rfl ?_
  rw [nI_1, rem16 (by omega)]
  refine Vw.putI (de_putfield (B 19 _ rfl) (B 20 _ rfl) (B 21 _ rfl)) fl_X2_26 hH.k rfl rfl (n := 22) rfl ?_
  refine Vw.goto_ (n := 35) (de_goto_ (B 22 _ rfl) (B 23 _ rfl) (B 24 _ rfl)) rfl ?_
  first
  | (refine fin ((old + 1) % 16) 16 _ (Nat.mod_lt _ (by decide)) (by decide) (by decide) (fun b hb => up2_row hb) (up2_s _ _ _ _) (by rw [up2_k (by decide), e3, hf]) hpl.symm (fun i hi k c hk => ?_) ?_
     · unfold psh at hk
       rw [if_pos hf, List.getElem?_append_left (by simp; omega), List.getElem?_tail] at hk
       have z := hl (i + 1) k c hk
       rw [show ((old + 1) % 16 + i) % 16 = (old + (i + 1)) % 16 by omega]
       exact z
     · unfold psh
       rw [if_pos hf, List.getElem?_append_right (by simp; omega)]
       simp [hf])
  | (refine fin old (l.length + 1) _ ho (by omega) (by omega) (fun b hb => up2_row hb) (by rw [up2_k (by decide)]; exact e2) (up2_s _ _ _ _) hpl.symm (fun i hi k c hk => ?_) ?_
     · unfold psh at hk
       rw [if_neg hf, List.getElem?_append_left (by omega)] at hk
       exact hl i k c hk
     · unfold psh
       rw [if_neg hf]
       simp)
theorem c_X2_pop {d : Nat} {S : vS} {I : vI} {L : vL} {Q : Int32 → vS → vI → vL → Prop} {a t np : Nat} {k : Nat → Int32} {c : Int32} {l : List tH} (hH : HistS S a) (hT : TownS S t) (hC : HC I a (l ++ [(k, c)]) np) (h8 : np ≤ 8) (hd : t + 22 < a ∨ a + 370 < t) (h : ∀ I2 nc, nc ≤ 10 → k 112 = nI nc → (∀ b, ¬ (t ≤ b ∧ b ≤ t + 22) → b ≠ a → I2 b = I b) → HC I2 a l np → TR I2 t k np nc → Q c S I2 L) : Vc mX2_pop (d + 3) 0 0 [.ref a, .ref t] S I L (ViQ Q) := by
  refine Vc.of rfl (Nat.le_of_ble_eq_true rfl) ?_
  have B := bs_X2_pop
  show Vw mX2_pop (d + 3) 0 0 0 0 (ViQ Q) 0 [(0, .ref a), (1, .ref t)] [] S I L
  obtain ⟨l16, e3, old, ho, e2, hl⟩ := hC
  rw [List.length_append, List.length_singleton] at l16 e3
  have hm := Nat.mod_lt (old + l.length) (show 0 < 16 by decide)
  obtain ⟨nc, y1, y2, y3, y4⟩ := hl l.length k c (by simp)
  refine Vw.aload_n (de_aload_0 (B 0 _ rfl)) 0 rfl (n := 1) rfl ?_
  refine Vw.getI (de_getfield (B 1 _ rfl) (B 2 _ rfl) (B 3 _ rfl)) fl_X2_22 rfl hH.k (n := 4) rfl ?_
  rw [e3]
  refine Vw.if_ne (tgt := 9) (n := 7) (de_if_ne (B 4 _ rfl) (B 5 _ rfl) (B 6 _ rfl)) rfl rfl (fun c_4 => ?_) (fun c_4 => ?_)
  · refine Vw.aload_n (de_aload_0 (B 9 _ rfl)) 0 rfl (n := 10) rfl ?_
    refine Vw.getI (de_getfield (B 10 _ rfl) (B 11 _ rfl) (B 12 _ rfl)) fl_X2_26 rfl hH.k (n := 13) rfl ?_
    rw [e2]
    refine Vw.aload_n (de_aload_0 (B 13 _ rfl)) 0 rfl (n := 14) rfl ?_
    refine Vw.getI (de_getfield (B 14 _ rfl) (B 15 _ rfl) (B 16 _ rfl)) fl_X2_22 rfl hH.k (n := 17) rfl ?_
    rw [e3]
    refine Vw.iadd (de_iadd (B 17 _ rfl)) (n := 18) rfl ?_
    refine Vw.iconst (v := 1) (de_iconst_1 (B 18 _ rfl)) rfl (n := 19) rfl ?_
    refine Vw.isub (de_isub (B 19 _ rfl)) (n := 20) rfl ?_
    rw [show nI old + nI (l.length + 1) - 1 = nI (old + l.length) from by rw [← nI_A, show old + (l.length + 1) = old + l.length + 1 by omega, dn_p]]
    refine Vw.bipush (v := 16) (de_bipush (B 20 _ rfl) (B 21 _ rfl)) rfl (n := 22) rfl ?_
    refine Vw.irem (de_irem (B 22 _ rfl)) (by decide) (n := 23) rfl ?_
    rw [rem16 (by omega)]
    refine Vw.istore_n (lv2 := [(0, _), (1, _), (2, _)]) (de_istore_2 (B 23 _ rfl)) rfl (by decide) [1, 2, 0] rfl (n := 24) rfl ?_
    refine Vw.aload_n (de_aload_1 (B 24 _ rfl)) 1 rfl (n := 25) rfl ?_
    refine Vw.aload_n (de_aload_0 (B 25 _ rfl)) 0 rfl (n := 26) rfl ?_
    refine Vw.getR (de_getfield (B 26 _ rfl) (B 27 _ rfl) (B 28 _ rfl)) fl_X2_11 rfl hH.k hH.f0 (n := 29) rfl ?_
    refine Vw.iload_n (de_iload_2 (B 29 _ rfl)) 2 rfl (n := 30) rfl ?_
    refine Vw.aald9 (b := 0) (de_aaload (B 30 _ rfl)) hH.r0 (vIx_n (k := ((old + l.length) % 16)) rfl (by omega)) (hH.tr (show ((old + l.length) % 16) < 16 by omega)) (n := 31) rfl ?_
    refine Vw.ivv1 (mi' := mX9_copyFrom) (de_invokevirtual (B 31 _ rfl) (B 32 _ rfl) (B 33 _ rfl)) ml_X2_29 mv_X9_copyFrom hT.k (Nat.le_of_ble_eq_true rfl) (n := 34) rfl (c_X9_copyFrom hT (hH.tt ((old + l.length) % 16) hm).2 y3 h8 y1 (by omega) (fun I3 f3 k3 => ?_))
    refine Vw.aload_n (de_aload_0 (B 34 _ rfl)) 0 rfl (n := 35) rfl ?_
    refine Vw.dup (de_dup (B 35 _ rfl)) rfl (n := 36) rfl ?_
    refine Vw.getI (de_getfield (B 36 _ rfl) (B 37 _ rfl) (B 38 _ rfl)) fl_X2_22 rfl hH.k (n := 39) rfl ?_
    rw [f3 a (by omega), e3]
    refine Vw.iconst (v := 1) (de_iconst_1 (B 39 _ rfl)) rfl (n := 40) rfl ?_
    refine Vw.isub (de_isub (B 40 _ rfl)) (n := 41) rfl ?_
    rw [dn_p]
    refine Vw.putI (de_putfield (B 41 _ rfl) (B 42 _ rfl) (B 43 _ rfl)) fl_X2_22 hH.k rfl rfl (n := 44) rfl ?_
    refine Vw.aload_n (de_aload_0 (B 44 _ rfl)) 0 rfl (n := 45) rfl ?_
    refine Vw.getR (de_getfield (B 45 _ rfl) (B 46 _ rfl) (B 47 _ rfl)) fl_X2_17 rfl hH.k hH.f1 (n := 48) rfl ?_
    refine Vw.iload_n (de_iload_2 (B 48 _ rfl)) 2 rfl (n := 49) rfl ?_
    refine Vw.iald (de_iaload (B 49 _ rfl)) hH.r1 (vIx_n (k := ((old + l.length) % 16)) rfl (by omega)) (n := 50) rfl ?_
    rw [up2_a (show a + 2 ≠ a by omega), f3 (a + 2) (by omega), y4]
    exact Vw.iret (de_ireturn (B 50 _ rfl)) rfl ⟨_, rfl, (h _ nc y1 y2 (fun b hb hb2 => by rw [up2_row hb2]; exact f3 b hb) ⟨by omega, up2_s _ _ _ _, old, ho, by rw [up2_k (by decide), f3 a (by omega)]; exact e2, fun i k2 c2 hi => by
    have hil : i < l.length := by
      rcases Nat.lt_or_ge i l.length with z | z
      · exact z
      · rw [List.getElem?_eq_none z] at hi; cases hi
    obtain ⟨n2, x1, x2, x3, x4⟩ := hl i k2 c2 (by rw [List.getElem?_append_left hil]; exact hi)
    have q1 := Nat.mod_lt (old + i) (show 0 < 16 by decide)
    exact ⟨n2, x1, x2, x3.of (fun b z1 z2 => by rw [up2_row (by omega)]; exact f3 b (by omega)) h8 x1, by rw [up2_a (by omega), f3 _ (by omega)]; exact x4⟩⟩ (k3.of (fun b z1 z2 => by rw [up2_row (by omega)]) h8 y1))⟩
  exact absurd (nI_inj (a := l.length + 1) (b := 0) (by omega) (by decide) c_4) (Nat.succ_ne_zero _)
theorem c_X2_append {d : Nat} {S : vS} {I : vI} {L : vL} {Q : vS → vI → vL → Prop} {a e np : Nat} {l g : List tH} (hH : HistS S a) (hE : HistS S e) (hC : HC I a l np) (hG : HC I e g np) (h8 : np ≤ 8) (hd : e + 370 < a ∨ a + 370 < e) (h : ∀ I2, (∀ b, ¬ (a ≤ b ∧ b ≤ a + 370) → I2 b = I b) → HC I2 a (g.foldl psh l) np → Q S I2 L) : Vc mX2_append (d + 4) 0 0 [.ref a, .ref e] S I L (VvQ Q) := by
  refine Vc.of rfl (Nat.le_of_ble_eq_true rfl) ?_
  have B := bs_X2_append
  show Vw mX2_append (d + 4) 0 0 0 0 (VvQ Q) 0 [(0, .ref a), (1, .ref e)] [] S I L
  have hG0 := hG
  obtain ⟨g16, e3, old, ho, e2, hl⟩ := hG
  have loop : ∀ i, i ≤ g.length → ∀ J, (∀ b, ¬ (a ≤ b ∧ b ≤ a + 370) → J b = I b) → HC J a ((g.take i).foldl psh l) np → Vw mX2_append (d + 4) 0 0 0 0 (VvQ Q) 2 [(0, .ref a), (1, .ref e), (2, .int (nI i))] [] S J L := by
    refine loop_up (fun i hi ih => ?_)
    intro J fJ cJ
    have hm := Nat.mod_lt (old + i) (show 0 < 16 by decide)
    refine Vw.iload_n (de_iload_2 (B 2 _ rfl)) 2 rfl (n := 3) rfl ?_
    refine Vw.aload_n (de_aload_1 (B 3 _ rfl)) 1 rfl (n := 4) rfl ?_
    refine Vw.getI (de_getfield (B 4 _ rfl) (B 5 _ rfl) (B 6 _ rfl)) fl_X2_22 rfl hE.k (n := 7) rfl ?_
    rw [fJ e (by omega), e3]
    refine Vw.icmp_ge (tgt := 42) (n := 10) (de_icmp_ge (B 7 _ rfl) (B 8 _ rfl) (B 9 _ rfl)) rfl rfl (fun c_7 => ?_) (fun c_7 => ?_)
    · have z_7 : g.length ≤ i := ((nI_leI (a := g.length) (b := i) (by omega) (by omega)).mp c_7)
      rw [List.take_of_length_le z_7] at cJ
      exact Vw.vret (de_return_ (B 42 _ rfl)) rfl ⟨rfl, (h J fJ cJ)⟩
    have z_7 : i < g.length := by rcases Nat.lt_or_ge i g.length with z | z; exact z; exact absurd ((nI_leI (a := g.length) (b := i) (by omega) (by omega)).mpr z) c_7
    obtain ⟨⟨k, c⟩, ec⟩ : ∃ x, g[i]? = some x := ⟨g[i], List.getElem?_eq_getElem z_7⟩
    obtain ⟨nc, y1, y2, y3, y4⟩ := hl i k c ec
    refine Vw.aload_n (de_aload_1 (B 10 _ rfl)) 1 rfl (n := 11) rfl ?_
    refine Vw.getI (de_getfield (B 11 _ rfl) (B 12 _ rfl) (B 13 _ rfl)) fl_X2_26 rfl hE.k (n := 14) rfl ?_
    rw [fJ e (by omega), e2]
    refine Vw.iload_n (de_iload_2 (B 14 _ rfl)) 2 rfl (n := 15) rfl ?_
    refine Vw.iadd (de_iadd (B 15 _ rfl)) (n := 16) rfl ?_
    rw [← nI_A]
    refine Vw.bipush (v := 16) (de_bipush (B 16 _ rfl) (B 17 _ rfl)) rfl (n := 18) rfl ?_
    refine Vw.irem (de_irem (B 18 _ rfl)) (by decide) (n := 19) rfl ?_
    rw [rem16 (by omega)]
    refine Vw.istore_n (lv2 := [(0, _), (1, _), (2, _), (3, _)]) (de_istore_3 (B 19 _ rfl)) rfl (by decide) [1, 2, 3, 0] rfl (n := 20) rfl ?_
    refine Vw.aload_n (de_aload_0 (B 20 _ rfl)) 0 rfl (n := 21) rfl ?_
    refine Vw.aload_n (de_aload_1 (B 21 _ rfl)) 1 rfl (n := 22) rfl ?_
    refine Vw.getR (de_getfield (B 22 _ rfl) (B 23 _ rfl) (B 24 _ rfl)) fl_X2_17 rfl hE.k hE.f1 (n := 25) rfl ?_
    refine Vw.iload_n (de_iload_3 (B 25 _ rfl)) 3 rfl (n := 26) rfl ?_
    refine Vw.iald (de_iaload (B 26 _ rfl)) hE.r1 (vIx_n (k := ((old + i) % 16)) rfl (by omega)) (n := 27) rfl ?_
    rw [fJ (e + 2) (by omega), y4]
    refine Vw.aload_n (de_aload_1 (B 27 _ rfl)) 1 rfl (n := 28) rfl ?_
    refine Vw.getR (de_getfield (B 28 _ rfl) (B 29 _ rfl) (B 30 _ rfl)) fl_X2_11 rfl hE.k hE.f0 (n := 31) rfl ?_
    refine Vw.iload_n (de_iload_3 (B 31 _ rfl)) 3 rfl (n := 32) rfl ?_
    refine Vw.aald9 (b := 0) (de_aaload (B 32 _ rfl)) hE.r0 (vIx_n (k := ((old + i) % 16)) rfl (by omega)) (hE.tr (show ((old + i) % 16) < 16 by omega)) (n := 33) rfl ?_
    refine Vw.ivv2 (mi' := mX2_push) (de_invokevirtual (B 33 _ rfl) (B 34 _ rfl) (B 35 _ rfl)) ml_X2_33 mv_X2_push hH.k (Nat.le_of_ble_eq_true rfl) (n := 36) rfl (c_X2_push hH (hE.tt ((old + i) % 16) hm).2 cJ (y3.of (fun b z1 z2 => fJ b (by omega)) h8 y1) h8 y1 y2 (by omega) (fun I3 f3 c3 => ?_))
    refine Vw.iinc (v := nI (i + 1)) (lv2 := [(0, _), (1, _), (2, _), (3, _)]) (de_iinc (B 36 _ rfl) (B 37 _ rfl) (B 38 _ rfl)) 2 rfl (nI_1 i) (by decide) [1, 2, 0, 3] rfl (n := 39) rfl ?_
    refine Vw.goto_ (n := 2) (de_goto_ (B 39 _ rfl) (B 40 _ rfl) (B 41 _ rfl)) rfl ?_
    refine Vw.lvs (lv2 := [(0, _), (1, _), (2, _)]) [0, 1, 2] rfl ?_
    exact ih z_7 I3 (fun b hb => (f3 b hb).trans (fJ b hb)) (by rw [List.take_succ, ec, List.foldl_append]; exact c3)
  refine Vw.iconst (v := 0) (de_iconst_0 (B 0 _ rfl)) rfl (n := 1) rfl ?_
  refine Vw.istore_n (lv2 := [(0, _), (1, _), (2, _)]) (de_istore_2 (B 1 _ rfl)) rfl (by decide) [1, 2, 0] rfl (n := 2) rfl ?_
  exact loop 0 (Nat.zero_le _) I (fun _ _ => rfl) hC
