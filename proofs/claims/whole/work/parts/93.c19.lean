/-! The game in the class: bounds -/
def AB (lo hi r v : Nat) : Prop := (lo < r → r ≤ v) ∧ (r < hi → v ≤ r)
theorem AB.mo {lo hi b B r f : Nat} (h : AB lo hi b B) (g : AB (if b ≤ lo then lo else b) hi r f) : AB lo hi (if r ≤ b then b else r) (if B ≤ f then f else B) := by
  obtain ⟨h1, h2⟩ := h
  obtain ⟨g1, g2⟩ := g
  unfold AB
  by_cases z1 : b ≤ lo
  · rw [if_pos z1] at g1
    by_cases z2 : r ≤ b
    · rw [if_pos z2]; split <;> omega
    · rw [if_neg z2]; split <;> omega
  · rw [if_neg z1] at g1
    by_cases z2 : r ≤ b
    · rw [if_pos z2]; split <;> omega
    · rw [if_neg z2]; split <;> omega
theorem AB.mi {lo hi b B r f : Nat} (h : AB lo hi b B) (g : AB lo (if hi ≤ b then hi else b) r f) : AB lo hi (if b ≤ r then b else r) (if f ≤ B then f else B) := by
  obtain ⟨h1, h2⟩ := h
  obtain ⟨g1, g2⟩ := g
  unfold AB
  by_cases z1 : hi ≤ b
  · rw [if_pos z1] at g2
    by_cases z2 : b ≤ r
    · rw [if_pos z2]; split <;> omega
    · rw [if_neg z2]; split <;> omega
  · rw [if_neg z1] at g2
    by_cases z2 : b ≤ r
    · rw [if_pos z2]; split <;> omega
    · rw [if_neg z2]; split <;> omega
def bM (f : Nat → Nat) : Nat → Nat
  | 0 => 0
  | j + 1 => if bM f j ≤ f j then f j else bM f j
def bS (n : Nat) (f : Nat → Nat) : Nat → Nat
  | 0 => n + 2
  | j + 1 => if f j ≤ bS n f j then f j else bS n f j
def fM (f : Nat → Nat) : Nat → Nat
  | 0 => 0
  | j + 1 => if bM f j < f j then j else fM f j
theorem bM_up {f : Nat → Nat} {j : Nat} : ∀ {t : Nat}, j ≤ t → bM f j ≤ bM f t
  | 0, h => by rw [show j = 0 by omega]; exact Nat.le_refl _
  | t + 1, h => by
    rcases Nat.lt_or_ge j (t + 1) with z | z
    · have := bM_up (f := f) (j := j) (t := t) (by omega)
      rw [bM]; split <;> omega
    · rw [show j = t + 1 by omega]; exact Nat.le_refl _
theorem bS_dn {n : Nat} {f : Nat → Nat} {j : Nat} : ∀ {t : Nat}, j ≤ t → bS n f t ≤ bS n f j
  | 0, h => by rw [show j = 0 by omega]; exact Nat.le_refl _
  | t + 1, h => by
    rcases Nat.lt_or_ge j (t + 1) with z | z
    · have := bS_dn (n := n) (f := f) (j := j) (t := t) (by omega)
      rw [bS]; split <;> omega
    · rw [show j = t + 1 by omega]; exact Nat.le_refl _
theorem bM_le {n : Nat} {f : Nat → Nat} (h : ∀ j, f j ≤ n + 1) : ∀ {j : Nat}, bM f j ≤ n + 1
  | 0 => Nat.zero_le _
  | j + 1 => by have := bM_le h (j := j); have := h j; rw [bM]; split <;> omega
theorem bS_le {n : Nat} {f : Nat → Nat} : ∀ {j : Nat}, bS n f j ≤ n + 2
  | 0 => Nat.le_refl _
  | j + 1 => by have := bS_le (n := n) (f := f) (j := j); rw [bS]; split <;> omega
theorem bS_1 {n : Nat} {f : Nat → Nat} (h : ∀ j, 1 ≤ f j) : ∀ {j : Nat}, 1 ≤ bS n f j
  | 0 => by rw [bS]; omega
  | j + 1 => by have := bS_1 (n := n) h (j := j); have := h j; rw [bS]; split <;> omega
theorem bS_s {n : Nat} {f : Nat → Nat} (h : f 0 ≤ n + 1) : bS n f 3 ≤ n + 1 := Nat.le_trans (bS_dn (j := 1) (by decide)) (by rw [bS, bS, if_pos (by omega)]; exact h)
theorem fM_end {n : Nat} {f : Nat → Nat} (h : ∀ j, f j ≤ n + 1) {j : Nat} (e : bM f j = n + 1) : ∀ {t : Nat}, j ≤ t → fM f t = fM f j
  | 0, g => by rw [show j = 0 by omega]
  | t + 1, g => by
    rcases Nat.lt_or_ge j (t + 1) with z | z
    · have := bM_up (f := f) (j := j) (t := t) (by omega)
      have := h t
      rw [fM, if_neg (by omega), fM_end h e (by omega)]
    · rw [show j = t + 1 by omega]
def plF (W : tW) (q now a b : Int32) (k : Nat) (g : tP → Nat) (P : tP) (j : Nat) : Nat := if fitP a b (stepP W q (now + nI k) (setF P (nI j - 1))) = 0 then k + 1 else g (stepP W q (now + nI k) (setF P (nI j - 1)))
def plN (W : tW) (q now a b : Int32) (n : Nat) : Nat → tP → Nat
  | 0, _ => n + 1
  | m + 1, P => if (n - (m + 1)) % 2 = 0 then bM (plF W q now a b (n - (m + 1)) (plN W q now a b n m) P) 3 else bS n (plF W q now a b (n - (m + 1)) (plN W q now a b n m) P) 3
theorem plN_b {W : tW} {q now a b : Int32} {n : Nat} : ∀ {m : Nat} {P : tP}, m ≤ n → 1 ≤ plN W q now a b n m P ∧ plN W q now a b n m P ≤ n + 1
  | 0, P, _ => by rw [plN]; omega
  | m + 1, P, hm => by
    have hf : ∀ j, 1 ≤ plF W q now a b (n - (m + 1)) (plN W q now a b n m) P j ∧ plF W q now a b (n - (m + 1)) (plN W q now a b n m) P j ≤ n + 1 := by
      intro j
      unfold plF
      split
      · omega
      · exact plN_b (by omega)
    rw [plN]
    split
    · exact ⟨by
        have h0 := bM_up (f := plF W q now a b (n - (m + 1)) (plN W q now a b n m) P) (j := 1) (t := 3) (by decide)
        have h1 := (hf 0).1
        rw [bM, bM, if_pos (Nat.zero_le _)] at h0
        omega, bM_le (fun j => (hf j).2)⟩
    · exact ⟨bS_1 (fun j => (hf j).1), bS_s (hf 0).2⟩
theorem AB.ex {n b B : Nat} (h : AB 0 (n + 1) b B) (hB : B ≤ n + 1) : b = B := by obtain ⟨h1, h2⟩ := h; omega
def FG (s k : Nat) (I I2 : vI) : Prop := ∀ b i, b ≠ s + 28 → b ≠ s + 29 → b ≠ s + 34 → ¬ (s + 35 ≤ b ∧ b ≤ s + 37 ∧ k < i) → ¬ (b = s + 33 ∧ i = 12 ∧ k = 0) → I2 b i = I b i
theorem FG.rfl {s k : Nat} {I : vI} : FG s k I I := fun _ _ _ _ _ _ _ => Eq.refl _
theorem FG.trans {s k : Nat} {I I2 I3 : vI} (h : FG s k I I2) (g : FG s k I2 I3) : FG s k I I3 := fun b i h1 h2 h3 h4 h5 => (g b i h1 h2 h3 h4 h5).trans (h b i h1 h2 h3 h4 h5)
theorem FG.up {s k : Nat} {I I2 : vI} (h : FG s (k + 1) I I2) : FG s k I I2 := fun b i h1 h2 h3 h4 h5 => h b i h1 h2 h3 (by omega) (by omega)
theorem FG.tr {s k np nc : Nat} {I J : vI} {K : Nat → Int32} (f : FG s k I J) (h : TR I (s + 1) K np nc) (h8 : np ≤ 8) (h10 : nc ≤ 10) : TR J (s + 1) K np nc := h.of (fun b g1 g2 => funext fun i => f b i (by omega) (by omega) (by omega) (by omega) (by omega)) h8 h10
theorem FG.wc {S : vS} {s k lb : Nat} {I J : vI} {W : tW} (f : FG s k I J) (h : WC S I s lb W) (hl : s + 66 ≤ lb) : WC S J s lb W := h.of (funext fun i => f s i (by omega) (by omega) (by omega) (by omega) (by omega)) (fun b hb => funext fun i => f b i (by omega) (by omega) (by omega) (by omega) (by omega))
theorem up2_id {I : vI} {a k b j : Nat} : up2 I a k (I a k) b j = I b j := by
  by_cases z : b = a
  · subst z
    by_cases y : j = k
    · subst y; rw [up2_s]
    · rw [up2_k y]
  · rw [up2_a z]
theorem zMaxN {b lo b2 : Nat} (h : b ≤ b2) (h1 : b2 < 100000) (h2 : lo < 100000) : zMax (nI b2) (nI (if b ≤ lo then lo else b)) = nI (if b2 ≤ lo then lo else b2) := by
  unfold zMax
  by_cases z : b ≤ lo
  · rw [if_pos z]
    by_cases y : b2 ≤ lo
    · rw [if_pos y, if_pos ((nI_leI (by omega) (by omega)).mpr y)]
    · rw [if_neg y, if_neg (fun x => y ((nI_leI (by omega) (by omega)).mp x))]
  · rw [if_neg z, if_neg (show ¬ b2 ≤ lo by omega)]
    by_cases y : b2 ≤ b
    · rw [if_pos ((nI_leI (by omega) (by omega)).mpr y), show b = b2 by omega]
    · rw [if_neg (fun x => y ((nI_leI (by omega) (by omega)).mp x))]
theorem zMinN {b hi b2 : Nat} (h : b2 ≤ b) (h1 : b < 100000) (h2 : hi < 100000) : zMin (nI b2) (nI (if hi ≤ b then hi else b)) = nI (if hi ≤ b2 then hi else b2) := by
  unfold zMin
  by_cases z : hi ≤ b
  · rw [if_pos z]
    by_cases y : hi ≤ b2
    · rw [if_pos y, if_pos ((nI_leI (by omega) (by omega)).mpr y)]
    · rw [if_neg y, if_neg (fun x => y ((nI_leI (by omega) (by omega)).mp x))]
  · rw [if_neg z, if_neg (show ¬ hi ≤ b2 by omega)]
    by_cases y : b ≤ b2
    · rw [if_pos ((nI_leI (by omega) (by omega)).mpr y), show b = b2 by omega]
    · rw [if_neg (fun x => y ((nI_leI (by omega) (by omega)).mp x))]
