/-! The class and the reference: what is alike -/
/-- bounds of what can be undone -/
def CB1 (K : Nat → Int32) (c : Nat) : Prop := ∃ a b h u : Nat, K (32 + 8 * c) = nI a ∧ K (32 + 8 * c + 1) = nI b ∧ K (32 + 8 * c + 5) = nI h ∧ K (32 + 8 * c + 6) = nI u ∧ a + 2 * h ≤ 1000 ∧ b + u ≤ 1000
def KB (K : Nat → Int32) (np nc : Nat) : Prop := (∀ q, q < np → PBt (perP K q)) ∧ (∀ t, t < 4 → ∃ cl, cl ≤ 999 ∧ K (113 + 2 * t) = nI cl) ∧ (∀ c, c < nc → CB1 K c) ∧ NB K
/-- the laws that were told -/
def LwR (S : vS) (I : vI) (s lb : Nat) (K : Nat → Int32) (nl : Nat) : Prop := nl ≤ 6 ∧ I s 2 = nI nl ∧ K 144 = nI nl ∧ ∀ t, t < nl → ∃ a cs m, lb ≤ a ∧ S.2.1 (s + 24) t = some a ∧ ScS S a cs.length m ∧ ScR I a cs vbL 8 m 5 tD1 ∧ (∀ c ∈ cs, c.1 = 1 ∨ c.1 = 2 ∨ c.1 = 3 ∨ c.1 = 4 ∨ c.1 = 5) ∧ LawOK (fun _ => K) 0 t cs
/-- a state of the class at s shows K -/
def STR (S : vS) (I : vI) (s lb : Nat) (K : Nat → Int32) (np nc ns nl : Nat) : Prop :=
  TR I (s + 1) K np nc ∧ TN K np nc ∧ KB K np nc ∧ SR I s K ns ∧ K 143 = nI ns ∧ SB K ns ∧ LwR S I s lb K nl ∧ I s 3 = K 145 ∧ (K 145 = -1 ∨ ∃ t, t < nl ∧ K 145 = nI t) ∧ I s 4 = K 140 ∧ I s 5 = K 141 ∧ ∃ f, f ≤ 10 ∧ K 140 = nI f
section STRS
variable {S : vS} {I J : vI} {s lb np nc ns nl : Nat} {K G : Nat → Int32}
theorem STR.tr (h : STR S I s lb K np nc ns nl) : TR I (s + 1) K np nc := h.1
theorem STR.tn (h : STR S I s lb K np nc ns nl) : TN K np nc := h.2.1
theorem STR.kb (h : STR S I s lb K np nc ns nl) : KB K np nc := h.2.2.1
theorem STR.sr (h : STR S I s lb K np nc ns nl) : SR I s K ns := h.2.2.2.1
theorem STR.n143 (h : STR S I s lb K np nc ns nl) : K 143 = nI ns := h.2.2.2.2.1
theorem STR.sb (h : STR S I s lb K np nc ns nl) : SB K ns := h.2.2.2.2.2.1
theorem STR.lw (h : STR S I s lb K np nc ns nl) : LwR S I s lb K nl := h.2.2.2.2.2.2.1
theorem STR.fo (h : STR S I s lb K np nc ns nl) : I s 3 = K 145 := h.2.2.2.2.2.2.2.1
theorem STR.fr (h : STR S I s lb K np nc ns nl) : K 145 = -1 ∨ ∃ t, t < nl ∧ K 145 = nI t := h.2.2.2.2.2.2.2.2.1
theorem STR.fe (h : STR S I s lb K np nc ns nl) : I s 4 = K 140 := h.2.2.2.2.2.2.2.2.2.1
theorem STR.mo (h : STR S I s lb K np nc ns nl) : I s 5 = K 141 := h.2.2.2.2.2.2.2.2.2.2.1
theorem STR.f10 (h : STR S I s lb K np nc ns nl) : ∃ f, f ≤ 10 ∧ K 140 = nI f := h.2.2.2.2.2.2.2.2.2.2.2
/-- one law in force for both -/
theorem STR.w (h : STR S I s lb K np nc ns nl) : ∃ W, WC S I s lb W ∧ WD K W := by
  have hN := h.tn
  obtain ⟨l1, l2, l3, l4⟩ := h.lw
  rcases h.fr with f | ⟨t, t1, t2⟩
  · exact ⟨(none, K 141), ⟨h.mo, Or.inl ⟨h.fo.trans f, rfl⟩⟩, ⟨⟨np, hN.1, hN.2.2.1⟩, Or.inl ⟨f, rfl⟩⟩, rfl⟩
  · obtain ⟨a, cs, m, a1, a2, a3, a4, a5, a6⟩ := l4 t t1
    exact ⟨(some cs, K 141), ⟨h.mo, Or.inr ⟨t, nl, a, cs, m, a1, h.fo.trans t2, t1, l1, l2, a2, a3, a4, a5, rfl⟩⟩, ⟨⟨np, hN.1, hN.2.2.1⟩, Or.inr ⟨t, cs, by omega, t2, a6, rfl⟩⟩, rfl⟩
theorem LwR.of (h : LwR S I s lb K nl) (e0 : J s = I s) (e1 : ∀ b, lb ≤ b → J b = I b) : LwR S J s lb K nl := by
  obtain ⟨l1, l2, l3, l4⟩ := h
  refine ⟨l1, by rw [e0]; exact l2, l3, fun t ht => ?_⟩
  obtain ⟨a, cs, m, a1, a2, a3, a4, a5, a6⟩ := l4 t ht
  exact ⟨a, cs, m, a1, a2, a3, a4.of (fun k _ => e1 _ (by omega)), a5, a6⟩
theorem STR.of (h : STR S I s lb K np nc ns nl) (e0 : ∀ b, s ≤ b → b ≤ s + 27 → J b = I b) (e1 : ∀ b, lb ≤ b → J b = I b) : STR S J s lb K np nc ns nl := by
  have hs := e0 s (Nat.le_refl _) (by omega)
  exact ⟨h.tr.of (fun b g1 g2 => e0 b (by omega) (by omega)) h.tn.1 h.tn.2.1, h.tn, h.kb, h.sr.of hs (fun b g1 g2 => e0 b (by omega) (by omega)), h.n143, h.sb, h.lw.of hs e1, by rw [hs]; exact h.fo, h.fr, by rw [hs]; exact h.fe, by rw [hs]; exact h.mo, h.f10⟩
end STRS
def CP (S : vS) (I : vI) (x lb : Nat) (K : Nat → Int32) (l : List tH) (u z rf im hk yw yg : Nat → Int32) (np nc ns nl : Nat) : Prop :=
  STR S I (x + 1) lb K np nc ns nl ∧ HC I (x + 89) l np ∧ (∃ old, old < 16 ∧ I (x + 460) 2 = nI old) ∧ (∃ n, n ≤ 400 ∧ z 11 = nI n ∧ I x 12 = nI n) ∧ (∀ j, j < 400 → I (x + 856) j = u j &&& 255 ∧ bt (u j)) ∧ I x 13 = z 6 ∧ I x 14 = z 12 ∧ I x 15 = z 43 ∧ I x 16 = z 0 ∧ (∀ j, j < 7 → I (x + 857) j = rf j) ∧
  (∀ k, k < 2 → I (x + 855) k = hk k ∧ (¬ hk k = 0 → ∃ np nc ns nl, STR S I (x + 858 + 28 * k) lb (fun j => im (5753 * k + j)) np nc ns nl)) ∧ I (x + 34) 11 = z 56 ∧ ∃ nd, nd ≤ 8 ∧ z 54 = nI nd ∧ (¬ z 56 = 0 → I (x + 43) 4 = nI nd ∧ (∀ q, q < nd → I (x + 43 + 5 + q) 2 = yw q) ∧ ∀ t, t < 4 → I (x + 43 + 4) t = yg t)
def LfR (F : Nat → Int32) (l : List tH) (np : Nat) : Prop := ∀ i k c, l[i]? = some (k, c) → (∀ j, j < 122 → F (123 * i + j) = k j) ∧ F (123 * i + 122) = c ∧ ∃ nc, nc ≤ 10 ∧ k 112 = nI nc ∧ (∀ c, c < nc → CoatOK k np c) ∧ KB k np nc
/-- a row of laws holds none or scripts -/
def LWS (S : vS) (lb s : Nat) : Prop := ∀ t, t < 6 → S.2.1 (s + 24) t = none ∨ ∃ a, lb ≤ a ∧ a + 8 ≤ S.2.2 ∧ S.2.1 (s + 24) t = some a ∧ (S.1 a).1 = 7
def SPx (S : vS) (x r lb : Nat) : Prop := ClsS S x ∧ MS S r ∧ (∀ k, k < 11 → ∃ z b, z < x ∧ b < x ∧ (S.1 z).1 = 300 + k ∧ vBy (S.1 b) k) ∧ r = x + 914 ∧ lb = x + 942 ∧ lb ≤ S.2.2 ∧ LWS S lb (x + 1) ∧ LWS S lb (x + 858) ∧ LWS S lb (x + 886)
def REL (S : vS) (I : vI) (x r lb : Nat) : Prop := ∃ l np nc ns nl, CP S I x lb (I (r + 2)) l (I (r + 7)) (I r) (I (r + 1)) (I (r + 3)) (I (r + 4)) (I (r + 26)) (I (r + 27)) np nc ns nl ∧ LfR (I (r + 14)) l np ∧ I r 32 = nI l.length ∧ Wd (I (r + 6)) WL 0 ∧ SPx S x r lb
/-- what a question may change in the class -/
def FS (x : Nat) (I I2 : vI) : Prop := ∀ b k, ¬ (x + 29 ≤ b ∧ b ≤ x + 33) → ¬ (x + 35 ≤ b ∧ b ≤ x + 42) → ¬ (x + 66 ≤ b ∧ b ≤ x + 74) → ¬ (b = x + 34 ∧ k = 12) → I2 b k = I b k
theorem FS.rfl {x : Nat} {I : vI} : FS x I I := fun _ _ _ _ _ _ => Eq.refl _
theorem FS.trans {x : Nat} {I I2 I3 : vI} (h : FS x I I2) (g : FS x I2 I3) : FS x I I3 := fun b k h1 h2 h3 h4 => (g b k h1 h2 h3 h4).trans (h b k h1 h2 h3 h4)
theorem FS.row {x b : Nat} {I I2 : vI} (h : FS x I I2) (h1 : ¬ (x + 29 ≤ b ∧ b ≤ x + 42)) (h3 : ¬ (x + 66 ≤ b ∧ b ≤ x + 74)) : I2 b = I b := funext fun k => h b k (by omega) (by omega) h3 (by omega)
theorem CP.fs {S : vS} {I I2 : vI} {x lb np nc ns nl : Nat} {K u z rf im hk yw yg : Nat → Int32} {l : List tH} (h : CP S I x lb K l u z rf im hk yw yg np nc ns nl) (f : FS x I I2) (hlb : x + 914 ≤ lb) : CP S I2 x lb K l u z rf im hk yw yg np nc ns nl := by
  obtain ⟨h1, h2, h3, h4, h5, h6, h7, h8, h9, h10, h11, h12, nd, h13, h14, h15⟩ := h
  have hlow : ∀ b, lb ≤ b → I2 b = I b := fun b hb => f.row (by omega) (by omega)
  refine ⟨h1.of (fun b g1 g2 => f.row (by omega) (by omega)) hlow, h2.of h1.tn.1 (fun b g1 g2 => f.row (by omega) (by omega)), ?_, ?_, fun j hj => ?_, ?_, ?_, ?_, ?_, fun j hj => ?_, fun k hk2 => ?_, ?_, nd, h13, h14, fun q => ?_⟩
  · rw [f.row (by omega) (by omega)]; exact h3
  · rw [f.row (b := x) (by omega) (by omega)]; exact h4
  · rw [f.row (by omega) (by omega)]; exact h5 j hj
  · rw [f.row (by omega) (by omega)]; exact h6
  · rw [f.row (by omega) (by omega)]; exact h7
  · rw [f.row (by omega) (by omega)]; exact h8
  · rw [f.row (by omega) (by omega)]; exact h9
  · rw [f.row (by omega) (by omega)]; exact h10 j hj
  · rw [f.row (by omega) (by omega)]
    refine ⟨(h11 k hk2).1, fun q => ?_⟩
    obtain ⟨a, b, c, e, g⟩ := (h11 k hk2).2 q
    exact ⟨a, b, c, e, g.of (fun b g1 g2 => f.row (by omega) (by omega)) hlow⟩
  · rw [f _ _ (by omega) (by omega) (by omega) (by omega)]; exact h12
  · obtain ⟨a, b, c⟩ := h15 q
    exact ⟨by rw [f.row (by omega) (by omega)]; exact a, fun q hq => by rw [f.row (by omega) (by omega)]; exact b q hq, fun t ht => by rw [f.row (by omega) (by omega)]; exact c t ht⟩
/-- what a question may change in the reference -/
def Rq (r : Nat) (I I2 : vI) : Prop := ∀ a k, ¬ (a = r ∧ (20 ≤ k ∧ k ≤ 29 ∨ k = 42)) → a ≠ r + 12 → ¬ (r + 18 ≤ a ∧ a ≤ r + 24) → I2 a k = I a k
theorem Fr.rq {r : Nat} {I I2 : vI} (h : Fr r I I2) : Rq r I I2 := fun a k h1 h2 _ => h a k (by omega) h2
theorem Fc.rq {r : Nat} {I I2 : vI} (h : Fc r I I2) : Rq r I I2 := fun a k h1 h2 h3 => h a k (by omega) h2 (by omega)
theorem Fdr.rq {r : Nat} {I I2 : vI} (h : Fdr r I I2) : Rq r I I2 := fun a k h1 h2 h3 => h a k (by omega) h2 (by omega)
theorem Fg.rq {r : Nat} {I I2 : vI} (h : Fg r I I2) : Rq r I I2 := fun a k h1 h2 _ => h a k (by omega) h2
theorem Rq.rfl {r : Nat} {I : vI} : Rq r I I := fun _ _ _ _ _ => Eq.refl _
/-- the class's part, when nothing of it has changed, and what it is held against is the same -/
theorem CP.of {S : vS} {I I2 : vI} {x lb np nc ns nl : Nat} {K u z rf im hk yw yg z2 : Nat → Int32} {l : List tH} (h : CP S I x lb K l u z rf im hk yw yg np nc ns nl) (e : ∀ b, x ≤ b → b < x + 914 → I2 b = I b) (e1 : ∀ b, lb ≤ b → I2 b = I b) (ez : z2 0 = z 0 ∧ z2 6 = z 6 ∧ z2 11 = z 11 ∧ z2 12 = z 12 ∧ z2 43 = z 43 ∧ z2 54 = z 54 ∧ z2 56 = z 56) : CP S I2 x lb K l u z2 rf im hk yw yg np nc ns nl := by
  obtain ⟨h1, h2, h3, h4, h5, h6, h7, h8, h9, h10, h11, h12, nd, h13, h14, h15⟩ := h
  obtain ⟨z0, z6, z11, z12, z43, z54, z56⟩ := ez
  refine ⟨h1.of (fun b g1 g2 => e b (by omega) (by omega)) e1, h2.of h1.tn.1 (fun b g1 g2 => e b (by omega) (by omega)), ?_, ?_, fun j hj => ?_, ?_, ?_, ?_, ?_, fun j hj => ?_, fun k hk2 => ?_, ?_, nd, h13, by rw [z54]; exact h14, fun q => ?_⟩
  · rw [e _ (by omega) (by omega)]; exact h3
  · rw [e _ (by omega) (by omega), z11]; exact h4
  · rw [e _ (by omega) (by omega)]; exact h5 j hj
  · rw [e _ (by omega) (by omega), z6]; exact h6
  · rw [e _ (by omega) (by omega), z12]; exact h7
  · rw [e _ (by omega) (by omega), z43]; exact h8
  · rw [e _ (by omega) (by omega), z0]; exact h9
  · rw [e _ (by omega) (by omega)]; exact h10 j hj
  · rw [e _ (by omega) (by omega)]
    refine ⟨(h11 k hk2).1, fun q => ?_⟩
    obtain ⟨a, b, c, f, g⟩ := (h11 k hk2).2 q
    exact ⟨a, b, c, f, g.of (fun b g1 g2 => e b (by omega) (by omega)) e1⟩
  · rw [e _ (by omega) (by omega), z56]; exact h12
  · rw [z56] at q
    obtain ⟨a, b, c⟩ := h15 q
    exact ⟨by rw [e _ (by omega) (by omega)]; exact a, fun q hq => by rw [e _ (by omega) (by omega)]; exact b q hq, fun t ht => by rw [e _ (by omega) (by omega)]; exact c t ht⟩
theorem REL.rq {S : vS} {I I2 : vI} {x r lb : Nat} (h : REL S I x r lb) (f : Rq r I I2) : REL S I2 x r lb := by
  obtain ⟨l, np, nc, ns, nl, h1, h2, h3, h4, h5⟩ := h
  have h6 := h5
  obtain ⟨-, -, -, er, el, -⟩ := h6
  have row : ∀ b, b ≠ r → b ≠ r + 12 → ¬ (r + 18 ≤ b ∧ b ≤ r + 24) → I2 b = I b := fun b g1 g2 g3 => funext fun k => f b k (by omega) g2 g3
  refine ⟨l, np, nc, ns, nl, ?_, ?_, ?_, ?_, h5⟩
  · rw [row (r + 2) (by omega) (by omega) (by omega), row (r + 7) (by omega) (by omega) (by omega), row (r + 1) (by omega) (by omega) (by omega), row (r + 3) (by omega) (by omega) (by omega), row (r + 4) (by omega) (by omega) (by omega), row (r + 26) (by omega) (by omega) (by omega), row (r + 27) (by omega) (by omega) (by omega)]
    exact h1.of (fun b g1 g2 => row b (by omega) (by omega) (by omega)) (fun b g => row b (by omega) (by omega) (by omega)) ⟨f _ _ (by omega) (by omega) (by omega), f _ _ (by omega) (by omega) (by omega), f _ _ (by omega) (by omega) (by omega), f _ _ (by omega) (by omega) (by omega), f _ _ (by omega) (by omega) (by omega), f _ _ (by omega) (by omega) (by omega), f _ _ (by omega) (by omega) (by omega)⟩
  · rw [row (r + 14) (by omega) (by omega) (by omega)]; exact h2
  · rw [f _ _ (by omega) (by omega) (by omega)]; exact h3
  · rw [row (r + 6) (by omega) (by omega) (by omega)]; exact h4
theorem REL.fs {S : vS} {I I2 : vI} {x r lb : Nat} (h : REL S I x r lb) (f : FS x I I2) : REL S I2 x r lb := by
  obtain ⟨l, np, nc, ns, nl, h1, h2, h3, h4, h5⟩ := h
  have h6 := h5
  obtain ⟨-, -, -, er, el, -⟩ := h6
  refine ⟨l, np, nc, ns, nl, ?_, ?_, ?_, ?_, h5⟩
  · rw [f.row (b := r + 2) (by omega) (by omega), f.row (b := r + 7) (by omega) (by omega), f.row (b := r) (by omega) (by omega), f.row (b := r + 1) (by omega) (by omega), f.row (b := r + 3) (by omega) (by omega), f.row (b := r + 4) (by omega) (by omega), f.row (b := r + 26) (by omega) (by omega), f.row (b := r + 27) (by omega) (by omega)]
    exact h1.fs f (by omega)
  · rw [f.row (b := r + 14) (by omega) (by omega)]; exact h2
  · rw [f.row (b := r) (by omega) (by omega)]; exact h3
  · rw [f.row (b := r + 6) (by omega) (by omega)]; exact h4
/-- class and reference called one behind the other answer alike, and are alike behind it -/
def PR (mx mr : vM) (mc ms : Nat) (as : List Value) (x r lb : Nat) (S : vS) (I : vI) (L : vL) : Prop := ∀ (d : Nat) (Q : Int32 → vS → vI → vL → Prop), (∀ v S2 I2 M, (∀ b, b < x + 942 → S2.1 b = S.1 b) → (∀ (d2 : Nat) (Q2 : Int32 → vS → vI → vL → Prop), (∀ I3 M3, REL S2 I3 x r lb → (∀ b, b < x → I3 b = I b) → Q2 v S2 I3 M3) → Vc mr (d2 + 60) 0 0 (.ref r :: as) S2 I2 M (ViQ Q2)) → Q v S2 I2 M) → Vc mx (d + 80) mc ms (.ref x :: as) S I L (ViQ Q)
/-- a question -/
theorem PR.q {mx mr : vM} {as : List Value} {x r lb : Nat} {S : vS} {I : vI} {L : vL} (hR : REL S I x r lb) (v : Int32) (hX : ∀ d Q, (∀ I2 M, FS x I I2 → Q v S I2 M) → Vc mx (d + 80) 0 0 (.ref x :: as) S I L (ViQ Q)) (hM : ∀ d I2 M Q, (∀ b, r ≤ b → b < r + 28 → I2 b = I b) → (∀ I3 M3, Rq r I2 I3 → Q v S I3 M3) → Vc mr (d + 60) 0 0 (.ref r :: as) S I2 M (ViQ Q)) : PR mx mr 0 0 as x r lb S I L := by
  intro d Q h
  have er : r = x + 914 := by obtain ⟨_, _, _, _, _, _, _, _, _, _, _, _, er, _⟩ := hR; exact er
  refine hX d Q (fun I2 M f => h v S I2 M (fun _ _ => rfl) (fun d2 Q2 h2 => hM d2 I2 M Q2 (fun b g1 g2 => f.row (by omega) (by omega)) (fun I3 M3 g => h2 I3 M3 ((hR.fs f).rq g) (fun b hb => ?_))))
  have e1 : I3 b = I2 b := funext fun k => g b k (by omega) (by omega) (by omega)
  rw [e1, f.row (by omega) (by omega)]
