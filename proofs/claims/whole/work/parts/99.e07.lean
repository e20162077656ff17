/-! Calls that change the town: what is alike behind them -/
theorem LawOK.of {K G : Nat → Int32} {t : Nat} {cs : List tC} (h : LawOK (fun _ => K) 0 t cs) (ht : t < 6) (e : ∀ x, 146 ≤ x → ¬ scrK x → G x = K x) : LawOK (fun _ => G) 0 t cs := by
  obtain ⟨cd, vl, nt, h1, h2, h3, h4, h5⟩ := h
  refine ⟨cd, vl, nt, fun i hi => ?_, h2, h3, ?_, h5⟩
  · show G (153 + 400 * t + i) = cd i ∧ G (2953 + 400 * t + i) = vl i
    rw [e _ (by omega) (by unfold scrK; omega), e _ (by omega) (by unfold scrK; omega)]; exact h1 i hi
  · show G (146 + t) = nI nt
    rw [e _ (by omega) (by unfold scrK; omega)]; exact h4
theorem LwR.ofK {S : vS} {I : vI} {s lb nl : Nat} {K G : Nat → Int32} (h : LwR S I s lb K nl) (e : ∀ x, 144 ≤ x → ¬ scrK x → G x = K x) : LwR S I s lb G nl := by
  obtain ⟨l1, l2, l3, l4⟩ := h
  refine ⟨l1, l2, by rw [e _ (by omega) (by unfold scrK; omega)]; exact l3, fun t ht => ?_⟩
  obtain ⟨a, cs, m, a1, a2, a3, a4, a5, a6⟩ := l4 t ht
  exact ⟨a, cs, m, a1, a2, a3, a4, a5, a6.of (by omega) (fun x hx hs => e x (by omega) hs)⟩
/-- only the town is another -/
theorem STR.town {S : vS} {I J : vI} {s lb np nc ns nl np2 nc2 : Nat} {K G : Nat → Int32} (h : STR S I s lb K np nc ns nl) (hT : TR J (s + 1) G np2 nc2) (hN : TN G np2 nc2) (hB : KB G np2 nc2) (eK : ∀ x, 122 ≤ x → x ≠ 142 → ¬ scrK x → G x = K x) (e0 : J s = I s) (e1 : ∀ b, s + 24 ≤ b → b ≤ s + 27 → J b = I b) (e2 : ∀ b, lb ≤ b → J b = I b) : STR S J s lb G np2 nc2 ns nl := by
  have hs6 := h.sr.2.1
  refine ⟨hT, hN, hB, ⟨by rw [e0]; exact h.sr.1, hs6, fun i hi => ?_⟩, by rw [eK _ (by omega) (by decide) (by unfold scrK; omega)]; exact h.n143, fun i hi => ?_, (h.lw.of e0 e2).ofK (fun x hx hs => eK x (by omega) (by omega) hs), ?_, ?_, ?_, ?_, ?_⟩
  · rw [e1 _ (by omega) (by omega), e1 _ (by omega) (by omega), e1 _ (by omega) (by omega), eK _ (by omega) (by omega) (by unfold scrK; omega), eK _ (by omega) (by omega) (by unfold scrK; omega), eK _ (by omega) (by omega) (by unfold scrK; omega)]
    exact h.sr.2.2 i hi
  · rw [eK _ (by omega) (by omega) (by unfold scrK; omega)]; exact h.sb i hi
  · rw [e0, eK _ (by omega) (by decide) (by unfold scrK; omega)]; exact h.fo
  · rw [eK _ (by omega) (by decide) (by unfold scrK; omega)]; exact h.fr
  · rw [e0, eK _ (by omega) (by decide) (by unfold scrK; omega)]; exact h.fe
  · rw [e0, eK _ (by omega) (by decide) (by unfold scrK; omega)]; exact h.mo
  · rw [eK _ (by omega) (by decide) (by unfold scrK; omega)]; exact h.f10
theorem REL.act {S : vS} {I J : vI} {x r lb np nc ns nl np2 nc2 ns2 nl2 : Nat} {l l2 : List tH} (hR : CP S I x lb (I (r + 2)) l (I (r + 7)) (I r) (I (r + 1)) (I (r + 3)) (I (r + 4)) (I (r + 26)) (I (r + 27)) np nc ns nl) (hW : Wd (I (r + 6)) WL 0) (hP : SPx S x r lb)
    (f : ∀ b k, (x + 34 = b ∧ k = 11) ∨ (x + 43 ≤ b ∧ b ≤ x + 65) ∨ (x + 855 ≤ b ∧ b < x + 914) ∨ lb ≤ b → J b k = I b k) (fx : ∀ k, 12 ≤ k → k ≤ 15 → J x k = I x k) (g : ∀ b, b = r + 1 ∨ b = r + 3 ∨ b = r + 4 ∨ b = r + 6 ∨ b = r + 7 ∨ b = r + 26 ∨ b = r + 27 → J b = I b) (gr : ∀ k, k = 6 ∨ k = 11 ∨ k = 12 ∨ k = 43 ∨ k = 54 ∨ k = 56 → J r k = I r k) (h0 : J x 16 = J r 0)
    (hold : ∃ old, old < 16 ∧ J (x + 460) 2 = nI old) (hS : STR S J (x + 1) lb (J (r + 2)) np2 nc2 ns2 nl2) (hH : HC J (x + 89) l2 np2) (hL : LfR (J (r + 14)) l2 np2) (h32 : J r 32 = nI l2.length) : REL S J x r lb := by
  have hR2 := hR
  obtain ⟨hs, hHb, -, ⟨n, n4, zn, xn⟩, hu, h13, h14, h15, h16, hrf, him, hy, nd, nd8, z54, hyr⟩ := hR
  refine REL.upd hR2 hW hP (fun b k hb => f b k (by omega)) (fun b hb => g b (by omega)) (gr _ (by omega)) (gr _ (by omega)) hS hH hL h32 hold ⟨n, n4, by rw [gr _ (by omega)]; exact zn, by rw [fx _ (by omega) (by omega)]; exact xn⟩ (fun i hi => ?_) ?_ ?_ ?_ h0 (fun i hi => ?_)
  · rw [f _ _ (by omega), g (r + 7) (by omega)]; exact hu i hi
  · rw [fx _ (by omega) (by omega), gr _ (by omega)]; exact h13
  · rw [fx _ (by omega) (by omega), gr _ (by omega)]; exact h14
  · rw [fx _ (by omega) (by omega), gr _ (by omega)]; exact h15
  · rw [f _ _ (by omega), g (r + 1) (by omega)]; exact hrf i hi
theorem KB.add {K : Nat → Int32} {np nc : Nat} {a s w : Int32} (h : KB K np nc) (hz : ¬ zCan a s w = 0) (h8 : np < 8) (h10 : nc ≤ 10) : KB (addK K np a s w) (np + 1) nc := by
  obtain ⟨h1, h2, h3, h4⟩ := h
  unfold zCan at hz
  have z1 : ¬ zLie a 0 999 = 0 := fun q => by rw [if_pos q] at hz; exact hz rfl
  rw [if_neg z1] at hz
  have z2 : ¬ zLie s 20 250 = 0 := fun q => by rw [if_pos q] at hz; exact hz rfl
  rw [if_neg z2] at hz
  have z3 : ¬ zLie w 5 200 = 0 := fun q => by rw [if_pos q] at hz; exact hz rfl
  have e : ∀ y, ¬ (4 * np ≤ y ∧ y ≤ 4 * np + 3) → y ≠ 142 → addK K np a s w y = K y := fun y q1 q2 => by
    unfold addK; rw [upK_n q2, upK_n (by omega), upK_n (by omega), upK_n (by omega), upK_n (by omega)]
  refine ⟨fun q hq => ?_, fun t ht => ?_, fun c hc => ?_, ?_⟩
  · by_cases g : q = np
    · subst g
      have ep : perP (addK K q a s w) q = (a, s, w, 0) := by
        unfold perP addK
        rw [upK_n (by omega), upK_n (by omega), upK_n (by omega), upK_n (by omega), upK_s, upK_n (by omega), upK_n (by omega), upK_n (by omega), upK_s, upK_n (by omega), upK_n (by omega), upK_s, upK_n (by omega), upK_s]
      rw [ep]
      exact ⟨(zLie_iff _ _ _).mp z1, (zLie_iff _ _ _).mp z2, (zLie_iff _ _ _).mp z3, by show -3 ≤ (0 : Int32).toInt ∧ (0 : Int32).toInt ≤ 3; decide⟩
    · have ep : perP (addK K np a s w) q = perP K q := by
        unfold perP
        rw [e _ (by omega) (by omega), e _ (by omega) (by omega), e _ (by omega) (by omega), e _ (by omega) (by omega)]
      rw [ep]; exact h1 q (by omega)
  · rw [e _ (by omega) (by omega)]; exact h2 t ht
  · obtain ⟨a1, b1, hh, uu, q1, q2, q3, q4, q5⟩ := h3 c hc
    exact ⟨a1, b1, hh, uu, by rw [e _ (by omega) (by omega)]; exact q1, by rw [e _ (by omega) (by omega)]; exact q2, by rw [e _ (by omega) (by omega)]; exact q3, by rw [e _ (by omega) (by omega)]; exact q4, q5⟩
  · unfold NB; rw [e _ (by omega) (by omega)]; exact h4
theorem TN.add {K : Nat → Int32} {np nc : Nat} {a s w : Int32} (h : TN K np nc) (h8 : np < 8) : TN (addK K np a s w) (np + 1) nc := by
  obtain ⟨t1, t2, t3, t4, t5⟩ := h
  have e : ∀ y, ¬ (4 * np ≤ y ∧ y ≤ 4 * np + 3) → y ≠ 142 → addK K np a s w y = K y := fun y q1 q2 => by
    unfold addK; rw [upK_n q2, upK_n (by omega), upK_n (by omega), upK_n (by omega), upK_n (by omega)]
  refine ⟨by omega, t2, by unfold addK; rw [upK_s], by rw [e _ (by omega) (by omega)]; exact t4, fun c hc => ?_⟩
  obtain ⟨c1, c2, c3⟩ := t5 c hc
  refine ⟨by rw [e _ (by omega) (by omega)]; exact c1, by rw [e _ (by omega) (by omega)]; exact c2, ?_⟩
  rw [e _ (by omega) (by omega)]
  rcases c3 with q | ⟨q, q1, q2⟩
  · exact Or.inl q
  · exact Or.inr ⟨q, by omega, q2⟩
/-- what a call changes in the class: the state, the history, what is asked -/
def FA (x : Nat) (I I2 : vI) : Prop := ∀ b k, ¬ (b = x ∧ k = 16) → ¬ (x + 1 ≤ b ∧ b ≤ x + 33) → ¬ (x + 35 ≤ b ∧ b ≤ x + 42) → ¬ (x + 66 ≤ b ∧ b ≤ x + 853) → I2 b k = I b k
theorem FA.rfl {x : Nat} {I : vI} : FA x I I := fun _ _ _ _ _ _ => Eq.refl _
theorem FA.trans {x : Nat} {I I2 I3 : vI} (h : FA x I I2) (g : FA x I2 I3) : FA x I I3 := fun b k h1 h2 h3 h4 => (g b k h1 h2 h3 h4).trans (h b k h1 h2 h3 h4)
theorem FA.row {x b : Nat} {I I2 : vI} (h : FA x I I2) (h1 : ¬ (x ≤ b ∧ b ≤ x + 42)) (h3 : ¬ (x + 66 ≤ b ∧ b ≤ x + 853)) : I2 b = I b := funext fun k => h b k (by omega) (by omega) (by omega) h3
theorem FA.acc {x : Nat} {I I2 : vI} (h : FA x I I2) : FA x I (cAcc I2 x) := fun b k h1 h2 h3 h4 => by unfold cAcc; rw [up2_n h1]; exact h b k h1 h2 h3 h4
theorem cAcc_o {I : vI} {x b : Nat} (h : b ≠ x) : cAcc I x b = I b := by unfold cAcc; rw [up2_row h]
theorem cAcc_16 {I : vI} {x : Nat} : cAcc I x x 16 = 0 := by unfold cAcc; rw [up2_s]
