/-! nourish, let, quarter, hand, undo -/
theorem LfR.push {F K : Nat → Int32} {l : List tH} {np nc : Nat} {c : Int32} (h : LfR F l np) (hl : l.length ≤ 16) (hN : TN K np nc) (hB : KB K np nc) : LfR (keepL F K l.length c) (psh l (K, c)) np := by
  obtain ⟨h8, h10, n3, n4, n5⟩ := hN
  have last : ∀ F2 u, (∀ j, j < 122 → keep1 F2 K u c (123 * u + j) = K j) ∧ keep1 F2 K u c (123 * u + 122) = c := by
    intro F2 u
    refine ⟨fun j hj => ?_, ?_⟩
    · unfold keep1; rw [if_neg (by omega), if_pos (by omega), show 123 * u + j - 123 * u = j by omega]
    · unfold keep1; rw [if_pos rfl]
  have low : ∀ F2 u i j, i < u → j ≤ 122 → keep1 F2 K u c (123 * i + j) = F2 (123 * i + j) := by
    intro F2 u i j hi hj
    unfold keep1; rw [if_neg (by omega), if_neg (by omega)]
  intro i k v q
  by_cases z : l.length = 16
  · unfold keepL; rw [if_pos z]
    unfold psh at q
    rw [if_pos z] at q
    have lt : l.tail.length = 15 := by rw [List.length_tail, z]
    by_cases g : i < 15
    · rw [List.getElem?_append_left (by omega), List.getElem?_tail] at q
      obtain ⟨e1, e2, e3⟩ := h (i + 1) k v q
      refine ⟨fun j hj => ?_, ?_, e3⟩
      · rw [low _ _ _ _ g (by omega)]
        show (if _ then _ else _) = _
        rw [if_pos (by omega), show 123 * i + j + 123 = 123 * (i + 1) + j by omega]; exact e1 j hj
      · rw [low _ _ _ _ g (by omega)]
        show (if _ then _ else _) = _
        rw [if_pos (by omega), show 123 * i + 122 + 123 = 123 * (i + 1) + 122 by omega]; exact e2
    · rw [List.getElem?_append_right (by omega), lt] at q
      have i15 : i = 15 := by
        by_cases y : i = 15
        · exact y
        · rw [show i - 15 = (i - 16) + 1 by omega] at q; cases q
      subst i15
      cases q
      exact ⟨(last _ 15).1, (last _ 15).2, nc, h10, n4, n5, hB⟩
  · unfold keepL; rw [if_neg z]
    unfold psh at q
    rw [if_neg z] at q
    by_cases g : i < l.length
    · rw [List.getElem?_append_left g] at q
      obtain ⟨e1, e2, e3⟩ := h i k v q
      exact ⟨fun j hj => by rw [low _ _ _ _ g (by omega)]; exact e1 j hj, by rw [low _ _ _ _ g (by omega)]; exact e2, e3⟩
    · rw [List.getElem?_append_right (by omega)] at q
      have i15 : i = l.length := by
        by_cases y : i = l.length
        · exact y
        · rw [show i - l.length = (i - l.length - 1) + 1 by omega] at q; cases q
      subst i15
      rw [Nat.sub_self] at q
      cases q
      exact ⟨(last _ _).1, (last _ _).2, nc, h10, n4, n5, hB⟩
theorem FW.fa {x : Nat} {I I2 : vI} (f : FW (x + 1) (x + 89) I I2) : FA x I I2 := fun b k h1 h2 h3 h4 => by
  by_cases g : b = x
  · rw [g, f x (by omega) (by omega) (by omega) (by omega)]
  · rw [f b (by omega) (by omega) (by omega) (by omega)]
/-- scratch only -/
theorem REL.same {S : vS} {I I2 : vI} {x r lb np nc ns nl : Nat} {l : List tH} (hR : CP S I x lb (I (r + 2)) l (I (r + 7)) (I r) (I (r + 1)) (I (r + 3)) (I (r + 4)) (I (r + 26)) (I (r + 27)) np nc ns nl) (hL : LfR (I (r + 14)) l np) (h32 : I r 32 = nI l.length) (hW : Wd (I (r + 6)) WL 0) (hP : SPx S x r lb) (f : FW (x + 1) (x + 89) I I2) (hT : TR I2 (x + 1 + 1) (I (r + 2)) np nc) (hH : HC I2 (x + 89) l np) : REL S I2 x r lb ∧ ∀ b, b < x → I2 b = I b := by
  have hP2 := hP
  obtain ⟨-, -, -, er, el, -⟩ := hP
  have hs := hR.1
  have fr : ∀ b, r ≤ b → I2 b = I b := fun b hb => f b (by omega) (by omega) (by omega) (by omega)
  have h16 := hR.2.2.2.2.2.2.2.2.1
  have hold := hR.2.2.1
  refine REL.fin hR hW hP2 f.fa (fun b hb => rfl) (fun b hb => rfl) (fun k hk => rfl) ?_ ?_ (np2 := np) (nc2 := nc) (ns2 := ns) (nl2 := nl) (l2 := l) ?_ hH ?_ ?_
  · rw [fr r (by omega), f x (by omega) (by omega) (by omega) (by omega)]; exact h16.symm
  · rw [f (x + 460) (by omega) (by omega) (by omega) (by omega)]; exact hold
  · rw [fr (r + 2) (by omega)]
    exact hs.town hT hs.tn hs.kb (fun _ _ _ _ => rfl) (f _ (by omega) (by omega) (by omega) (by omega)) (fun b g1 g2 => f _ (by omega) (by omega) (by omega) (by omega)) (fun b hb => f _ (by omega) (by omega) (by omega) (by omega))
  · rw [fr (r + 14) (by omega)]; exact hL
  · rw [fr r (by omega)]; exact h32
theorem REL.refw {S : vS} {I I2 : vI} {x r lb np nc ns nl j : Nat} {l : List tH} {k : Int32} (hR : CP S I x lb (I (r + 2)) l (I (r + 7)) (I r) (I (r + 1)) (I (r + 3)) (I (r + 4)) (I (r + 26)) (I (r + 27)) np nc ns nl) (hL : LfR (I (r + 14)) l np) (h32 : I r 32 = nI l.length) (hW : Wd (I (r + 6)) WL 0) (hP : SPx S x r lb) (f : FW (x + 1) (x + 89) I I2) (hT : TR I2 (x + 1 + 1) (I (r + 2)) np nc) (hH : HC I2 (x + 89) l np) (hj : j < 7) : REL S (mRef (cRef I2 x k j) r k j) x r lb ∧ ∀ b, b < x → mRef (cRef I2 x k j) r k j b = I b := by
  have er := hP.2.2.2.1
  obtain ⟨a, b⟩ := REL.same hR hL h32 hW hP f hT hH
  exact ⟨a.ref hj, fun y hy => by rw [mRef_o (by omega) (by omega), cRef_o (by omega) (by omega)]; exact b y hy⟩
theorem REL.kept {S : vS} {I I2 Jr : vI} {x r lb np nc ns nl nc2 : Nat} {l : List tH} {k : Int32} (hR : CP S I x lb (I (r + 2)) l (I (r + 7)) (I r) (I (r + 1)) (I (r + 3)) (I (r + 4)) (I (r + 26)) (I (r + 27)) np nc ns nl) (hL : LfR (I (r + 14)) l np) (h32 : I r 32 = nI l.length) (hW : Wd (I (r + 6)) WL 0) (hP : SPx S x r lb) (f : FW (x + 1) (x + 89) I I2) (fk : Fk r (mKeeps (cAcc I2 x) r l.length k) Jr) (hT : TR I2 (x + 1 + 1) (Jr (r + 2)) np nc2) (hN : TN (Jr (r + 2)) np nc2) (hB : KB (Jr (r + 2)) np nc2) (eK : ∀ y, 122 ≤ y → y ≠ 142 → ¬ scrK y → Jr (r + 2) y = I (r + 2) y) (hH : HC I2 (x + 89) (psh l (I (r + 2), k)) np) : REL S (mGood Jr r) x r lb ∧ ∀ b, b < x → mGood Jr r b = I b := by
  have hP2 := hP
  obtain ⟨-, -, -, er, el, -⟩ := hP
  have hs := hR.1
  have hl := hR.2.1.1
  have fr : ∀ b, r ≤ b → cAcc I2 x b = I b := fun b hb => by rw [cAcc_o (by omega), f b (by omega) (by omega) (by omega) (by omega)]
  have row : ∀ b, b ≠ r → b ≠ r + 12 → b ≠ r + 2 → b ≠ r + 14 → Jr b = cAcc I2 x b := fun b g1 g2 g3 g4 => funext fun j => by rw [fk b j (by omega) g2 g3, mKeeps_a g4 (by omega)]
  have hold := hR.2.2.1
  refine REL.fin hR hW hP2 f.fa.acc (fun b hb => ?_) (fun b hb => ?_) (fun j hj => ?_) ?_ ?_ (np2 := np) (nc2 := nc2) (ns2 := ns) (nl2 := nl) (l2 := psh l (I (r + 2), k)) ?_ (hH.of hN.1 (fun b g1 g2 => cAcc_o (by omega))) ?_ ?_
  · rw [mGood_o (by omega), row b (by omega) (by omega) (by omega) (by omega)]
  · rw [mGood_o (by omega), row b (by omega) (by omega) (by omega) (by omega)]
  · rw [mGood_k (by omega), fk _ _ (by omega) (by omega) (by omega), mKeeps_a (by omega) (by omega)]
  · rw [mGood_0, cAcc_16]
  · rw [cAcc_o (by omega), f (x + 460) (by omega) (by omega) (by omega) (by omega)]; exact hold
  · rw [mGood_o (by omega)]
    have st : STR S I2 (x + 1) lb (Jr (r + 2)) np nc2 ns nl := hs.town hT hN hB eK (f _ (by omega) (by omega) (by omega) (by omega)) (fun b g1 g2 => f _ (by omega) (by omega) (by omega) (by omega)) (fun b hb => f _ (by omega) (by omega) (by omega) (by omega))
    exact st.of (fun b g1 g2 => cAcc_o (by omega)) (fun b hb => cAcc_o (by omega))
  · have e14 : mGood Jr r (r + 14) = keepL (I (r + 14)) (I (r + 2)) l.length k := by
      rw [mGood_o (by omega), ← fr (r + 14) (by omega), ← fr (r + 2) (by omega), ← mKeeps_L]
      exact funext fun j => fk _ _ (by omega) (by omega) (by omega)
    rw [e14]; exact hL.push hl hs.tn hs.kb
  · rw [mGood_k (by decide), fk _ _ (by omega) (by omega) (by omega), mKeeps_n, psh_len hl]; rfl
/-- what bounds do not speak of -/
def Kb (K G : Nat → Int32) : Prop := ∀ y, y < 32 ∨ (y < 112 ∧ y % 8 ≠ 4 ∧ y % 8 ≠ 7) ∨ y = 113 ∨ y = 115 ∨ y = 117 ∨ y = 119 ∨ y = 121 → G y = K y
theorem KB.of {K G : Nat → Int32} {np nc : Nat} (h : KB K np nc) (h8 : np ≤ 8) (h10 : nc ≤ 10) (e : Kb K G) : KB G np nc := by
  obtain ⟨b1, b2, b3, b4⟩ := h
  refine ⟨fun q hq => ?_, fun t ht => by rw [e _ (by omega)]; exact b2 t ht, fun c hc => ?_, ?_⟩
  · have ep : perP G q = perP K q := by unfold perP; rw [e _ (by omega), e _ (by omega), e _ (by omega), e _ (by omega)]
    rw [ep]; exact b1 q hq
  · obtain ⟨a, b, hh, u, q1, q2, q3, q4, q5⟩ := b3 c hc
    exact ⟨a, b, hh, u, by rw [e _ (by omega)]; exact q1, by rw [e _ (by omega)]; exact q2, by rw [e _ (by omega)]; exact q3, by rw [e _ (by omega)]; exact q4, q5⟩
  · unfold NB; rw [e _ (by omega)]; exact b4
theorem Kb.trans {K G H : Nat → Int32} (h : Kb K G) (g : Kb G H) : Kb K H := fun y hy => (g y hy).trans (h y hy)
theorem Kb.hand {K : Nat → Int32} {c q : Nat} (hc : c < 10) : Kb K (handK K c q) := fun y hy => upK_n (by omega)
theorem Kb.pay {W : tW} {K : Nat → Int32} {c : Nat} (hc : c < 10) : Kb K (payK W K c) := fun y hy => by
  unfold payK
  rw [upK_n (by omega), upK_n (by omega)]
  unfold payK2 payK1
  rw [upK_n (by omega), upK_n (by omega)]
theorem Kb.setl {W : tW} {K : Nat → Int32} : ∀ c, c ≤ 10 → Kb K (setlK W K c).1
  | 0, _ => fun _ _ => rfl
  | c + 1, h => by
    have ih := Kb.setl (W := W) (K := K) c (by omega)
    rw [setlK]
    split
    · exact ih
    · split
      · exact ih.trans (Kb.pay (by omega))
      · exact ih
theorem perP_put {K : Nat → Int32} {q p : Nat} {P : tP} : perP (putP K q P) p = if p = q then (P.1, P.2.1, P.2.2.1, K (4 * q + 3)) else perP K p := by
  by_cases z : p = q
  · subst z
    rw [if_pos rfl]
    unfold perP putP
    rw [upK_n (by omega), upK_n (by omega), upK_s, upK_n (by omega), upK_s, upK_s, upK_n (by omega), upK_n (by omega), upK_n (by omega)]
  · rw [if_neg z]
    unfold perP
    rw [putP_o (by omega), putP_o (by omega), putP_o (by omega), putP_o (by omega)]
theorem KB.grow {W : tW} {K : Nat → Int32} {np nc : Nat} (h : KB K np nc) (h8 : np ≤ 8) (h10 : nc ≤ 10) : ∀ n, n ≤ np → KB (growK W K n) np nc
  | 0, _ => h
  | n + 1, hn => by
    obtain ⟨b1, b2, b3, b4⟩ := KB.grow (W := W) h h8 h10 n (by omega)
    rw [growK]
    generalize growK W K n = G at *
    refine ⟨fun q hq => ?_, fun t ht => by rw [putP_o (by omega)]; exact b2 t ht, fun c hc => ?_, ?_⟩
    · rw [perP_put]
      split
      · have := stepP_b (W := W) (p := nI n) (now := G 121) (b1 n (by omega))
        exact this
      · exact b1 q hq
    · obtain ⟨a, b, hh, u, q1, q2, q3, q4, q5⟩ := b3 c hc
      exact ⟨a, b, hh, u, by rw [putP_o (by omega)]; exact q1, by rw [putP_o (by omega)]; exact q2, by rw [putP_o (by omega)]; exact q3, by rw [putP_o (by omega)]; exact q4, q5⟩
    · unfold NB; rw [putP_o (by omega)]; exact b4
theorem KB.now {K : Nat → Int32} {np nc : Nat} (h : KB K np nc) (h8 : np ≤ 8) (h10 : nc ≤ 10) (h9 : ¬ K 121 = 999) : KB (nowK K) np nc := by
  have b4 := h.2.2.2
  unfold NB at b4
  obtain ⟨j, hj, ej⟩ := nI_ex (x := K 121) (n := 1000) b4.1 (by omega)
  have j9 : j ≠ 999 := fun q => h9 (by rw [ej, q]; rfl)
  unfold nowK
  rw [ej, nI_1]
  exact h.nw h8 h10 (by omega)
theorem KB.quarter {W : tW} {K : Nat → Int32} {np nc : Nat} (h : KB K np nc) (h8 : np ≤ 8) (h10 : nc ≤ 10) (h9 : ¬ K 121 = 999) : KB (quarterP W K np nc).1 np nc :=
  ((h.grow (W := W) h8 h10 np (Nat.le_refl _)).now h8 h10 (by rw [growK_o (by omega)]; exact h9)).of h8 h10 (Kb.setl nc h10)
theorem TN.quarter {W : tW} {K : Nat → Int32} {np nc : Nat} (h : TN K np nc) : TN (quarterP W K np nc).1 np nc ∧ ∀ y, 122 ≤ y → (quarterP W K np nc).1 y = K y := by
  have h8 := h.1
  have g : TN (nowK (growK W K np)) np nc := h.of (fun y q1 q2 => by unfold nowK; rw [upK_n (by omega), growK_o (by omega)])
  obtain ⟨a, b⟩ := setlK_ok (W := W) g nc (Nat.le_refl _)
  refine ⟨a, fun y hy => ?_⟩
  unfold quarterP
  rw [b y (by omega)]
  unfold nowK; rw [upK_n (by omega), growK_o (by omega)]
theorem KB.lt {K : Nat → Int32} {np nc c j : Nat} (h : KB K np nc) (h8 : np ≤ 8) (h10 : nc ≤ 10) (hc : c < nc) (hj : j ≤ 1) (hz : ¬ K (32 + 8 * c + 5 + j) = 0) : KB (letK K c j) np nc ∧ 0 ≤ letK K c j (32 + 8 * c + j) := by
  obtain ⟨b1, b2, b3, b4⟩ := h
  obtain ⟨a, b, hh, u, q1, q2, q3, q4, q5, q6⟩ := b3 c hc
  have two : (2 : Int32) - nI 0 = nI 2 := rfl
  have one : (2 : Int32) - nI 1 = nI 1 := rfl
  have low : ∀ y, y < 32 → letK K c j y = K y := fun y hy => letK_o (by omega) (by omega)
  refine ⟨⟨fun q hq => ?_, fun t ht => by rw [letK_o (by omega) (by omega)]; exact b2 t ht, fun c2 hc2 => ?_, ?_⟩, ?_⟩
  · have ep : perP (letK K c j) q = perP K q := by unfold perP; rw [low _ (by omega), low _ (by omega), low _ (by omega), low _ (by omega)]
    rw [ep]; exact b1 q hq
  · by_cases z : c2 = c
    · subst z
      rcases (show j = 0 ∨ j = 1 by omega) with rfl | rfl
      · have h0 : hh ≠ 0 := fun q => hz (by rw [Nat.add_zero, q3, q]; rfl)
        refine ⟨a + 2, b, hh - 1, u, ?_, ?_, ?_, ?_, by omega, q6⟩
        · show letK K c2 0 (32 + 8 * c2 + 0) = _
          unfold letK; rw [upK_s, two, Nat.add_zero, q1, nI_add]
        · rw [letK_o (by omega) (by omega)]; exact q2
        · unfold letK; rw [Nat.add_zero, Nat.add_zero, upK_n (by omega), upK_s, q3]; exact nI_sub (b := 1) (by omega) (by omega)
        · rw [letK_o (by omega) (by omega)]; exact q4
      · have h0 : u ≠ 0 := fun q => hz (by rw [show 32 + 8 * c2 + 5 + 1 = 32 + 8 * c2 + 6 by omega, q4, q]; rfl)
        refine ⟨a, b + 1, hh, u - 1, ?_, ?_, ?_, ?_, q5, by omega⟩
        · rw [letK_o (by omega) (by omega)]; exact q1
        · unfold letK; rw [upK_s, q2, one, nI_add]
        · rw [letK_o (by omega) (by omega)]; exact q3
        · unfold letK; rw [upK_n (by omega), show 32 + 8 * c2 + 6 = 32 + 8 * c2 + 5 + 1 by omega, upK_s, show 32 + 8 * c2 + 5 + 1 = 32 + 8 * c2 + 6 by omega, q4]; exact nI_sub (b := 1) (by omega) (by omega)
    · obtain ⟨a, b, hh, u, q1, q2, q3, q4, q5⟩ := b3 c2 hc2
      exact ⟨a, b, hh, u, by rw [letK_o (by omega) (by omega)]; exact q1, by rw [letK_o (by omega) (by omega)]; exact q2, by rw [letK_o (by omega) (by omega)]; exact q3, by rw [letK_o (by omega) (by omega)]; exact q4, q5⟩
  · unfold NB; rw [letK_o (by omega) (by omega)]; exact b4
  · unfold letK
    rw [upK_s, i32_le]
    rcases (show j = 0 ∨ j = 1 by omega) with rfl | rfl
    · rw [Nat.add_zero, q1, two, nI_add, nI_ti (by omega)]; show (0 : Int) ≤ _; omega
    · rw [q2, one, nI_add, nI_ti (by omega)]; show (0 : Int) ≤ _; omega
theorem TN.hand {K : Nat → Int32} {np nc c q : Nat} (h : TN K np nc) (hc : c < nc) (hq : q < np) : TN (handK K c q) np nc := by
  obtain ⟨t1, t2, t3, t4, t5⟩ := h
  refine ⟨t1, t2, by rw [handK, upK_n (by omega)]; exact t3, by rw [handK, upK_n (by omega)]; exact t4, fun c2 hc2 => ?_⟩
  obtain ⟨c1, c3, c4⟩ := t5 c2 hc2
  refine ⟨by rw [handK, upK_n (by omega)]; exact c1, by rw [handK, upK_n (by omega)]; exact c3, ?_⟩
  by_cases z : c2 = c
  · subst z; exact Or.inr ⟨q, hq, by rw [handK, upK_s]⟩
  · rw [handK, upK_n (by omega)]; exact c4
theorem k_nourish {d : Nat} {S : vS} {I : vI} {L : vL} {Q : Int32 → vS → vI → vL → Prop} {x lb np nc ns nl : Nat} {K : Nat → Int32} {l : List tH} {q v : Int32} (hC : ClsS S x) (hs : STR S I (x + 1) lb K np nc ns nl) (hH : HC I (x + 89) l np) (hlb : x + 942 ≤ lb)  (h : ∀ I2 M, FW (x + 1) (x + 89) I I2 → TR I2 (x + 1 + 1) (feedL K l np q v).2.1 np nc → HC I2 (x + 89) (feedL K l np q v).2.2 np → ((feedL K l np q v).1 < 0 → ∃ jj, jj ≤ 6 ∧ -(feedL K l np q v).1 = nI jj ∧ Q (feedL K l np q v).1 S (cRef I2 x (feedL K l np q v).1 jj) M) ∧ (¬ (feedL K l np q v).1 < 0 → Q (feedL K l np q v).1 S (cAcc I2 x) M)) : Vc mX11_nourish (d + 80) 0 0 [.ref x, .int q, .int v] S I L (ViQ Q) := by
  refine Vc.of rfl (Nat.le_of_ble_eq_true rfl) ?_
  have B := bs_X11_nourish
  show Vw mX11_nourish (d + 80) 0 0 0 0 (ViQ Q) 0 [(0, .ref x), (1, .int q), (2, .int v)] [] S I L
  have hT := hC.p0.p0
  have hN := hs.tn
  have h8 := hN.1
  have h10 := hN.2.1
  have hK := hs.tr
  have hold : ∃ old, old < 16 ∧ I (x + 89) 2 = nI old := by obtain ⟨_, _, old, o1, o2, _⟩ := hH; exact ⟨old, o1, o2⟩
  refine Vw.aload_n (de_aload_0 (B 0 _ rfl)) 0 rfl (n := 1) rfl ?_
  refine Vw.aload_n (de_aload_0 (B 1 _ rfl)) 0 rfl (n := 2) rfl ?_
  refine Vw.getR (de_getfield (B 2 _ rfl) (B 3 _ rfl) (B 4 _ rfl)) fl_X11_30 rfl hC.k hC.f2 (n := 5) rfl ?_
  refine Vw.iload_n (de_iload_1 (B 5 _ rfl)) 1 rfl (n := 6) rfl ?_
  refine Vw.iload_n (de_iload_2 (B 6 _ rfl)) 2 rfl (n := 7) rfl ?_
  refine Vw.ivi2 (mi' := mX10_feedOne) (de_invokevirtual (B 7 _ rfl) (B 8 _ rfl) (B 9 _ rfl)) ml_X11_155 mv_X10_feedOne hC.p2.k (Nat.le_of_ble_eq_true rfl) (n := 10) rfl (c_X10_feedOne (s := x + 1) (a := x + 89) hC.p2 hK hN hH (by omega) (fun I2 M f2 _ t2 h2 => ?_))
  refine Vw.ivi1 (mi' := mX11_judge) (de_invokevirtual (B 10 _ rfl) (B 11 _ rfl) (B 12 _ rfl)) ml_X11_159 mv_X11_judge hC.k (Nat.le_of_ble_eq_true rfl) (n := 13) rfl (c_X11_judge hC (fun w0 => ?_) (fun w0 => ?_))
  · obtain ⟨j, j1, j2, j3⟩ := (h I2 M f2 t2 h2).1 w0
    refine ⟨j, j1, j2, ?_⟩
    exact Vw.iret (de_ireturn (B 13 _ rfl)) rfl ⟨_, rfl, j3⟩
  · exact Vw.iret (de_ireturn (B 13 _ rfl)) rfl ⟨_, rfl, ((h I2 M f2 t2 h2).2 w0)⟩
theorem k_let {d : Nat} {S : vS} {I : vI} {L : vL} {Q : Int32 → vS → vI → vL → Prop} {x lb np nc ns nl : Nat} {K : Nat → Int32} {l : List tH} {c v : Int32} (hC : ClsS S x) (hs : STR S I (x + 1) lb K np nc ns nl) (hH : HC I (x + 89) l np) (hlb : x + 942 ≤ lb) (h1 : zLie v 0 1 = 0 → Q (-1) S (cRef I x (-1) 1) L) (h : ∀ j, j ≤ 1 → v = nI j → ∀ I2 M, FW (x + 1) (x + 89) I I2 → TR I2 (x + 1 + 1) (letL K l nc c j).2.1 np nc → HC I2 (x + 89) (letL K l nc c j).2.2 np → ((letL K l nc c j).1 < 0 → ∃ jj, jj ≤ 6 ∧ -(letL K l nc c j).1 = nI jj ∧ Q (letL K l nc c j).1 S (cRef I2 x (letL K l nc c j).1 jj) M) ∧ (¬ (letL K l nc c j).1 < 0 → Q (letL K l nc c j).1 S (cAcc I2 x) M)) : Vc mX11_let (d + 80) 0 0 [.ref x, .int c, .int v] S I L (ViQ Q) := by
  refine Vc.of rfl (Nat.le_of_ble_eq_true rfl) ?_
  have B := bs_X11_let
  show Vw mX11_let (d + 80) 0 0 0 0 (ViQ Q) 0 [(0, .ref x), (1, .int c), (2, .int v)] [] S I L
  have hT := hC.p0.p0
  have hN := hs.tn
  have h8 := hN.1
  have h10 := hN.2.1
  have hK := hs.tr
  have hold : ∃ old, old < 16 ∧ I (x + 89) 2 = nI old := by obtain ⟨_, _, old, o1, o2, _⟩ := hH; exact ⟨old, o1, o2⟩
  refine Vw.aload_n (de_aload_0 (B 0 _ rfl)) 0 rfl (n := 1) rfl ?_
  refine Vw.aload_n (de_aload_0 (B 1 _ rfl)) 0 rfl (n := 2) rfl ?_
  refine Vw.getR (de_getfield (B 2 _ rfl) (B 3 _ rfl) (B 4 _ rfl)) fl_X11_30 rfl hC.k hC.f2 (n := 5) rfl ?_
  refine Vw.iload_n (de_iload_1 (B 5 _ rfl)) 1 rfl (n := 6) rfl ?_
  refine Vw.iload_n (de_iload_2 (B 6 _ rfl)) 2 rfl (n := 7) rfl ?_
  refine Vw.aload_n (de_aload_0 (B 7 _ rfl)) 0 rfl (n := 8) rfl ?_
  refine Vw.getR (de_getfield (B 8 _ rfl) (B 9 _ rfl) (B 10 _ rfl)) fl_X11_60 rfl hC.k hC.f6 (n := 11) rfl ?_
  refine Vw.ivi3 (mi' := mX10_letOut) (de_invokevirtual (B 11 _ rfl) (B 12 _ rfl) (B 13 _ rfl)) ml_X11_314 mv_X10_letOut hC.p2.k (Nat.le_of_ble_eq_true rfl) (n := 14) rfl (c_X10_letOut (s := x + 1) (a := x + 89) hC.p2 hK hN hC.p6 hH (by omega) (fun w0 => ?_) (fun j hj ej I2 M f2 _ t2 h2 => ?_))
  · refine Vw.ivi1 (mi' := mX11_judge) (de_invokevirtual (B 14 _ rfl) (B 15 _ rfl) (B 16 _ rfl)) ml_X11_159 mv_X11_judge hC.k (Nat.le_of_ble_eq_true rfl) (n := 17) rfl (c_X11_judge hC (fun w1 => ?_) (fun w1 => absurd (by decide) w1))
    · refine ⟨1, by decide, rfl, ?_⟩
      exact Vw.iret (de_ireturn (B 17 _ rfl)) rfl ⟨_, rfl, (h1 w0)⟩
  · refine Vw.ivi1 (mi' := mX11_judge) (de_invokevirtual (B 14 _ rfl) (B 15 _ rfl) (B 16 _ rfl)) ml_X11_159 mv_X11_judge hC.k (Nat.le_of_ble_eq_true rfl) (n := 17) rfl (c_X11_judge hC (fun w0 => ?_) (fun w0 => ?_))
    · obtain ⟨j2, j21, j22, j23⟩ := (h j hj ej I2 M f2 t2 h2).1 w0
      refine ⟨j2, j21, j22, ?_⟩
      exact Vw.iret (de_ireturn (B 17 _ rfl)) rfl ⟨_, rfl, j23⟩
    · exact Vw.iret (de_ireturn (B 17 _ rfl)) rfl ⟨_, rfl, ((h j hj ej I2 M f2 t2 h2).2 w0)⟩
theorem k_quarter {d : Nat} {S : vS} {I : vI} {L : vL} {Q : Int32 → vS → vI → vL → Prop} {x lb np nc ns nl : Nat} {K : Nat → Int32} {l : List tH} {W : tW} (hC : ClsS S x) (hs : STR S I (x + 1) lb K np nc ns nl) (hH : HC I (x + 89) l np) (hlb : x + 942 ≤ lb) (hW : WC S I (x + 1) lb W) (h : ∀ I2 M, FW (x + 1) (x + 89) I I2 → TR I2 (x + 1 + 1) (quarL W K l np nc).2.1 np nc → HC I2 (x + 89) (quarL W K l np nc).2.2 np → ((quarL W K l np nc).1 < 0 → ∃ jj, jj ≤ 6 ∧ -(quarL W K l np nc).1 = nI jj ∧ Q (quarL W K l np nc).1 S (cRef I2 x (quarL W K l np nc).1 jj) M) ∧ (¬ (quarL W K l np nc).1 < 0 → Q (quarL W K l np nc).1 S (cAcc I2 x) M)) : Vc mX11_quarter (d + 80) 0 0 [.ref x] S I L (ViQ Q) := by
  refine Vc.of rfl (Nat.le_of_ble_eq_true rfl) ?_
  have B := bs_X11_quarter
  show Vw mX11_quarter (d + 80) 0 0 0 0 (ViQ Q) 0 [(0, .ref x)] [] S I L
  have hT := hC.p0.p0
  have hN := hs.tn
  have h8 := hN.1
  have h10 := hN.2.1
  have hK := hs.tr
  have hold : ∃ old, old < 16 ∧ I (x + 89) 2 = nI old := by obtain ⟨_, _, old, o1, o2, _⟩ := hH; exact ⟨old, o1, o2⟩
  refine Vw.aload_n (de_aload_0 (B 0 _ rfl)) 0 rfl (n := 1) rfl ?_
  refine Vw.aload_n (de_aload_0 (B 1 _ rfl)) 0 rfl (n := 2) rfl ?_
  refine Vw.getR (de_getfield (B 2 _ rfl) (B 3 _ rfl) (B 4 _ rfl)) fl_X11_30 rfl hC.k hC.f2 (n := 5) rfl ?_
  refine Vw.aload_n (de_aload_0 (B 5 _ rfl)) 0 rfl (n := 6) rfl ?_
  refine Vw.getR (de_getfield (B 6 _ rfl) (B 7 _ rfl) (B 8 _ rfl)) fl_X11_60 rfl hC.k hC.f6 (n := 9) rfl ?_
  refine Vw.ivi1 (mi' := mX10_passQuarter) (de_invokevirtual (B 9 _ rfl) (B 10 _ rfl) (B 11 _ rfl)) ml_X11_318 mv_X10_passQuarter hC.p2.k (Nat.le_of_ble_eq_true rfl) (n := 12) rfl (c_X10_passQuarter (s := x + 1) (a := x + 89) hC.p2 hK hN hW (by omega) hC.p6 hH (by omega) (by omega) hs.kb.2.2.2.2 (fun I2 M f2 _ t2 h2 => ?_))
  refine Vw.ivi1 (mi' := mX11_judge) (de_invokevirtual (B 12 _ rfl) (B 13 _ rfl) (B 14 _ rfl)) ml_X11_159 mv_X11_judge hC.k (Nat.le_of_ble_eq_true rfl) (n := 15) rfl (c_X11_judge hC (fun w0 => ?_) (fun w0 => ?_))
  · obtain ⟨j, j1, j2, j3⟩ := (h I2 M f2 t2 h2).1 w0
    refine ⟨j, j1, j2, ?_⟩
    exact Vw.iret (de_ireturn (B 15 _ rfl)) rfl ⟨_, rfl, j3⟩
  · exact Vw.iret (de_ireturn (B 15 _ rfl)) rfl ⟨_, rfl, ((h I2 M f2 t2 h2).2 w0)⟩
theorem k_hand {d : Nat} {S : vS} {I : vI} {L : vL} {Q : Int32 → vS → vI → vL → Prop} {x lb np nc ns nl : Nat} {K : Nat → Int32} {l : List tH} {c q : Int32} {W : tW} (hC : ClsS S x) (hs : STR S I (x + 1) lb K np nc ns nl) (hH : HC I (x + 89) l np) (hlb : x + 942 ≤ lb) (hW : WC S I (x + 1) lb W) (h : ∀ I2 M, FW (x + 1) (x + 89) I I2 → TR I2 (x + 1 + 1) (handL W K l np nc c q).2.1 np nc → HC I2 (x + 89) (handL W K l np nc c q).2.2 np → ((handL W K l np nc c q).1 < 0 → ∃ jj, jj ≤ 6 ∧ -(handL W K l np nc c q).1 = nI jj ∧ Q (handL W K l np nc c q).1 S (cRef I2 x (handL W K l np nc c q).1 jj) M) ∧ (¬ (handL W K l np nc c q).1 < 0 → Q (handL W K l np nc c q).1 S (cAcc I2 x) M)) : Vc mX11_hand (d + 80) 0 0 [.ref x, .int c, .int q] S I L (ViQ Q) := by
  refine Vc.of rfl (Nat.le_of_ble_eq_true rfl) ?_
  have B := bs_X11_hand
  show Vw mX11_hand (d + 80) 0 0 0 0 (ViQ Q) 0 [(0, .ref x), (1, .int c), (2, .int q)] [] S I L
  have hT := hC.p0.p0
  have hN := hs.tn
  have h8 := hN.1
  have h10 := hN.2.1
  have hK := hs.tr
  have hold : ∃ old, old < 16 ∧ I (x + 89) 2 = nI old := by obtain ⟨_, _, old, o1, o2, _⟩ := hH; exact ⟨old, o1, o2⟩
  refine Vw.aload_n (de_aload_0 (B 0 _ rfl)) 0 rfl (n := 1) rfl ?_
  refine Vw.aload_n (de_aload_0 (B 1 _ rfl)) 0 rfl (n := 2) rfl ?_
  refine Vw.getR (de_getfield (B 2 _ rfl) (B 3 _ rfl) (B 4 _ rfl)) fl_X11_30 rfl hC.k hC.f2 (n := 5) rfl ?_
  refine Vw.iload_n (de_iload_1 (B 5 _ rfl)) 1 rfl (n := 6) rfl ?_
  refine Vw.iload_n (de_iload_2 (B 6 _ rfl)) 2 rfl (n := 7) rfl ?_
  refine Vw.aload_n (de_aload_0 (B 7 _ rfl)) 0 rfl (n := 8) rfl ?_
  refine Vw.getR (de_getfield (B 8 _ rfl) (B 9 _ rfl) (B 10 _ rfl)) fl_X11_60 rfl hC.k hC.f6 (n := 11) rfl ?_
  refine Vw.ivi3 (mi' := mX10_handOver) (de_invokevirtual (B 11 _ rfl) (B 12 _ rfl) (B 13 _ rfl)) ml_X11_322 mv_X10_handOver hC.p2.k (Nat.le_of_ble_eq_true rfl) (n := 14) rfl (c_X10_handOver (s := x + 1) (a := x + 89) hC.p2 hK hN hW (by omega) hC.p6 hH (by omega) (by omega) (fun I2 M f2 _ t2 h2 => ?_))
  refine Vw.ivi1 (mi' := mX11_judge) (de_invokevirtual (B 14 _ rfl) (B 15 _ rfl) (B 16 _ rfl)) ml_X11_159 mv_X11_judge hC.k (Nat.le_of_ble_eq_true rfl) (n := 17) rfl (c_X11_judge hC (fun w0 => ?_) (fun w0 => ?_))
  · obtain ⟨j, j1, j2, j3⟩ := (h I2 M f2 t2 h2).1 w0
    refine ⟨j, j1, j2, ?_⟩
    exact Vw.iret (de_ireturn (B 17 _ rfl)) rfl ⟨_, rfl, j3⟩
  · exact Vw.iret (de_ireturn (B 17 _ rfl)) rfl ⟨_, rfl, ((h I2 M f2 t2 h2).2 w0)⟩
theorem KB.fed {K : Nat → Int32} {np nc j : Nat} {v : Int32} (h : KB K np nc) (h8 : np ≤ 8) (h10 : nc ≤ 10) (hj : j < np) (hv : ¬ zLie v (-3) 3 = 0) : KB (upK K (4 * j + 3) v) np nc := by
  obtain ⟨b1, b2, b3, b4⟩ := h
  refine ⟨fun q hq => ?_, fun t ht => by rw [upK_n (by omega)]; exact b2 t ht, fun c hc => ?_, ?_⟩
  · by_cases z : q = j
    · subst z
      obtain ⟨p1, p2, p3, p4⟩ := b1 q hq
      unfold perP
      rw [upK_n (by omega), upK_n (by omega), upK_n (by omega), upK_s]
      exact ⟨p1, p2, p3, (zLie_iff v (-3) 3).mp hv⟩
    · have ep : perP (upK K (4 * j + 3) v) q = perP K q := by unfold perP; rw [upK_n (by omega), upK_n (by omega), upK_n (by omega), upK_n (by omega)]
      rw [ep]; exact b1 q hq
  · obtain ⟨a, b, hh, u, q1, q2, q3, q4, q5⟩ := b3 c hc
    exact ⟨a, b, hh, u, by rw [upK_n (by omega)]; exact q1, by rw [upK_n (by omega)]; exact q2, by rw [upK_n (by omega)]; exact q3, by rw [upK_n (by omega)]; exact q4, q5⟩
  · unfold NB; rw [upK_n (by omega)]; exact b4
theorem neg_1 : -(-1 : Int32) = nI 1 := rfl
theorem neg_2 : -(-2 : Int32) = nI 2 := rfl
theorem neg_3 : -(-3 : Int32) = nI 3 := rfl
theorem neg_5 : -(-5 : Int32) = nI 5 := rfl
theorem pr_nourish {S : vS} {I : vI} {L : vL} {x r lb : Nat} {q v : Int32} (hR : REL S I x r lb) : PR mX11_nourish mX12_nourish 0 0 [.int q, .int v] x r lb S I L := by
  intro d Q h
  obtain ⟨l, np, nc, ns, nl, hCP, hL, h32, hWd, hSP⟩ := hR
  have hR : REL S I x r lb := ⟨l, np, nc, ns, nl, hCP, hL, h32, hWd, hSP⟩
  have hs := hCP.1
  have hH := hCP.2.1
  have hN := hs.tn
  obtain ⟨hC, hM, hst, er, el, hl2⟩ := id hSP
  have h8 := hN.1
  have h10 := hN.2.1
  refine k_nourish hC hs hH (by omega) (fun I2 M f t hh => ?_)
  by_cases c1 : zLie v (-3) 3 = 0
  · have eo : feedL (I (r + 2)) l np q v = (-1, I (r + 2), l) := by unfold feedL; rw [if_pos c1]
    rw [eo] at t hh ⊢
    dsimp only at t hh ⊢
    refine ⟨fun _ => ⟨1, by decide, neg_1, h _ S _ M (fun _ _ => rfl) (fun d2 Q2 g => ?_)⟩, fun q => absurd (show (-1 : Int32) < 0 by decide) q⟩
    have R := REL.refw (k := -1) (j := 1) hCP hL h32 hWd hSP f t hh (by decide)
    have e0 : cRef I2 x (-1) 1 (r + 2) = I (r + 2) := by rw [cRef_o (by omega) (by omega), f _ (by omega) (by omega) (by omega) (by omega)]
    have e1 : cRef I2 x (-1) 1 r 32 = nI l.length := by rw [cRef_o (by omega) (by omega), f _ (by omega) (by omega) (by omega) (by omega)]; exact h32
    exact c_X12_nourish (d := d2 + 57) (n := np) hM (by rw [e0]; exact hN.2.2.1) hN.1 (fun _ => g _ _ R.1 R.2) (fun q => absurd c1 q) (fun _ q => absurd c1 q)
  by_cases c2 : zLie q 0 (nI np - 1) = 0
  · have eo : feedL (I (r + 2)) l np q v = (-2, I (r + 2), l) := by unfold feedL; rw [if_neg c1, if_pos c2]
    rw [eo] at t hh ⊢
    dsimp only at t hh ⊢
    refine ⟨fun _ => ⟨2, by decide, neg_2, h _ S _ M (fun _ _ => rfl) (fun d2 Q2 g => ?_)⟩, fun q => absurd (show (-2 : Int32) < 0 by decide) q⟩
    have R := REL.refw (k := -2) (j := 2) hCP hL h32 hWd hSP f t hh (by decide)
    have e0 : cRef I2 x (-2) 2 (r + 2) = I (r + 2) := by rw [cRef_o (by omega) (by omega), f _ (by omega) (by omega) (by omega) (by omega)]
    have e1 : cRef I2 x (-2) 2 r 32 = nI l.length := by rw [cRef_o (by omega) (by omega), f _ (by omega) (by omega) (by omega) (by omega)]; exact h32
    exact c_X12_nourish (d := d2 + 57) (n := np) hM (by rw [e0]; exact hN.2.2.1) hN.1 (fun q => absurd q c1) (fun _ _ => g _ _ R.1 R.2) (fun j _ j1 j2 => absurd c2 (by rw [j2]; exact (lie_q (by omega) h8).mpr j1))
  · obtain ⟨j, hj, ej⟩ := lie_ex (by omega) c2
    have eo : feedL (I (r + 2)) l np q v = (0, upK (I (r + 2)) (4 * j + 3) v, l) := by unfold feedL; rw [if_neg c1, if_neg c2, ej, nI_cl (by omega)]
    rw [eo] at t hh ⊢
    dsimp only at t hh ⊢
    refine ⟨fun q => absurd q (show ¬ (0 : Int32) < 0 by decide), fun _ => h _ S _ M (fun _ _ => rfl) (fun d2 Q2 g => ?_)⟩
    have e0 : cAcc I2 x (r + 2) = I (r + 2) := by rw [cAcc_o (by omega), f _ (by omega) (by omega) (by omega) (by omega)]
    have e1 : cAcc I2 x r 32 = nI l.length := by rw [cAcc_o (by omega), f _ (by omega) (by omega) (by omega) (by omega)]; exact h32
    refine c_X12_nourish (d := d2 + 57) (n := np) hM (by rw [e0]; exact hN.2.2.1) hN.1 (fun q => absurd q c1) (fun _ q => absurd q c2) (fun j2 _ hj2 ej2 => ?_)
    obtain rfl : j2 = j := nI_inj (by omega) (by omega) (ej2.symm.trans ej)
    have eK : mFed (cAcc I2 x) r j2 v (r + 2) = upK (I (r + 2)) (4 * j2 + 3) v := by unfold mFed; rw [up2_rs, e0]
    have fin := REL.good (I2 := I2) (Jr := mFed (cAcc I2 x) r j2 v) (nc2 := nc) (ns2 := ns) (nl2 := nl) hCP hL h32 hWd hSP f.fa (f _ (by omega) (by omega) (by omega) (by omega)) (fun b hb => by unfold mFed; rw [up2_row hb]) (by
      rw [eK]
      exact hs.town t (hN.of (fun y q1 q2 => upK_n (by omega))) (hs.kb.fed h8 h10 hj c1) (fun y q1 q2 _ => upK_n (by omega)) (f _ (by omega) (by omega) (by omega) (by omega)) (fun b g1 g2 => f _ (by omega) (by omega) (by omega) (by omega)) (fun b hb => f _ (by omega) (by omega) (by omega) (by omega))) hh
    exact g _ _ fin.1 fin.2
theorem pr_let {S : vS} {I : vI} {L : vL} {x r lb : Nat} {c v : Int32} (hR : REL S I x r lb) : PR mX11_let mX12_let 0 0 [.int c, .int v] x r lb S I L := by
  intro d Q h
  obtain ⟨l, np, nc, ns, nl, hCP, hL, h32, hWd, hSP⟩ := hR
  have hR : REL S I x r lb := ⟨l, np, nc, ns, nl, hCP, hL, h32, hWd, hSP⟩
  have hs := hCP.1
  have hH := hCP.2.1
  have hN := hs.tn
  obtain ⟨hC, hM, hst, er, el, hl2⟩ := id hSP
  have h8 := hN.1
  have h10 := hN.2.1
  refine k_let hC hs hH (by omega) (fun c1 => h _ S _ L (fun _ _ => rfl) (fun d2 Q2 g => ?_)) (fun j hj ej I2 M f t hh => ?_)
  · have e0 : cRef I x (-1) 1 (r + 2) = I (r + 2) := cRef_o (by omega) (by omega)
    have e1 : cRef I x (-1) 1 r 32 = nI l.length := by rw [cRef_o (by omega) (by omega)]; exact h32
    refine c_X12_let (d := d2 + 57) (np := np) (nc := nc) (u := l.length) hM (by rw [e0]; exact hN) e1 hH.1 (by rw [e0]; exact fun i j hi hj hz => (hs.kb.lt h8 h10 hi hj hz).2) (fun _ => g _ _ (hR.ref (k := (-1)) (j := 1) (by decide)) (fun b hb => by rw [mRef_o (by omega) (by omega), cRef_o (by omega) (by omega)])) (fun q => absurd c1 q) (fun i j j1 _ j2 => absurd c1 ?_) (fun i j I2 j1 _ j2 => absurd c1 ?_)
    · rw [j2, zLie_iff, nI_ti (by omega)]; show (0 : Int) ≤ _ ∧ _ ≤ (1 : Int); omega
    · rw [j2, zLie_iff, nI_ti (by omega)]; show (0 : Int) ≤ _ ∧ _ ≤ (1 : Int); omega
  have c1 : ¬ zLie v 0 1 = 0 := by rw [ej, zLie_iff, nI_ti (by omega)]; show (0 : Int) ≤ _ ∧ _ ≤ (1 : Int); omega
  by_cases c2 : zLie c 0 (nI nc - 1) = 0
  · have eo : letL (I (r + 2)) l nc c j = (-2, I (r + 2), l) := by unfold letL; rw [if_pos c2]
    rw [eo] at t hh ⊢
    dsimp only at t hh ⊢
    have nz : ∀ i, i < nc → c = nI i → False := fun i i1 i2 => absurd c2 (by rw [i2]; exact fun q => (lie_n2 (by omega) h10).mp q i1)
    refine ⟨fun _ => ⟨2, by decide, neg_2, h _ S _ M (fun _ _ => rfl) (fun d2 Q2 g => ?_)⟩, fun q => absurd (show (-2 : Int32) < 0 by decide) q⟩
    have R := REL.refw (k := -2) (j := 2) hCP hL h32 hWd hSP f t hh (by decide)
    have e0 : cRef I2 x (-2) 2 (r + 2) = I (r + 2) := by rw [cRef_o (by omega) (by omega), f _ (by omega) (by omega) (by omega) (by omega)]
    have e1 : cRef I2 x (-2) 2 r 32 = nI l.length := by rw [cRef_o (by omega) (by omega), f _ (by omega) (by omega) (by omega) (by omega)]; exact h32
    exact c_X12_let (d := d2 + 57) (np := np) (nc := nc) (u := l.length) hM (by rw [e0]; exact hN) e1 hH.1 (by rw [e0]; exact fun i j hi hj hz => (hs.kb.lt h8 h10 hi hj hz).2) (fun q => absurd q c1) (fun _ _ => g _ _ R.1 R.2) (fun i j _ i1 _ i2 => (nz i i1 i2).elim) (fun i j I2 _ i1 _ i2 => (nz i i1 i2).elim)
  obtain ⟨i, hi, ei⟩ := lie_ex (by omega) c2
  have inj : ∀ i2 j2, i2 < nc → j2 ≤ 1 → v = nI j2 → c = nI i2 → i2 = i ∧ j2 = j := fun i2 j2 q1 q2 q3 q4 => ⟨nI_inj (by omega) (by omega) (q4.symm.trans ei), nI_inj (by omega) (by omega) (q3.symm.trans ej)⟩
  by_cases c3 : I (r + 2) (32 + 8 * i + 5 + j) = 0
  · have eo : letL (I (r + 2)) l nc c j = (-3, I (r + 2), l) := by unfold letL; rw [if_neg c2, ei, nI_cl (by omega), if_pos c3]
    rw [eo] at t hh ⊢
    dsimp only at t hh ⊢
    refine ⟨fun _ => ⟨3, by decide, neg_3, h _ S _ M (fun _ _ => rfl) (fun d2 Q2 g => ?_)⟩, fun q => absurd (show (-3 : Int32) < 0 by decide) q⟩
    have R := REL.refw (k := -3) (j := 3) hCP hL h32 hWd hSP f t hh (by decide)
    have e0 : cRef I2 x (-3) 3 (r + 2) = I (r + 2) := by rw [cRef_o (by omega) (by omega), f _ (by omega) (by omega) (by omega) (by omega)]
    have e1 : cRef I2 x (-3) 3 r 32 = nI l.length := by rw [cRef_o (by omega) (by omega), f _ (by omega) (by omega) (by omega) (by omega)]; exact h32
    exact c_X12_let (d := d2 + 57) (np := np) (nc := nc) (u := l.length) hM (by rw [e0]; exact hN) e1 hH.1 (by rw [e0]; exact fun i j hi hj hz => (hs.kb.lt h8 h10 hi hj hz).2) (fun q => absurd q c1) (fun _ q => absurd q c2) (fun i2 j2 _ _ _ _ _ => g _ _ R.1 R.2) (fun i2 j2 I2 q1 q2 q3 q4 q5 => absurd (by rw [e0, (inj i2 j2 q2 q1 q3 q4).1, (inj i2 j2 q2 q1 q3 q4).2]; exact c3) q5)
  · have eo : letL (I (r + 2)) l nc c j = (letK (I (r + 2)) i j (32 + 8 * i + j), letK (I (r + 2)) i j, psh l (I (r + 2), 1)) := by unfold letL; rw [if_neg c2, ei, nI_cl (by omega), if_neg c3]
    rw [eo] at t hh ⊢
    dsimp only at t hh ⊢
    obtain ⟨kb, po⟩ := hs.kb.lt h8 h10 hi hj c3
    refine ⟨fun q => absurd q (by rw [i32_lt]; rw [i32_le] at po; exact Int.not_lt.mpr po), fun _ => h _ S _ M (fun _ _ => rfl) (fun d2 Q2 g => ?_)⟩
    have e0 : cAcc I2 x (r + 2) = I (r + 2) := by rw [cAcc_o (by omega), f _ (by omega) (by omega) (by omega) (by omega)]
    have e1 : cAcc I2 x r 32 = nI l.length := by rw [cAcc_o (by omega), f _ (by omega) (by omega) (by omega) (by omega)]; exact h32
    refine c_X12_let (d := d2 + 57) (np := np) (nc := nc) (u := l.length) hM (by rw [e0]; exact hN) e1 hH.1 (by rw [e0]; exact fun i j hi hj hz => (hs.kb.lt h8 h10 hi hj hz).2) (fun q => absurd q c1) (fun _ q => absurd q c2) (fun i2 j2 q1 q2 q3 q4 q5 => absurd (by rw [e0, (inj i2 j2 q2 q1 q3 q4).1, (inj i2 j2 q2 q1 q3 q4).2] at q5; exact q5) c3) (fun i2 j2 Jr q1 q2 q3 q4 q5 fk eK => ?_)
    obtain ⟨rfl, rfl⟩ := inj i2 j2 q2 q1 q3 q4
    rw [e0] at eK ⊢
    have fin := REL.kept (I2 := I2) (Jr := Jr) (nc2 := nc) (k := 1) hCP hL h32 hWd hSP f fk (by rw [eK]; exact t) (by rw [eK]; exact hN.lt hi hj) (by rw [eK]; exact kb) (fun y w1 w2 _ => by rw [eK, letK_o (by omega) (by omega)]) hh
    exact g _ _ fin.1 fin.2
theorem pr_quarter {S : vS} {I : vI} {L : vL} {x r lb : Nat} (hR : REL S I x r lb) : PR mX11_quarter mX12_quarter 0 0 [] x r lb S I L := by
  intro d Q h
  obtain ⟨l, np, nc, ns, nl, hCP, hL, h32, hWd, hSP⟩ := hR
  have hR : REL S I x r lb := ⟨l, np, nc, ns, nl, hCP, hL, h32, hWd, hSP⟩
  have hs := hCP.1
  have hH := hCP.2.1
  have hN := hs.tn
  obtain ⟨hC, hM, hst, er, el, hl2⟩ := id hSP
  have h8 := hN.1
  have h10 := hN.2.1
  obtain ⟨W, wC, wD⟩ := hs.w
  refine k_quarter hC hs hH (by omega) wC (fun I2 M f t hh => ?_)
  by_cases c1 : I (r + 2) 121 = 999
  · have eo : quarL W (I (r + 2)) l np nc = (-3, I (r + 2), l) := by unfold quarL; rw [if_pos c1]
    rw [eo] at t hh ⊢
    dsimp only at t hh ⊢
    refine ⟨fun _ => ⟨3, by decide, neg_3, h _ S _ M (fun _ _ => rfl) (fun d2 Q2 g => ?_)⟩, fun q => absurd (show (-3 : Int32) < 0 by decide) q⟩
    have R := REL.refw (k := -3) (j := 3) hCP hL h32 hWd hSP f t hh (by decide)
    have e0 : cRef I2 x (-3) 3 (r + 2) = I (r + 2) := by rw [cRef_o (by omega) (by omega), f _ (by omega) (by omega) (by omega) (by omega)]
    have e1 : cRef I2 x (-3) 3 r 32 = nI l.length := by rw [cRef_o (by omega) (by omega), f _ (by omega) (by omega) (by omega) (by omega)]; exact h32
    exact c_X12_quarter (d := d2 + 12) (np := np) (nc := nc) (u := l.length) (W := W) hM (by rw [e0]; exact wD) (by rw [e0]; exact hN) e1 hH.1 (fun _ => g _ _ R.1 R.2) (fun q => absurd (by rw [e0]; exact c1) q)
  · have eo : quarL W (I (r + 2)) l np nc = ((quarterP W (I (r + 2)) np nc).2, (quarterP W (I (r + 2)) np nc).1, psh l (I (r + 2), 2)) := by unfold quarL; rw [if_neg c1]
    rw [eo] at t hh ⊢
    dsimp only at t hh ⊢
    have po := (setlK_b (W := W) (K := nowK (growK W (I (r + 2)) np)) nc h10).1
    refine ⟨fun q => absurd q (by rw [i32_lt]; exact Int.not_lt.mpr po), fun _ => h _ S _ M (fun _ _ => rfl) (fun d2 Q2 g => ?_)⟩
    have e0 : cAcc I2 x (r + 2) = I (r + 2) := by rw [cAcc_o (by omega), f _ (by omega) (by omega) (by omega) (by omega)]
    have e1 : cAcc I2 x r 32 = nI l.length := by rw [cAcc_o (by omega), f _ (by omega) (by omega) (by omega) (by omega)]; exact h32
    refine c_X12_quarter (d := d2 + 12) (np := np) (nc := nc) (u := l.length) (W := W) hM (by rw [e0]; exact wD) (by rw [e0]; exact hN) e1 hH.1 (fun q => absurd (by rw [e0] at q; exact q) c1) (fun _ Jr fk eK => ?_)
    rw [e0] at eK ⊢
    have fin := REL.kept (I2 := I2) (Jr := Jr) (nc2 := nc) (k := 2) hCP hL h32 hWd hSP f fk (by rw [eK]; exact t) (by rw [eK]; exact hN.quarter.1) (by rw [eK]; exact hs.kb.quarter h8 h10 c1) (fun y w1 w2 _ => by rw [eK, hN.quarter.2 y w1]) hh
    exact g _ _ fin.1 fin.2
theorem pr_hand {S : vS} {I : vI} {L : vL} {x r lb : Nat} {c q : Int32} (hR : REL S I x r lb) : PR mX11_hand mX12_hand 0 0 [.int c, .int q] x r lb S I L := by
  intro d Q h
  obtain ⟨l, np, nc, ns, nl, hCP, hL, h32, hWd, hSP⟩ := hR
  have hR : REL S I x r lb := ⟨l, np, nc, ns, nl, hCP, hL, h32, hWd, hSP⟩
  have hs := hCP.1
  have hH := hCP.2.1
  have hN := hs.tn
  obtain ⟨hC, hM, hst, er, el, hl2⟩ := id hSP
  have h8 := hN.1
  have h10 := hN.2.1
  obtain ⟨W, wC, wD⟩ := hs.w
  refine k_hand hC hs hH (by omega) wC (fun I2 M f t hh => ?_)
  by_cases c1 : zLie c 0 (nI nc - 1) = 0 ∨ zLie q 0 (nI np - 1) = 0
  · have eo : handL W (I (r + 2)) l np nc c q = (-2, I (r + 2), l) := by unfold handL; rw [if_pos c1]
    rw [eo] at t hh ⊢
    dsimp only at t hh ⊢
    have nz : ∀ i q2, i < nc → q2 < np → c = nI i → q = nI q2 → False := fun i q2 i1 i2 i3 i4 => by
      rcases c1 with z | z
      · rw [i3] at z; exact (lie_n2 (by omega) h10).mp z i1
      · rw [i4] at z; exact (lie_q (by omega) h8).mpr i2 z
    refine ⟨fun _ => ⟨2, by decide, neg_2, h _ S _ M (fun _ _ => rfl) (fun d2 Q2 g => ?_)⟩, fun q => absurd (show (-2 : Int32) < 0 by decide) q⟩
    have R := REL.refw (k := -2) (j := 2) hCP hL h32 hWd hSP f t hh (by decide)
    have e0 : cRef I2 x (-2) 2 (r + 2) = I (r + 2) := by rw [cRef_o (by omega) (by omega), f _ (by omega) (by omega) (by omega) (by omega)]
    have e1 : cRef I2 x (-2) 2 r 32 = nI l.length := by rw [cRef_o (by omega) (by omega), f _ (by omega) (by omega) (by omega) (by omega)]; exact h32
    exact c_X12_hand (d := d2 + 13) (np := np) (nc := nc) (u := l.length) (W := W) hM (by rw [e0]; exact wD) (by rw [e0]; exact hN) e1 hH.1 (fun _ => g _ _ R.1 R.2) (fun i q2 a1 a2 a3 a4 => (nz i q2 a1 a2 a3 a4).elim) (fun i q2 _ a1 a2 a3 a4 => (nz i q2 a1 a2 a3 a4).elim) (fun i q2 _ a1 a2 a3 a4 => (nz i q2 a1 a2 a3 a4).elim)
  obtain ⟨i, hi, ei⟩ := lie_ex (n := nc) (by omega) (fun z => c1 (Or.inl z))
  obtain ⟨p, hp, ep⟩ := lie_ex (n := np) (by omega) (fun z => c1 (Or.inr z))
  have inj : ∀ i2 p2, i2 < nc → p2 < np → c = nI i2 → q = nI p2 → i2 = i ∧ p2 = p := fun i2 p2 q1 q2 q3 q4 => ⟨nI_inj (by omega) (by omega) (q3.symm.trans ei), nI_inj (by omega) (by omega) (q4.symm.trans ep)⟩
  by_cases c2 : ¬ I (r + 2) (32 + 8 * i + 4) = -1
  · have eo : handL W (I (r + 2)) l np nc c q = (-3, I (r + 2), l) := by unfold handL; rw [if_neg c1, ei, nI_cl (by omega), if_pos c2]
    rw [eo] at t hh ⊢
    dsimp only at t hh ⊢
    refine ⟨fun _ => ⟨3, by decide, neg_3, h _ S _ M (fun _ _ => rfl) (fun d2 Q2 g => ?_)⟩, fun q => absurd (show (-3 : Int32) < 0 by decide) q⟩
    have R := REL.refw (k := -3) (j := 3) hCP hL h32 hWd hSP f t hh (by decide)
    have e0 : cRef I2 x (-3) 3 (r + 2) = I (r + 2) := by rw [cRef_o (by omega) (by omega), f _ (by omega) (by omega) (by omega) (by omega)]
    have e1 : cRef I2 x (-3) 3 r 32 = nI l.length := by rw [cRef_o (by omega) (by omega), f _ (by omega) (by omega) (by omega) (by omega)]; exact h32
    exact c_X12_hand (d := d2 + 13) (np := np) (nc := nc) (u := l.length) (W := W) hM (by rw [e0]; exact wD) (by rw [e0]; exact hN) e1 hH.1 (fun q => absurd q c1) (fun i2 p2 _ _ _ _ _ => g _ _ R.1 R.2) (fun i2 p2 _ q1 q2 q3 q4 q5 => absurd (by rw [e0, (inj i2 p2 q1 q2 q3 q4).1] at q5; exact q5) c2) (fun i2 p2 _ q1 q2 q3 q4 q5 => absurd (by rw [e0, (inj i2 p2 q1 q2 q3 q4).1] at q5; exact q5) c2)
  replace c2 := Classical.not_not.mp c2
  by_cases c3 : fitAt (handK (I (r + 2)) i p) i = 0
  · have eo : handL W (I (r + 2)) l np nc c q = (payAt W (handK (I (r + 2)) i p) i, payK W (handK (I (r + 2)) i p) i, psh l (I (r + 2), 3)) := by unfold handL; rw [if_neg c1, ei, ep, nI_cl (by omega), nI_cl (by omega), if_neg (fun z => z c2), if_pos c3]
    rw [eo] at t hh ⊢
    dsimp only at t hh ⊢
    have po : 0 ≤ (payAt W (handK (I (r + 2)) i p) i).toInt := (payP_b _ _ _ _ _ _ _).1
    refine ⟨fun q => absurd q (by rw [i32_lt]; exact Int.not_lt.mpr po), fun _ => h _ S _ M (fun _ _ => rfl) (fun d2 Q2 g => ?_)⟩
    have e0 : cAcc I2 x (r + 2) = I (r + 2) := by rw [cAcc_o (by omega), f _ (by omega) (by omega) (by omega) (by omega)]
    have e1 : cAcc I2 x r 32 = nI l.length := by rw [cAcc_o (by omega), f _ (by omega) (by omega) (by omega) (by omega)]; exact h32
    refine c_X12_hand (d := d2 + 13) (np := np) (nc := nc) (u := l.length) (W := W) hM (by rw [e0]; exact wD) (by rw [e0]; exact hN) e1 hH.1 (fun q => absurd q c1) (fun i2 p2 q1 q2 q3 q4 q5 => absurd (by rw [e0, (inj i2 p2 q1 q2 q3 q4).1]; exact c2) q5) (fun i2 p2 _ q1 q2 q3 q4 q5 q6 => absurd (by rw [e0, (inj i2 p2 q1 q2 q3 q4).1, (inj i2 p2 q1 q2 q3 q4).2]; exact c3) q6) (fun i2 p2 Jr q1 q2 q3 q4 q5 q6 fk eK => ?_)
    obtain ⟨rfl, rfl⟩ := inj i2 p2 q1 q2 q3 q4
    rw [e0] at eK ⊢
    have nh := hN.hand hi hp
    have fin := REL.kept (I2 := I2) (Jr := Jr) (nc2 := nc) (k := 3) hCP hL h32 hWd hSP f fk (by rw [eK]; exact t) (by rw [eK]; exact nh.pay hi) (by rw [eK]; exact (hs.kb.of h8 h10 (Kb.hand (by omega))).of h8 h10 (Kb.pay (by omega))) (fun y w1 w2 _ => by rw [eK, payK_o (nh.2.2.2.2 _ hi) (by omega) (by omega) (by omega), handK, upK_n (by omega)]) hh
    exact g _ _ fin.1 fin.2
  · have eo : handL W (I (r + 2)) l np nc c q = (0, handK (I (r + 2)) i p, psh l (I (r + 2), 3)) := by unfold handL; rw [if_neg c1, ei, ep, nI_cl (by omega), nI_cl (by omega), if_neg (fun z => z c2), if_neg c3]
    rw [eo] at t hh ⊢
    dsimp only at t hh ⊢
    refine ⟨fun q => absurd q (show ¬ (0 : Int32) < 0 by decide), fun _ => h _ S _ M (fun _ _ => rfl) (fun d2 Q2 g => ?_)⟩
    have e0 : cAcc I2 x (r + 2) = I (r + 2) := by rw [cAcc_o (by omega), f _ (by omega) (by omega) (by omega) (by omega)]
    have e1 : cAcc I2 x r 32 = nI l.length := by rw [cAcc_o (by omega), f _ (by omega) (by omega) (by omega) (by omega)]; exact h32
    refine c_X12_hand (d := d2 + 13) (np := np) (nc := nc) (u := l.length) (W := W) hM (by rw [e0]; exact wD) (by rw [e0]; exact hN) e1 hH.1 (fun q => absurd q c1) (fun i2 p2 q1 q2 q3 q4 q5 => absurd (by rw [e0, (inj i2 p2 q1 q2 q3 q4).1]; exact c2) q5) (fun i2 p2 Jr q1 q2 q3 q4 q5 q6 fk eK => ?_) (fun i2 p2 _ q1 q2 q3 q4 q5 q6 => absurd (by rw [e0, (inj i2 p2 q1 q2 q3 q4).1, (inj i2 p2 q1 q2 q3 q4).2] at q6; exact q6) c3)
    obtain ⟨rfl, rfl⟩ := inj i2 p2 q1 q2 q3 q4
    rw [e0] at eK
    have nh := hN.hand hi hp
    have fin := REL.kept (I2 := I2) (Jr := Jr) (nc2 := nc) (k := 3) hCP hL h32 hWd hSP f fk (by rw [eK]; exact t) (by rw [eK]; exact nh) (by rw [eK]; exact hs.kb.of h8 h10 (Kb.hand (by omega))) (fun y w1 w2 _ => by rw [eK, handK, upK_n (by omega)]) hh
    exact g _ _ fin.1 fin.2
