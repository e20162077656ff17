/-! ORDERS: pure -/
def nvO (K : Nat → Int32) (np : Nat) (done paid : Int32) : Nat → Int32 := fun x => if x = 0 then K 121 else if x = 1 then done else if x = 2 then paid else if x < 11 then (if x - 3 < np then K (4 * (x - 3) + 1) else -1) else (if x - 11 < np then K (4 * (x - 11) + 2) else -1)
theorem nvO_3 {K : Nat → Int32} {np q : Nat} {dn pd : Int32} (h : q < 8) : nvO K np dn pd (3 + q) = if q < np then K (4 * q + 1) else -1 := by
  unfold nvO
  rw [if_neg (show ¬ 3 + q = 0 by omega), if_neg (show ¬ 3 + q = 1 by omega), if_neg (show ¬ 3 + q = 2 by omega), if_pos (show 3 + q < 11 by omega), show 3 + q - 3 = q by omega]
theorem nvO_11 {K : Nat → Int32} {np q : Nat} {dn pd : Int32} : nvO K np dn pd (11 + q) = if q < np then K (4 * q + 2) else -1 := by
  unfold nvO
  rw [if_neg (show ¬ 11 + q = 0 by omega), if_neg (show ¬ 11 + q = 1 by omega), if_neg (show ¬ 11 + q = 2 by omega), if_neg (show ¬ 11 + q < 11 by omega), show 11 + q - 11 = q by omega]
section PO
variable {cd vl : Nat → Int32} {o : Bool} {nt : Nat}
theorem pTwo_inv {w : Int32} {i l j l2 : Nat} {ab : tD × tD} (h : pTwo cd vl o w i l = .ok (j, l2, ab)) : ∃ j1 l1 a b, pSum cd vl o 8 i l = .ok (j1, l1, a) ∧ cd j1 = w ∧ pSum cd vl o 8 (j1 + 1) l1 = .ok (j, l2, b) ∧ ab = (a, b) := by
  unfold pTwo at h
  cases h1 : pSum cd vl o 8 i l with
  | error e => rw [h1] at h; cases h
  | ok q =>
    obtain ⟨j1, l1, a⟩ := q
    rw [h1] at h
    simp only at h
    by_cases h2 : cd j1 = w
    · rw [if_pos h2] at h
      cases h3 : pSum cd vl o 8 (j1 + 1) l1 with
      | error e => rw [h3] at h; cases h
      | ok q =>
        obtain ⟨j2, l3, b⟩ := q
        rw [h3] at h
        cases h
        exact ⟨j1, l1, a, b, rfl, h2, h3, rfl⟩
    · rw [if_neg h2] at h; cases h
theorem pHead_inv {i l j l2 : Nat} {ab : tD × tD} (h : pHead cd vl o i l = .ok (j, l2, ab)) : (cd i = 21 ∧ pTwo cd vl o 22 (i + 1) l = .ok (j, l2, ab)) ∨ (cd i = 23 ∧ pTwo cd vl o 24 (i + 1) l = .ok (j, l2, ab)) ∨ ((cd i = 25 ∨ cd i = 26) ∧ ∃ a, pSum cd vl o 8 (i + 1) l = .ok (j, l2, a) ∧ ab = (a, tD0)) ∨ (cd i = 16 ∧ j = i + 1 ∧ ab = (tD0, tD0)) := by
  unfold pHead at h
  by_cases h1 : cd i = 21
  · rw [if_pos h1] at h; exact Or.inl ⟨h1, h⟩
  · rw [if_neg h1] at h
    by_cases h2 : cd i = 23
    · rw [if_pos h2] at h; exact Or.inr (Or.inl ⟨h2, h⟩)
    · rw [if_neg h2] at h
      by_cases h3 : cd i = 25 ∨ cd i = 26
      · rw [if_pos h3] at h
        cases h4 : pSum cd vl o 8 (i + 1) l with
        | error e => rw [h4] at h; cases h
        | ok q =>
          obtain ⟨j1, l1, a⟩ := q
          rw [h4] at h
          cases h
          exact Or.inr (Or.inr (Or.inl ⟨h3, a, rfl, rfl⟩))
      · rw [if_neg h3] at h
        by_cases h4 : cd i = 16
        · rw [if_pos h4] at h; cases h; exact Or.inr (Or.inr (Or.inr ⟨h4, rfl, rfl⟩))
        · rw [if_neg h4] at h; cases h
theorem pOrder_inv {i l j l2 : Nat} {c : tC} (h : pOrder cd vl o i l = .ok (j, l2, c)) : ∃ j0 l0 ab, pHead cd vl o i l = .ok (j0, l0, ab) ∧ pTimes cd vl o (cd i) ab.1 ab.2 j0 l0 = .ok (j, l2, c) := by
  unfold pOrder at h
  cases h1 : pHead cd vl o i l with
  | error e => rw [h1] at h; cases h
  | ok q =>
    obtain ⟨j1, l1, ab⟩ := q
    rw [h1] at h
    exact ⟨j1, l1, ab, rfl, h⟩
theorem pTimes_inv {v : Int32} {a b : tD} {i l j l2 : Nat} {c : tC} (h : pTimes cd vl o v a b i l = .ok (j, l2, c)) : (cd i = 27 ∧ cd (i + 1) = 50 ∧ ¬ zLie (vl (i + 1)) 1 20 = 0 ∧ pTail cd vl o v a b (vl (i + 1)) (i + 2) l = .ok (j, l2, c)) ∨ (¬ cd i = 27 ∧ pTail cd vl o v a b 1 i l = .ok (j, l2, c)) := by
  unfold pTimes at h
  by_cases h1 : cd i = 27
  · rw [if_pos h1] at h
    by_cases h2 : cd (i + 1) = 50 ∧ ¬ zLie (vl (i + 1)) 1 20 = 0
    · rw [if_pos h2] at h; exact Or.inl ⟨h1, h2.1, h2.2, h⟩
    · rw [if_neg h2] at h; cases h
  · rw [if_neg h1] at h; exact Or.inr ⟨h1, h⟩
theorem pHead_b (h0 : cd nt = 0) {i l j l2 : Nat} {ab : tD × tD} (hi : i ≤ nt) (h : pHead cd vl o i l = .ok (j, l2, ab)) : i < j ∧ j ≤ nt := by
  rcases pHead_inv h with ⟨h1, h2⟩ | ⟨h1, h2⟩ | ⟨h1, a, h2, _⟩ | ⟨h1, rfl, _⟩
  · obtain ⟨j1, l1, a, b, k1, k2, k3, _⟩ := pTwo_inv h2
    have e := Bd_sum h0 8 _ _ _ _ _ (Bd_lt h0 hi (by rw [h1]; decide)) k1
    have e2 := Bd_sum h0 8 _ _ _ _ _ (Bd_lt h0 e.2 (by rw [k2]; decide)) k3
    omega
  · obtain ⟨j1, l1, a, b, k1, k2, k3, _⟩ := pTwo_inv h2
    have e := Bd_sum h0 8 _ _ _ _ _ (Bd_lt h0 hi (by rw [h1]; decide)) k1
    have e2 := Bd_sum h0 8 _ _ _ _ _ (Bd_lt h0 e.2 (by rw [k2]; decide)) k3
    omega
  · have e := Bd_sum h0 8 _ _ _ _ _ (Bd_lt h0 hi (by rcases h1 with z | z <;> rw [z] <;> decide)) h2
    omega
  · have := Bd_lt h0 hi (by rw [h1]; decide); omega
theorem pTimes_b (h0 : cd nt = 0) {v : Int32} {a b : tD} {i l j l2 : Nat} {c : tC} (hi : i ≤ nt) (h : pTimes cd vl o v a b i l = .ok (j, l2, c)) : j ≤ nt := by
  rcases pTimes_inv h with ⟨h1, h2, _, h3⟩ | ⟨_, h3⟩
  · have e := Bd_lt h0 hi (by rw [h1]; decide)
    have e2 := Bd_lt h0 e (by rw [h2]; decide)
    exact pTail_b h0 (by omega) h3
  · exact pTail_b h0 hi h3
theorem pTail_v {v n : Int32} {a b : tD} {j l j2 l2 : Nat} {c : tC} (h : pTail cd vl o v a b n j l = .ok (j2, l2, c)) : c.1 = v ∧ c.2.1 = a ∧ c.2.2.1 = b ∧ c.2.2.2.1 = n := by
  rcases pTail_inv h with ⟨_, rfl, rfl⟩ | ⟨_, t, _, rfl⟩ <;> exact ⟨rfl, rfl, rfl, rfl⟩
end PO
/-- goesAlong(): what it may change -/
def Fo (r : Nat) (I I2 : vI) : Prop := ∀ a k, ¬ (a = r ∧ (20 ≤ k ∧ k ≤ 23 ∨ 47 ≤ k ∧ k ≤ 50)) → a ≠ r + 13 → I2 a k = I a k
theorem Fo.k {r : Nat} {I I2 : vI} (h : Fo r I I2) : I2 (r + 2) = I (r + 2) := funext fun k => h _ _ (by omega) (by omega)
/-- the base of a reading: the text, the words -/
def OB (I J : vI) (r nt np : Nat) (cd vl : Nat → Int32) (nv : Nat → Int32) : Prop := Fo r I J ∧ EV J r 2400 nt cd vl ∧ ENV J r np true nv
theorem OB.up {I J : vI} {r nt np k : Nat} {cd vl nv : Nat → Int32} {v : Int32} (h : OB I J r nt np cd vl nv) (hk : 47 ≤ k ∧ k ≤ 50) : OB I (up2 J r k v) r nt np cd vl nv := by
  obtain ⟨h1, ⟨a1, a2, a3, a4, a5⟩, ⟨b1, b2, b3, b4, b5⟩⟩ := h
  refine ⟨fun a j q1 q2 => by rw [up2_n (by omega)]; exact h1 a j q1 q2, ⟨fun i hi => by rw [up2_a (by omega), up2_a (by omega)]; exact a1 i hi, a2, a3, a4, by rw [up2_k (by omega)]; exact a5⟩, ⟨by rw [up2_k (by omega)]; exact b1, fun z => (by cases z), fun z => ⟨fun x hx => by rw [up2_a (by omega)]; exact (b3 z).1 x hx, fun q hq => by rw [up2_a (by omega), up2_a (by omega)]; exact (b3 z).2 q hq⟩, by rw [up2_a (by omega)]; exact b4, b5⟩⟩
theorem em_1 {I : vI} {r : Nat} {g : Int32} : up2 I r 20 g = em I r g (I r 22) := by
  funext a k
  unfold up2 em
  by_cases h : a = r ∧ k = 20
  · rw [if_pos h, if_pos h]
  · rw [if_neg h, if_neg h]
    by_cases h2 : a = r ∧ k = 22
    · rw [if_pos h2, h2.1, h2.2]
    · rw [if_neg h2]
theorem em_up {I : vI} {r k : Nat} {g b v : Int32} (h1 : k ≠ 20) (h2 : k ≠ 22) : up2 (em I r g b) r k v = em (up2 I r k v) r g b := by
  funext a j
  simp only [em, up2]
  by_cases ha : a = r
  · subst ha
    by_cases hj : j = k
    · subst hj; simp [h1, h2]
    · simp [hj]
  · simp [ha]
/-- how a clause stands when it was gone along live -/
def GL (I2 : vI) (M : vL) (r : Nat) (c : tC) (nv : Nat → Int32) : Prop := (I2 r 50 = 0 → clHolds c nv = false) ∧ (¬ I2 r 50 = 0 → clHolds c nv = true) ∧ (I2 r 49 = 0 → c.2.1 nv = none ∨ c.2.2.1 nv = none) ∧ (¬ I2 r 49 = 0 → ∃ va vb, c.2.1 nv = some va ∧ c.2.2.1 nv = some vb ∧ (¬ c.1 = 16 → M (r + 25) 0 = va) ∧ (c.1 = 21 ∨ c.1 = 23 → M (r + 25) 1 = vb))
def Ls (r : Nat) (L L2 : vL) : Prop := ∀ a k, a ≠ r + 25 → L2 a k = L a k
theorem c_X12_goesAlong {d : Nat} {S : vS} {I : vI} {L : vL} {Q : vS → vI → vL → Prop} {r : Nat} {np nt k l j l2 : Nat} {cd vl : Nat → Int32} {c : tC} {lv : Int32} (hM : MS S r) (hlv : lv = 0 ∨ lv = 1) (h142 : I (r + 2) 142 = nI np) (hnp : np ≤ 8) (hat : I r 46 = nI (2400 + k)) (hk : k ≤ nt) (hrow : ∀ i, i < nt → I (r + 2) (153 + 2400 + i) = cd i ∧ I (r + 2) (2953 + 2400 + i) = vl i) (h0 : cd nt = 0) (hnt : nt ≤ 400) (hP : pOrder cd vl true k l = .ok (j, l2, c))
  (h : ∀ I2 M, Fo r I I2 → Ls r L M → I2 r 20 = nI (2400 + (j + 1)) → I2 r 47 = c.2.2.2.1 → I2 r 48 = c.1 → (lv = 1 → GL I2 M r c (nvO (I (r + 2)) np (I r 44) (I r 45))) → Q S I2 M) : Vc mX12_goesAlong (d + 42) 0 0 [.ref r, .int (nI (2400 + nt)), .int lv] S I L (VvQ Q) := by
  refine Vc.of rfl (Nat.le_of_ble_eq_true rfl) ?_
  have B := bs_X12_goesAlong
  show Vw mX12_goesAlong (d + 42) 0 0 0 0 (VvQ Q) 0 [(0, .ref r), (1, .int (nI (2400 + nt))), (2, .int lv)] [] S I L
  obtain ⟨j0, l0, ab, hH, hTi⟩ := pOrder_inv hP
  have hjb := pHead_b h0 hk hH
  have hkn : k < nt := by omega
  have cv : c.1 = cd k ∧ c.2.1 = ab.1 ∧ c.2.2.1 = ab.2 := by
    rcases pTimes_inv hTi with ⟨_, _, _, q⟩ | ⟨_, q⟩
    · have z := pTail_v q; exact ⟨z.1, z.2.1, z.2.2.1⟩
    · have z := pTail_v q; exact ⟨z.1, z.2.1, z.2.2.1⟩
  have fin : ∀ J M b3 x n2, OB I J r nt np cd vl (nvO (I (r + 2)) np (I r 44) (I r 45)) → Ls r L M → J r 48 = c.1 → J r 47 = c.2.2.2.1 → (lv = 1 → (x = 0 ∨ ¬ b3 = 0 → clHolds c (nvO (I (r + 2)) np (I r 44) (I r 45)) = false) ∧ (¬ x = 0 → b3 = 0 → clHolds c (nvO (I (r + 2)) np (I r 44) (I r 45)) = true) ∧ (J r 49 = 0 → c.2.1 (nvO (I (r + 2)) np (I r 44) (I r 45)) = none ∨ c.2.2.1 (nvO (I (r + 2)) np (I r 44) (I r 45)) = none) ∧ (¬ J r 49 = 0 → ∃ va vb, c.2.1 (nvO (I (r + 2)) np (I r 44) (I r 45)) = some va ∧ c.2.2.1 (nvO (I (r + 2)) np (I r 44) (I r 45)) = some vb ∧ (¬ c.1 = 16 → M (r + 25) 0 = va) ∧ (c.1 = 21 ∨ c.1 = 23 → M (r + 25) 1 = vb))) → (x = 0 ∨ x = 1) → Vw mX12_goesAlong (d + 42) 0 0 0 0 (VvQ Q) 254 [(0, .ref r), (1, .int (nI (2400 + nt))), (2, .int lv), (3, .int n2)] [.int x, .ref r] S (em J r (nI (2400 + j)) b3) M := by
    intro J M b3 x n2 oJ fM hJ48 hJ47 hg hx
    have fin2 : ∀ y, (y = 0 ∨ y = 1) → (lv = 1 → (y = 0 → clHolds c (nvO (I (r + 2)) np (I r 44) (I r 45)) = false) ∧ (¬ y = 0 → clHolds c (nvO (I (r + 2)) np (I r 44) (I r 45)) = true)) → Vw mX12_goesAlong (d + 42) 0 0 0 0 (VvQ Q) 277 [(0, .ref r), (1, .int (nI (2400 + nt))), (2, .int lv), (3, .int n2)] [.int y, .ref r] S (em (up2 J r 50 x) r (nI (2400 + j)) b3) M := by
      intro y hy hgy
      refine Vw.putZ (de_putfield (B 277 _ rfl) (B 278 _ rfl) (B 279 _ rfl)) fl_X12_458 hM.k rfl rfl (by rcases hy with e | e <;> rw [e] <;> rfl) (by rcases hy with e | e <;> rw [e] <;> rfl) (n := 280) rfl ?_
      rw [em_up (by decide) (by decide)]
      refine Vw.aload_n (de_aload_0 (B 280 _ rfl)) 0 rfl (n := 281) rfl ?_
      refine Vw.dup (de_dup (B 281 _ rfl)) rfl (n := 282) rfl ?_
      refine Vw.getI (de_getfield (B 282 _ rfl) (B 283 _ rfl) (B 284 _ rfl)) fl_X12_270 rfl hM.k (n := 285) rfl ?_
      rw [em_g]
      refine Vw.iconst (v := 1) (de_iconst_1 (B 285 _ rfl)) rfl (n := 286) rfl ?_
      refine Vw.iadd (de_iadd (B 286 _ rfl)) (n := 287) rfl ?_
      refine Vw.putI (de_putfield (B 287 _ rfl) (B 288 _ rfl) (B 289 _ rfl)) fl_X12_270 hM.k rfl rfl (n := 290) rfl ?_
      rw [em_inc]
      exact Vw.vret (de_return_ (B 290 _ rfl)) rfl ⟨rfl, (h _ M (fun a i q1 q2 => by
    rw [show em (up2 (up2 J r 50 x) r 50 y) r (nI (2400 + (j + 1))) b3 a i = (up2 (up2 J r 50 x) r 50 y) a i from by unfold em; rw [if_neg (by omega), if_neg (by omega)]]
    rw [up2_n (by omega), up2_n (by omega)]; exact oJ.1 a i q1 q2) fM em_g (by rw [em_k (by decide) (by decide), up2_k (by decide), up2_k (by decide)]; exact hJ47) (by rw [em_k (by decide) (by decide), up2_k (by decide), up2_k (by decide)]; exact hJ48) (fun z => by
    have g := hg z
    have g2 := hgy z
    unfold GL
    rw [em_k (by decide) (by decide), em_k (by decide) (by decide), up2_s, up2_k (by decide), up2_k (by decide)]
    exact ⟨g2.1, g2.2, g.2.2.1, g.2.2.2⟩))⟩
    refine Vw.putZ (de_putfield (B 254 _ rfl) (B 255 _ rfl) (B 256 _ rfl)) fl_X12_458 hM.k rfl rfl (by rcases hx with e | e <;> rw [e] <;> rfl) (by rcases hx with e | e <;> rw [e] <;> rfl) (n := 257) rfl ?_
    rw [em_up (by decide) (by decide)]
    refine Vw.aload_n (de_aload_0 (B 257 _ rfl)) 0 rfl (n := 258) rfl ?_
    refine Vw.aload_n (de_aload_0 (B 258 _ rfl)) 0 rfl (n := 259) rfl ?_
    refine Vw.getI (de_getfield (B 259 _ rfl) (B 260 _ rfl) (B 261 _ rfl)) fl_X12_458 rfl hM.k (n := 262) rfl ?_
    rw [em_k (by decide) (by decide), up2_s]
    refine Vw.if_eq (tgt := 276) (n := 265) (de_if_eq (B 262 _ rfl) (B 263 _ rfl) (B 264 _ rfl)) rfl rfl (fun c_262 => ?_) (fun c_262 => ?_)
    · refine Vw.iconst (v := 0) (de_iconst_0 (B 276 _ rfl)) rfl (n := 277) rfl ?_
      first
      | exact fin2 0 (Or.inl rfl) (fun z => ⟨fun _ => (hg z).1 (Or.inl c_262), fun q => absurd rfl q⟩)
      | exact fin2 0 (Or.inl rfl) (fun z => ⟨fun _ => (hg z).1 (Or.inr c_269), fun q => absurd rfl q⟩)
      | exact fin2 1 (Or.inr rfl) (fun z => ⟨fun q => absurd q (by decide), fun _ => (hg z).2.1 c_262 c_269⟩)
    refine Vw.aload_n (de_aload_0 (B 265 _ rfl)) 0 rfl (n := 266) rfl ?_
    refine Vw.getI (de_getfield (B 266 _ rfl) (B 267 _ rfl) (B 268 _ rfl)) fl_X12_280 rfl hM.k (n := 269) rfl ?_
    rw [em_b]
    refine Vw.if_ne (tgt := 276) (n := 272) (de_if_ne (B 269 _ rfl) (B 270 _ rfl) (B 271 _ rfl)) rfl rfl (fun c_269 => ?_) (fun c_269 => ?_)
    · refine Vw.iconst (v := 0) (de_iconst_0 (B 276 _ rfl)) rfl (n := 277) rfl ?_
      first
      | exact fin2 0 (Or.inl rfl) (fun z => ⟨fun _ => (hg z).1 (Or.inl c_262), fun q => absurd rfl q⟩)
      | exact fin2 0 (Or.inl rfl) (fun z => ⟨fun _ => (hg z).1 (Or.inr c_269), fun q => absurd rfl q⟩)
      | exact fin2 1 (Or.inr rfl) (fun z => ⟨fun q => absurd q (by decide), fun _ => (hg z).2.1 c_262 c_269⟩)
    refine Vw.iconst (v := 1) (de_iconst_1 (B 272 _ rfl)) rfl (n := 273) rfl ?_
    refine Vw.goto_ (n := 277) (de_goto_ (B 273 _ rfl) (B 274 _ rfl) (B 275 _ rfl)) rfl ?_
    first
    | exact fin2 0 (Or.inl rfl) (fun z => ⟨fun _ => (hg z).1 (Or.inl c_262), fun q => absurd rfl q⟩)
    | exact fin2 0 (Or.inl rfl) (fun z => ⟨fun _ => (hg z).1 (Or.inr c_269), fun q => absurd rfl q⟩)
    | exact fin2 1 (Or.inr rfl) (fun z => ⟨fun q => absurd q (by decide), fun _ => (hg z).2.1 c_262 c_269⟩)
  have tl : ∀ J M b n2 i2 l3 nn, OB I J r nt np cd vl (nvO (I (r + 2)) np (I r 44) (I r 45)) → Ls r L M → J r 48 = c.1 → J r 47 = nn → i2 ≤ nt → pTail cd vl true (cd k) ab.1 ab.2 nn i2 l3 = .ok (j, l2, c) → (lv = 1 → (J r 49 = 0 → c.2.1 (nvO (I (r + 2)) np (I r 44) (I r 45)) = none ∨ c.2.2.1 (nvO (I (r + 2)) np (I r 44) (I r 45)) = none) ∧ (¬ J r 49 = 0 → ∃ va vb, c.2.1 (nvO (I (r + 2)) np (I r 44) (I r 45)) = some va ∧ c.2.2.1 (nvO (I (r + 2)) np (I r 44) (I r 45)) = some vb ∧ (¬ c.1 = 16 → M (r + 25) 0 = va) ∧ (c.1 = 21 ∨ c.1 = 23 → M (r + 25) 1 = vb))) → Vw mX12_goesAlong (d + 42) 0 0 0 0 (VvQ Q) 226 [(0, .ref r), (1, .int (nI (2400 + nt))), (2, .int lv), (3, .int n2)] [] S (em J r (nI (2400 + i2)) b) M := by
    intro J M b n2 i2 l3 nn oJ fM hJ48 hJ47 hi2 hTl hg
    have hE := oJ.2.1
    have hEn := oJ.2.2
    have cn := (pTail_v hTl).2.2.2
    rcases pTail_inv hTl with ⟨q1, rfl, ec⟩ | ⟨q1, ts, q2, ec⟩
    · skip
      refine Vw.aload_n (de_aload_0 (B 226 _ rfl)) 0 rfl (n := 227) rfl ?_
      refine Vw.iconst (v := 0) (de_iconst_0 (B 227 _ rfl)) rfl (n := 228) rfl ?_
      refine Vw.putZ (de_putfield (B 228 _ rfl) (B 229 _ rfl) (B 230 _ rfl)) fl_X12_280 hM.k rfl rfl rfl rfl (n := 231) rfl ?_
      rw [em_ub]
      refine Vw.aload_n (de_aload_0 (B 231 _ rfl)) 0 rfl (n := 232) rfl ?_
      refine Vw.aload_n (de_aload_0 (B 232 _ rfl)) 0 rfl (n := 233) rfl ?_
      refine Vw.bipush (v := 6) (de_bipush (B 233 _ rfl) (B 234 _ rfl)) rfl (n := 235) rfl ?_
      refine Vw.ivi1 (mi' := mX12_passes0) (de_invokevirtual (B 235 _ rfl) (B 236 _ rfl) (B 237 _ rfl)) ml_X12_294 mv_X12_passes0 hM.k (Nat.le_of_ble_eq_true rfl) (n := 238) rfl (c_X12_passes0 hM hE hi2 (fun q => absurd q q1) (fun _ => ?_))
      · refine Vw.if_eq (tgt := 249) (n := 241) (de_if_eq (B 238 _ rfl) (B 239 _ rfl) (B 240 _ rfl)) rfl rfl (fun c_238 => ?_) (fun c_238 => ?_)
        · refine Vw.iconst (v := 1) (de_iconst_1 (B 249 _ rfl)) rfl (n := 250) rfl ?_
          refine Vw.goto_ (n := 254) (de_goto_ (B 250 _ rfl) (B 251 _ rfl) (B 252 _ rfl)) rfl ?_
          exact fin J M 0 1 _ oJ fM hJ48 (hJ47.trans cn.symm) (fun z => ⟨fun q => by rcases q with q | q; exact absurd q (by decide); exact absurd rfl q, fun _ _ => by rw [ec]; rfl, hg z⟩) (Or.inr rfl)
        exact absurd rfl c_238
    · have hlt := hE.lt hi2 (by rw [q1]; decide)
      refine Vw.aload_n (de_aload_0 (B 226 _ rfl)) 0 rfl (n := 227) rfl ?_
      refine Vw.iconst (v := 0) (de_iconst_0 (B 227 _ rfl)) rfl (n := 228) rfl ?_
      refine Vw.putZ (de_putfield (B 228 _ rfl) (B 229 _ rfl) (B 230 _ rfl)) fl_X12_280 hM.k rfl rfl rfl rfl (n := 231) rfl ?_
      rw [em_ub]
      refine Vw.aload_n (de_aload_0 (B 231 _ rfl)) 0 rfl (n := 232) rfl ?_
      refine Vw.aload_n (de_aload_0 (B 232 _ rfl)) 0 rfl (n := 233) rfl ?_
      refine Vw.bipush (v := 6) (de_bipush (B 233 _ rfl) (B 234 _ rfl)) rfl (n := 235) rfl ?_
      refine Vw.ivi1 (mi' := mX12_passes0) (de_invokevirtual (B 235 _ rfl) (B 236 _ rfl) (B 237 _ rfl)) ml_X12_294 mv_X12_passes0 hM.k (Nat.le_of_ble_eq_true rfl) (n := 238) rfl (c_X12_passes0 hM hE hi2 (fun _ => ?_) (fun q => absurd q1 q))
      · refine Vw.if_eq (tgt := 249) (n := 241) (de_if_eq (B 238 _ rfl) (B 239 _ rfl) (B 240 _ rfl)) rfl rfl (fun c_238 => ?_) (fun c_238 => ?_)
        · exact absurd c_238 (by decide)
        refine Vw.aload_n (de_aload_0 (B 241 _ rfl)) 0 rfl (n := 242) rfl ?_
        refine Vw.iload_n (de_iload_2 (B 242 _ rfl)) 2 rfl (n := 243) rfl ?_
        refine Vw.ivi1 (mi' := mX12_testOf) (de_invokevirtual (B 243 _ rfl) (B 244 _ rfl) (B 245 _ rfl)) ml_X12_315 mv_X12_testOf hM.k (Nat.le_of_ble_eq_true rfl) (n := 246) rfl (et_tests 8 _ _ _ _ _ _ _ _ _ _ _ _ _ _ _ _ _ _ _ _ hM hE hEn hlt q2 hlv (Or.inl rfl) (fun x b2 hx => ?_))
        · refine Vw.if_eq (tgt := 253) (n := 249) (de_if_eq (B 246 _ rfl) (B 247 _ rfl) (B 248 _ rfl)) rfl rfl (fun c_246 => ?_) (fun c_246 => ?_)
          · refine Vw.iconst (v := 0) (de_iconst_0 (B 253 _ rfl)) rfl (n := 254) rfl ?_
            first
            | exact fin J M b2 0 _ oJ fM hJ48 (hJ47.trans cn.symm) (fun z => by subst z; exact ⟨fun _ => by rw [ec]; exact clH_f hx (Or.inl c_246), fun q => absurd rfl q, hg rfl⟩) (Or.inl rfl)
            | exact fin J M b2 1 _ oJ fM hJ48 (hJ47.trans cn.symm) (fun z => by subst z; exact ⟨fun q => by rw [ec]; exact clH_f hx (q.imp (fun q => absurd q (by decide)) id), fun _ q => by rw [ec]; exact clH_t hx c_246 q, hg rfl⟩) (Or.inr rfl)
          refine Vw.iconst (v := 1) (de_iconst_1 (B 249 _ rfl)) rfl (n := 250) rfl ?_
          refine Vw.goto_ (n := 254) (de_goto_ (B 250 _ rfl) (B 251 _ rfl) (B 252 _ rfl)) rfl ?_
          first
          | exact fin J M b2 0 _ oJ fM hJ48 (hJ47.trans cn.symm) (fun z => by subst z; exact ⟨fun _ => by rw [ec]; exact clH_f hx (Or.inl c_246), fun q => absurd rfl q, hg rfl⟩) (Or.inl rfl)
          | exact fin J M b2 1 _ oJ fM hJ48 (hJ47.trans cn.symm) (fun z => by subst z; exact ⟨fun q => by rw [ec]; exact clH_f hx (q.imp (fun q => absurd q (by decide)) id), fun _ q => by rw [ec]; exact clH_t hx c_246 q, hg rfl⟩) (Or.inr rfl)
  have ti : ∀ J M b n2, OB I J r nt np cd vl (nvO (I (r + 2)) np (I r 44) (I r 45)) → Ls r L M → J r 48 = c.1 → (lv = 1 → (J r 49 = 0 → c.2.1 (nvO (I (r + 2)) np (I r 44) (I r 45)) = none ∨ c.2.2.1 (nvO (I (r + 2)) np (I r 44) (I r 45)) = none) ∧ (¬ J r 49 = 0 → ∃ va vb, c.2.1 (nvO (I (r + 2)) np (I r 44) (I r 45)) = some va ∧ c.2.2.1 (nvO (I (r + 2)) np (I r 44) (I r 45)) = some vb ∧ (¬ c.1 = 16 → M (r + 25) 0 = va) ∧ (c.1 = 21 ∨ c.1 = 23 → M (r + 25) 1 = vb))) → Vw mX12_goesAlong (d + 42) 0 0 0 0 (VvQ Q) 185 [(0, .ref r), (1, .int (nI (2400 + nt))), (2, .int lv), (3, .int n2)] [] S (em J r (nI (2400 + j0)) b) M := by
    intro J M b n2 oJ fM hJ48 hg
    have oJ2 : OB I (up2 J r 47 1) r nt np cd vl (nvO (I (r + 2)) np (I r 44) (I r 45)) := oJ.up (by omega)
    have hE := oJ2.2.1
    rcases pTimes_inv hTi with ⟨q1, q2, q3, q4⟩ | ⟨q1, q4⟩
    · have hlt := Bd_lt h0 hjb.2 (by rw [q1]; decide)
      have hlt2 := Bd_lt h0 hlt (by rw [q2]; decide)
      refine Vw.aload_n (de_aload_0 (B 185 _ rfl)) 0 rfl (n := 186) rfl ?_
      refine Vw.iconst (v := 1) (de_iconst_1 (B 186 _ rfl)) rfl (n := 187) rfl ?_
      refine Vw.putI (de_putfield (B 187 _ rfl) (B 188 _ rfl) (B 189 _ rfl)) fl_X12_455 hM.k rfl rfl (n := 190) rfl ?_
      rw [em_up (by decide) (by decide)]
      refine Vw.aload_n (de_aload_0 (B 190 _ rfl)) 0 rfl (n := 191) rfl ?_
      refine Vw.bipush (v := 27) (de_bipush (B 191 _ rfl) (B 192 _ rfl)) rfl (n := 193) rfl ?_
      refine Vw.ivi1 (mi' := mX12_passes0) (de_invokevirtual (B 193 _ rfl) (B 194 _ rfl) (B 195 _ rfl)) ml_X12_294 mv_X12_passes0 hM.k (Nat.le_of_ble_eq_true rfl) (n := 196) rfl (c_X12_passes0 hM hE hjb.2 (fun _ => ?_) (fun q => absurd q1 q))
      · refine Vw.if_eq (tgt := 226) (n := 199) (de_if_eq (B 196 _ rfl) (B 197 _ rfl) (B 198 _ rfl)) rfl rfl (fun c_196 => ?_) (fun c_196 => ?_)
        · exact absurd c_196 (by decide)
        refine Vw.aload_n (de_aload_0 (B 199 _ rfl)) 0 rfl (n := 200) rfl ?_
        refine Vw.aload_n (de_aload_0 (B 200 _ rfl)) 0 rfl (n := 201) rfl ?_
        refine Vw.getR (de_getfield (B 201 _ rfl) (B 202 _ rfl) (B 203 _ rfl)) fl_X12_24 rfl hM.k (MS_kept hM).1 (n := 204) rfl ?_
        refine Vw.sipush (v := 2953) (de_sipush (B 204 _ rfl) (B 205 _ rfl) (B 206 _ rfl)) rfl (n := 207) rfl ?_
        refine Vw.aload_n (de_aload_0 (B 207 _ rfl)) 0 rfl (n := 208) rfl ?_
        refine Vw.getI (de_getfield (B 208 _ rfl) (B 209 _ rfl) (B 210 _ rfl)) fl_X12_270 rfl hM.k (n := 211) rfl ?_
        rw [em_g]
        refine Vw.iadd (de_iadd (B 211 _ rfl)) (n := 212) rfl ?_
        refine Vw.iald (de_iaload (B 212 _ rfl)) (MS_kept hM).2 (vIx_n (k := 2953 + 2400 + (j0 + 1)) (by rw [show (2953 : Int32) = nI 2953 from rfl, ← nI_A]; congr 1; omega) (by omega)) (n := 213) rfl ?_
        rw [em_o (by omega), show up2 J r 47 1 (r + 2) (2953 + 2400 + (j0 + 1)) = vl (j0 + 1) from (hE.1 (j0 + 1) hlt2).2]
        refine Vw.putI (de_putfield (B 213 _ rfl) (B 214 _ rfl) (B 215 _ rfl)) fl_X12_455 hM.k rfl rfl (n := 216) rfl ?_
        rw [em_up (by decide) (by decide)]
        refine Vw.aload_n (de_aload_0 (B 216 _ rfl)) 0 rfl (n := 217) rfl ?_
        refine Vw.dup (de_dup (B 217 _ rfl)) rfl (n := 218) rfl ?_
        refine Vw.getI (de_getfield (B 218 _ rfl) (B 219 _ rfl) (B 220 _ rfl)) fl_X12_270 rfl hM.k (n := 221) rfl ?_
        rw [em_g]
        refine Vw.iconst (v := 1) (de_iconst_1 (B 221 _ rfl)) rfl (n := 222) rfl ?_
        refine Vw.iadd (de_iadd (B 222 _ rfl)) (n := 223) rfl ?_
        refine Vw.putI (de_putfield (B 223 _ rfl) (B 224 _ rfl) (B 225 _ rfl)) fl_X12_270 hM.k rfl rfl (n := 226) rfl ?_
        rw [em_inc]
        exact tl _ M b _ (j0 + 2) l0 _ (oJ2.up (by omega)) fM (by rw [up2_k (by decide), up2_k (by decide)]; exact hJ48) (up2_s _ _ _ _) hlt2 q4 (fun z => by rw [up2_k (by decide), up2_k (by decide)]; exact hg z)
    · skip
      refine Vw.aload_n (de_aload_0 (B 185 _ rfl)) 0 rfl (n := 186) rfl ?_
      refine Vw.iconst (v := 1) (de_iconst_1 (B 186 _ rfl)) rfl (n := 187) rfl ?_
      refine Vw.putI (de_putfield (B 187 _ rfl) (B 188 _ rfl) (B 189 _ rfl)) fl_X12_455 hM.k rfl rfl (n := 190) rfl ?_
      rw [em_up (by decide) (by decide)]
      refine Vw.aload_n (de_aload_0 (B 190 _ rfl)) 0 rfl (n := 191) rfl ?_
      refine Vw.bipush (v := 27) (de_bipush (B 191 _ rfl) (B 192 _ rfl)) rfl (n := 193) rfl ?_
      refine Vw.ivi1 (mi' := mX12_passes0) (de_invokevirtual (B 193 _ rfl) (B 194 _ rfl) (B 195 _ rfl)) ml_X12_294 mv_X12_passes0 hM.k (Nat.le_of_ble_eq_true rfl) (n := 196) rfl (c_X12_passes0 hM hE hjb.2 (fun q => absurd q q1) (fun _ => ?_))
      · refine Vw.if_eq (tgt := 226) (n := 199) (de_if_eq (B 196 _ rfl) (B 197 _ rfl) (B 198 _ rfl)) rfl rfl (fun c_196 => ?_) (fun c_196 => ?_)
        · exact tl _ M b _ j0 l0 1 oJ2 fM (by rw [up2_k (by decide)]; exact hJ48) (up2_s _ _ _ _) hjb.2 q4 (fun z => by rw [up2_k (by decide)]; exact hg z)
        exact absurd rfl c_196
  have sum1 : ∀ J M b n2 kk i l3 j3 l4 dn, OB I J r nt np cd vl (nvO (I (r + 2)) np (I r 44) (I r 45)) → Ls r L M → kk < 2 → i ≤ nt → pSum cd vl true 8 i l3 = .ok (j3, l4, dn) → (J r 49 = 0 ∨ J r 49 = 1) →
      (∀ s, (s = 0 ∨ s = 1) → (s = 0 ↔ J r 49 = 0 ∨ ¬ evB lv 0 dn (nvO (I (r + 2)) np (I r 44) (I r 45)) = 0) → Vw mX12_goesAlong (d + 42) 0 0 0 0 (VvQ Q) 118 [(0, .ref r), (1, .int (nI (2400 + nt))), (2, .int lv), (3, .int n2), (4, .int (nI (kk + 1)))] [] S (em (up2 J r 49 s) r (nI (2400 + j3)) (evB lv 0 dn (nvO (I (r + 2)) np (I r 44) (I r 45)))) (up2 M (r + 25) kk (evV lv 0 dn (nvO (I (r + 2)) np (I r 44) (I r 45))))) → Vw mX12_goesAlong (d + 42) 0 0 0 0 (VvQ Q) 139 [(0, .ref r), (1, .int (nI (2400 + nt))), (2, .int lv), (3, .int n2), (4, .int (nI kk))] [] S (em J r (nI (2400 + i)) b) M := by
    intro J M b n2 kk i l3 j3 l4 dn oJ fM hkk hi hS h49 next
    have hE := oJ.2.1
    have hEn := oJ.2.2
    refine Vw.aload_n (de_aload_0 (B 139 _ rfl)) 0 rfl (n := 140) rfl ?_
    refine Vw.iconst (v := 0) (de_iconst_0 (B 140 _ rfl)) rfl (n := 141) rfl ?_
    refine Vw.putZ (de_putfield (B 141 _ rfl) (B 142 _ rfl) (B 143 _ rfl)) fl_X12_280 hM.k rfl rfl rfl rfl (n := 144) rfl ?_
    rw [em_ub]
    refine Vw.aload_n (de_aload_0 (B 144 _ rfl)) 0 rfl (n := 145) rfl ?_
    refine Vw.getR (de_getfield (B 145 _ rfl) (B 146 _ rfl) (B 147 _ rfl)) fl_X12_102 rfl hM.k (MS_sums hM).1 (n := 148) rfl ?_
    refine Vw.iload (de_iload (B 148 _ rfl) (B 149 _ rfl)) 4 rfl (n := 150) rfl ?_
    refine Vw.aload_n (de_aload_0 (B 150 _ rfl)) 0 rfl (n := 151) rfl ?_
    refine Vw.iload_n (de_iload_2 (B 151 _ rfl)) 2 rfl (n := 152) rfl ?_
    refine Vw.ivl1 (mi' := mX12_sumOf) (de_invokevirtual (B 152 _ rfl) (B 153 _ rfl) (B 154 _ rfl)) ml_X12_297 mv_X12_sumOf hM.k (Nat.le_of_ble_eq_true rfl) (n := 155) rfl (ec_sums 8 _ _ _ _ _ _ _ _ _ _ _ _ _ _ _ _ _ _ _ _ hM hE hEn hi hS hlv (Or.inl rfl) ?_)
    refine Vw.last (de_lastore (B 155 _ rfl)) (MS_sums hM).2 (vIx_n (k := kk) (by simp only [nI_A, nI_M, Int32.zero_add, Int32.add_zero] <;> rfl) (by omega)) (n := 156) rfl ?_
    refine Vw.aload_n (de_aload_0 (B 156 _ rfl)) 0 rfl (n := 157) rfl ?_
    refine Vw.aload_n (de_aload_0 (B 157 _ rfl)) 0 rfl (n := 158) rfl ?_
    refine Vw.getI (de_getfield (B 158 _ rfl) (B 159 _ rfl) (B 160 _ rfl)) fl_X12_452 rfl hM.k (n := 161) rfl ?_
    rw [em_k (by decide) (by decide)]
    refine Vw.if_eq (tgt := 175) (n := 164) (de_if_eq (B 161 _ rfl) (B 162 _ rfl) (B 163 _ rfl)) rfl rfl (fun c_161 => ?_) (fun c_161 => ?_)
    · refine Vw.iconst (v := 0) (de_iconst_0 (B 175 _ rfl)) rfl (n := 176) rfl ?_
      refine Vw.putZ (de_putfield (B 176 _ rfl) (B 177 _ rfl) (B 178 _ rfl)) fl_X12_452 hM.k rfl rfl rfl rfl (n := 179) rfl ?_
      refine Vw.iinc (v := nI (kk + 1)) (lv2 := [(0, _), (1, _), (2, _), (3, _), (4, _)]) (de_iinc (B 179 _ rfl) (B 180 _ rfl) (B 181 _ rfl)) 4 rfl (nI_1 kk) (by decide) [1, 2, 3, 4, 0] rfl (n := 182) rfl ?_
      refine Vw.goto_ (n := 118) (de_goto_ (B 182 _ rfl) (B 183 _ rfl) (B 184 _ rfl)) rfl ?_
      rw [em_up (by decide) (by decide)]
      first
      | exact next 0 (Or.inl rfl) ⟨fun _ => Or.inl c_161, fun _ => rfl⟩
      | exact next 0 (Or.inl rfl) ⟨fun _ => Or.inr c_168, fun _ => rfl⟩
      | exact next 1 (Or.inr rfl) ⟨fun q => absurd q (by decide), fun q => by rcases q with q | q; exact absurd q c_161; exact absurd c_168 q⟩
    refine Vw.aload_n (de_aload_0 (B 164 _ rfl)) 0 rfl (n := 165) rfl ?_
    refine Vw.getI (de_getfield (B 165 _ rfl) (B 166 _ rfl) (B 167 _ rfl)) fl_X12_280 rfl hM.k (n := 168) rfl ?_
    rw [em_b]
    refine Vw.if_ne (tgt := 175) (n := 171) (de_if_ne (B 168 _ rfl) (B 169 _ rfl) (B 170 _ rfl)) rfl rfl (fun c_168 => ?_) (fun c_168 => ?_)
    · refine Vw.iconst (v := 0) (de_iconst_0 (B 175 _ rfl)) rfl (n := 176) rfl ?_
      refine Vw.putZ (de_putfield (B 176 _ rfl) (B 177 _ rfl) (B 178 _ rfl)) fl_X12_452 hM.k rfl rfl rfl rfl (n := 179) rfl ?_
      refine Vw.iinc (v := nI (kk + 1)) (lv2 := [(0, _), (1, _), (2, _), (3, _), (4, _)]) (de_iinc (B 179 _ rfl) (B 180 _ rfl) (B 181 _ rfl)) 4 rfl (nI_1 kk) (by decide) [1, 2, 3, 4, 0] rfl (n := 182) rfl ?_
      refine Vw.goto_ (n := 118) (de_goto_ (B 182 _ rfl) (B 183 _ rfl) (B 184 _ rfl)) rfl ?_
      rw [em_up (by decide) (by decide)]
      first
      | exact next 0 (Or.inl rfl) ⟨fun _ => Or.inl c_161, fun _ => rfl⟩
      | exact next 0 (Or.inl rfl) ⟨fun _ => Or.inr c_168, fun _ => rfl⟩
      | exact next 1 (Or.inr rfl) ⟨fun q => absurd q (by decide), fun q => by rcases q with q | q; exact absurd q c_161; exact absurd c_168 q⟩
    refine Vw.iconst (v := 1) (de_iconst_1 (B 171 _ rfl)) rfl (n := 172) rfl ?_
    refine Vw.goto_ (n := 176) (de_goto_ (B 172 _ rfl) (B 173 _ rfl) (B 174 _ rfl)) rfl ?_
    refine Vw.putZ (de_putfield (B 176 _ rfl) (B 177 _ rfl) (B 178 _ rfl)) fl_X12_452 hM.k rfl rfl rfl rfl (n := 179) rfl ?_
    refine Vw.iinc (v := nI (kk + 1)) (lv2 := [(0, _), (1, _), (2, _), (3, _), (4, _)]) (de_iinc (B 179 _ rfl) (B 180 _ rfl) (B 181 _ rfl)) 4 rfl (nI_1 kk) (by decide) [1, 2, 3, 4, 0] rfl (n := 182) rfl ?_
    refine Vw.goto_ (n := 118) (de_goto_ (B 182 _ rfl) (B 183 _ rfl) (B 184 _ rfl)) rfl ?_
    rw [em_up (by decide) (by decide)]
    first
    | exact next 0 (Or.inl rfl) ⟨fun _ => Or.inl c_161, fun _ => rfl⟩
    | exact next 0 (Or.inl rfl) ⟨fun _ => Or.inr c_168, fun _ => rfl⟩
    | exact next 1 (Or.inr rfl) ⟨fun q => absurd q (by decide), fun q => by rcases q with q | q; exact absurd q c_161; exact absurd c_168 q⟩
  have two : ∀ J M b ww, OB I J r nt np cd vl (nvO (I (r + 2)) np (I r 44) (I r 45)) → Ls r L M → J r 48 = c.1 → J r 49 = 1 → ¬ cd k = 16 → pTwo cd vl true ww (k + 1) l = .ok (j0, l0, ab) → ¬ ww = 0 → Vw mX12_goesAlong (d + 42) 0 0 0 0 (VvQ Q) 118 [(0, .ref r), (1, .int (nI (2400 + nt))), (2, .int lv), (3, .int 2), (4, .int 0)] [] S (em J r (nI (2400 + (k + 1))) b) M := by
    intro J M b ww oJ fM hJ48 h49 hk6 hT hww
    obtain ⟨j1, l1, a, b2, k1, k2, k3, k4⟩ := pTwo_inv hT
    have e1 := Bd_sum h0 8 _ _ _ _ _ (show k + 1 ≤ nt from hkn) k1
    have e2 := Bd_lt h0 e1.2 (by rw [k2]; exact hww)
    have e3 := Bd_sum h0 8 _ _ _ _ _ (show j1 + 1 ≤ nt from e2) k3
    have two3 : ∀ J M s b, OB I J r nt np cd vl (nvO (I (r + 2)) np (I r 44) (I r 45)) → Ls r L M → J r 48 = c.1 → (s = 0 ∨ s = 1) → (lv = 1 → (s = 0 → c.2.1 (nvO (I (r + 2)) np (I r 44) (I r 45)) = none ∨ c.2.2.1 (nvO (I (r + 2)) np (I r 44) (I r 45)) = none) ∧ (¬ s = 0 → ∃ va vb, c.2.1 (nvO (I (r + 2)) np (I r 44) (I r 45)) = some va ∧ c.2.2.1 (nvO (I (r + 2)) np (I r 44) (I r 45)) = some vb ∧ (¬ c.1 = 16 → M (r + 25) 0 = va) ∧ (c.1 = 21 ∨ c.1 = 23 → M (r + 25) 1 = vb))) → Vw mX12_goesAlong (d + 42) 0 0 0 0 (VvQ Q) 118 [(0, .ref r), (1, .int (nI (2400 + nt))), (2, .int lv), (3, .int 2), (4, .int (nI (1 + 1)))] [] S (em (up2 J r 49 s) r (nI (2400 + j0)) b) M := by
      intro J M s b oJ fM hJ48 hs hg
      refine Vw.iload (de_iload (B 118 _ rfl) (B 119 _ rfl)) 4 rfl (n := 120) rfl ?_
      refine Vw.iload_n (de_iload_3 (B 120 _ rfl)) 3 rfl (n := 121) rfl ?_
      refine Vw.icmp_ge (tgt := 185) (n := 124) (de_icmp_ge (B 121 _ rfl) (B 122 _ rfl) (B 123 _ rfl)) rfl rfl (fun c_121 => ?_) (fun c_121 => ?_)
      · refine Vw.lvs (lv2 := [(0, _), (1, _), (2, _), (3, _)]) [0, 1, 2, 3] rfl ?_
        exact ti _ M b _ (oJ.up (by omega)) fM (by rw [up2_k (by decide)]; exact hJ48) (fun z => by rw [up2_s]; exact hg z)
      exact absurd (by decide) c_121
    have two2 : ∀ J M s b, OB I J r nt np cd vl (nvO (I (r + 2)) np (I r 44) (I r 45)) → Ls r L M → J r 48 = c.1 → J r 49 = 1 → (s = 0 ∨ s = 1) → (s = 0 ↔ J r 49 = 0 ∨ ¬ evB lv 0 a (nvO (I (r + 2)) np (I r 44) (I r 45)) = 0) → Vw mX12_goesAlong (d + 42) 0 0 0 0 (VvQ Q) 118 [(0, .ref r), (1, .int (nI (2400 + nt))), (2, .int lv), (3, .int 2), (4, .int (nI (0 + 1)))] [] S (em (up2 J r 49 s) r (nI (2400 + j1)) b) (up2 M (r + 25) 0 (evV lv 0 a (nvO (I (r + 2)) np (I r 44) (I r 45)))) := by
      intro J M s b oJ fM hJ48 h49 hs hs2
      refine Vw.iload (de_iload (B 118 _ rfl) (B 119 _ rfl)) 4 rfl (n := 120) rfl ?_
      refine Vw.iload_n (de_iload_3 (B 120 _ rfl)) 3 rfl (n := 121) rfl ?_
      refine Vw.icmp_ge (tgt := 185) (n := 124) (de_icmp_ge (B 121 _ rfl) (B 122 _ rfl) (B 123 _ rfl)) rfl rfl (fun c_121 => ?_) (fun c_121 => ?_)
      · exact absurd c_121 (by decide)
      refine Vw.iload (de_iload (B 124 _ rfl) (B 125 _ rfl)) 4 rfl (n := 126) rfl ?_
      refine Vw.if_le (tgt := 139) (n := 129) (de_if_le (B 126 _ rfl) (B 127 _ rfl) (B 128 _ rfl)) rfl rfl (fun c_126 => ?_) (fun c_126 => ?_)
      · exact absurd c_126 (by decide)
      refine Vw.aload_n (de_aload_0 (B 129 _ rfl)) 0 rfl (n := 130) rfl ?_
      refine Vw.dup (de_dup (B 130 _ rfl)) rfl (n := 131) rfl ?_
      refine Vw.getI (de_getfield (B 131 _ rfl) (B 132 _ rfl) (B 133 _ rfl)) fl_X12_270 rfl hM.k (n := 134) rfl ?_
      rw [em_g]
      refine Vw.iconst (v := 1) (de_iconst_1 (B 134 _ rfl)) rfl (n := 135) rfl ?_
      refine Vw.iadd (de_iadd (B 135 _ rfl)) (n := 136) rfl ?_
      refine Vw.putI (de_putfield (B 136 _ rfl) (B 137 _ rfl) (B 138 _ rfl)) fl_X12_270 hM.k rfl rfl (n := 139) rfl ?_
      rw [em_inc]
      refine sum1 _ _ b _ 1 (j1 + 1) l1 j0 l0 b2 (oJ.up (by omega)) (fun a k q => by rw [up2_a q]; exact fM a k q) (by decide) e2 k3 (by rw [up2_s]; exact hs) (fun s2 hs3 hs4 => ?_)
      exact two3 _ _ s2 _ (oJ.up (by omega)) (fun a k q => by rw [up2_a q, up2_a q]; exact fM a k q) (by rw [up2_k (by decide)]; exact hJ48) hs3 (fun z => by
        subst z
        have ka : c.2.1 = a := by rw [cv.2.1, k4]
        have kb : c.2.2.1 = b2 := by rw [cv.2.2, k4]
        rw [ka, kb]
        rw [up2_s] at hs4
        refine ⟨fun q => ?_, fun q => ?_⟩
        · rcases hs4.mp q with q | q
          · rcases hs2.mp q with q | q
            · rw [h49] at q; exact absurd q (by decide)
            · exact Or.inl (ev_s2 q)
          · exact Or.inr (ev_s2 q)
        · have g1 : ¬ s = 0 := fun z => q (hs4.mpr (Or.inl z))
          have g2 : evB 1 0 a (nvO (I (r + 2)) np (I r 44) (I r 45)) = 0 := Classical.byContradiction fun z => g1 (hs2.mpr (Or.inr z))
          have g3 : evB 1 0 b2 (nvO (I (r + 2)) np (I r 44) (I r 45)) = 0 := Classical.byContradiction fun z => q (hs4.mpr (Or.inr z))
          exact ⟨_, _, ev_s1 g2, ev_s1 g3, fun _ => by rw [up2_k (by decide), up2_s], fun _ => by rw [up2_s]⟩)
    refine Vw.iload (de_iload (B 118 _ rfl) (B 119 _ rfl)) 4 rfl (n := 120) rfl ?_
    refine Vw.iload_n (de_iload_3 (B 120 _ rfl)) 3 rfl (n := 121) rfl ?_
    refine Vw.icmp_ge (tgt := 185) (n := 124) (de_icmp_ge (B 121 _ rfl) (B 122 _ rfl) (B 123 _ rfl)) rfl rfl (fun c_121 => ?_) (fun c_121 => ?_)
    · exact absurd c_121 (by decide)
    refine Vw.iload (de_iload (B 124 _ rfl) (B 125 _ rfl)) 4 rfl (n := 126) rfl ?_
    refine Vw.if_le (tgt := 139) (n := 129) (de_if_le (B 126 _ rfl) (B 127 _ rfl) (B 128 _ rfl)) rfl rfl (fun c_126 => ?_) (fun c_126 => ?_)
    · refine sum1 J M b _ 0 (k + 1) l j1 l1 a oJ fM (by decide) hkn k1 (Or.inr h49) (fun s hs hs2 => ?_)
      exact two2 J M s _ oJ fM hJ48 h49 hs hs2
    exact absurd (by decide) c_126
  have one : ∀ J M b a, OB I J r nt np cd vl (nvO (I (r + 2)) np (I r 44) (I r 45)) → Ls r L M → J r 48 = c.1 → J r 49 = 1 → (cd k = 25 ∨ cd k = 26) → pSum cd vl true 8 (k + 1) l = .ok (j0, l0, a) → ab = (a, tD0) → Vw mX12_goesAlong (d + 42) 0 0 0 0 (VvQ Q) 118 [(0, .ref r), (1, .int (nI (2400 + nt))), (2, .int lv), (3, .int 1), (4, .int 0)] [] S (em J r (nI (2400 + (k + 1))) b) M := by
    intro J M b a oJ fM hJ48 h49 hk6 hS k4
    have one3 : ∀ J M s b, OB I J r nt np cd vl (nvO (I (r + 2)) np (I r 44) (I r 45)) → Ls r L M → J r 48 = c.1 → (s = 0 ∨ s = 1) → (lv = 1 → (s = 0 → c.2.1 (nvO (I (r + 2)) np (I r 44) (I r 45)) = none ∨ c.2.2.1 (nvO (I (r + 2)) np (I r 44) (I r 45)) = none) ∧ (¬ s = 0 → ∃ va vb, c.2.1 (nvO (I (r + 2)) np (I r 44) (I r 45)) = some va ∧ c.2.2.1 (nvO (I (r + 2)) np (I r 44) (I r 45)) = some vb ∧ (¬ c.1 = 16 → M (r + 25) 0 = va) ∧ (c.1 = 21 ∨ c.1 = 23 → M (r + 25) 1 = vb))) → Vw mX12_goesAlong (d + 42) 0 0 0 0 (VvQ Q) 118 [(0, .ref r), (1, .int (nI (2400 + nt))), (2, .int lv), (3, .int 1), (4, .int (nI (0 + 1)))] [] S (em (up2 J r 49 s) r (nI (2400 + j0)) b) M := by
      intro J M s b oJ fM hJ48 hs hg
      refine Vw.iload (de_iload (B 118 _ rfl) (B 119 _ rfl)) 4 rfl (n := 120) rfl ?_
      refine Vw.iload_n (de_iload_3 (B 120 _ rfl)) 3 rfl (n := 121) rfl ?_
      refine Vw.icmp_ge (tgt := 185) (n := 124) (de_icmp_ge (B 121 _ rfl) (B 122 _ rfl) (B 123 _ rfl)) rfl rfl (fun c_121 => ?_) (fun c_121 => ?_)
      · refine Vw.lvs (lv2 := [(0, _), (1, _), (2, _), (3, _)]) [0, 1, 2, 3] rfl ?_
        exact ti _ M b _ (oJ.up (by omega)) fM (by rw [up2_k (by decide)]; exact hJ48) (fun z => by rw [up2_s]; exact hg z)
      exact absurd (by decide) c_121
    refine Vw.iload (de_iload (B 118 _ rfl) (B 119 _ rfl)) 4 rfl (n := 120) rfl ?_
    refine Vw.iload_n (de_iload_3 (B 120 _ rfl)) 3 rfl (n := 121) rfl ?_
    refine Vw.icmp_ge (tgt := 185) (n := 124) (de_icmp_ge (B 121 _ rfl) (B 122 _ rfl) (B 123 _ rfl)) rfl rfl (fun c_121 => ?_) (fun c_121 => ?_)
    · exact absurd c_121 (by decide)
    refine Vw.iload (de_iload (B 124 _ rfl) (B 125 _ rfl)) 4 rfl (n := 126) rfl ?_
    refine Vw.if_le (tgt := 139) (n := 129) (de_if_le (B 126 _ rfl) (B 127 _ rfl) (B 128 _ rfl)) rfl rfl (fun c_126 => ?_) (fun c_126 => ?_)
    · refine sum1 J M b _ 0 (k + 1) l j0 l0 a oJ fM (by decide) hkn hS (Or.inr h49) (fun s hs hs2 => ?_)
      refine one3 _ _ s _ oJ (fun a k q => by rw [up2_a q]; exact fM a k q) hJ48 hs (fun z => ?_)
      subst z
      have ka : c.2.1 = a := by rw [cv.2.1, k4]
      have kb : c.2.2.1 = tD0 := by rw [cv.2.2, k4]
      rw [ka, kb]
      refine ⟨fun q => ?_, fun q => ?_⟩
      · rcases hs2.mp q with q | q
        · rw [h49] at q; exact absurd q (by decide)
        · exact Or.inl (ev_s2 q)
      · have g2 : evB 1 0 a (nvO (I (r + 2)) np (I r 44) (I r 45)) = 0 := Classical.byContradiction fun z => q (hs2.mpr (Or.inr z))
        exact ⟨_, 0, ev_s1 g2, rfl, fun _ => by rw [up2_s], fun z => by
          rw [cv.1] at z
          rcases hk6 with e | e <;> rw [e] at z <;> exact absurd z (by decide)⟩
    exact absurd (by decide) c_126
  have oB : OB I (up2 (up2 (up2 (up2 (up2 I r 23 1) r 21 (nI (2400 + nt))) (r + 13) 0 (I (r + 2) 121)) (r + 13) 1 (I r 44)) (r + 13) 2 (I r 45)) r nt np cd vl (nvO (I (r + 2)) np (I r 44) (I r 45)) := by
    refine ⟨fun a i q1 q2 => by rw [up2_a q2, up2_a q2, up2_a q2, up2_n (by omega), up2_n (by omega)], ⟨fun i hi => ?_, h0, hnt, by decide, ?_⟩, ⟨?_, fun z => (by cases z), fun _ => ⟨fun x hx => ?_, fun q hq => ?_⟩, ?_, hnp⟩⟩
    · simp (disch := omega) only [up2_a]; exact hrow i hi
    · simp (disch := omega) only [up2_a, up2_s]
    · simp (disch := omega) only [up2_a, up2_k, up2_s]; rfl
    · have h3 : x = 0 ∨ x = 1 ∨ x = 2 := by omega
      rcases h3 with rfl | rfl | rfl <;> simp (disch := omega) only [up2_k, up2_s] <;> rfl
    · simp (disch := omega) only [up2_a]
      exact ⟨nvO_3 hq, nvO_11⟩
    · simp (disch := omega) only [up2_a]; exact h142

  rcases pHead_inv hH with ⟨h1, h2⟩ | ⟨h1, h2⟩ | ⟨h1, a, h2, h3⟩ | ⟨h1, h2, h3⟩
  · skip
    refine Vw.aload_n (de_aload_0 (B 0 _ rfl)) 0 rfl (n := 1) rfl ?_
    refine Vw.iconst (v := 1) (de_iconst_1 (B 1 _ rfl)) rfl (n := 2) rfl ?_
    refine Vw.putZ (de_putfield (B 2 _ rfl) (B 3 _ rfl) (B 4 _ rfl)) fl_X12_300 hM.k rfl rfl rfl rfl (n := 5) rfl ?_
    refine Vw.aload_n (de_aload_0 (B 5 _ rfl)) 0 rfl (n := 6) rfl ?_
    refine Vw.iload_n (de_iload_1 (B 6 _ rfl)) 1 rfl (n := 7) rfl ?_
    refine Vw.putI (de_putfield (B 7 _ rfl) (B 8 _ rfl) (B 9 _ rfl)) fl_X12_267 hM.k rfl rfl (n := 10) rfl ?_
    refine Vw.aload_n (de_aload_0 (B 10 _ rfl)) 0 rfl (n := 11) rfl ?_
    refine Vw.getR (de_getfield (B 11 _ rfl) (B 12 _ rfl) (B 13 _ rfl)) fl_X12_62 rfl hM.k (MS_orderValues hM).1 (n := 14) rfl ?_
    refine Vw.iconst (v := 0) (de_iconst_0 (B 14 _ rfl)) rfl (n := 15) rfl ?_
    refine Vw.aload_n (de_aload_0 (B 15 _ rfl)) 0 rfl (n := 16) rfl ?_
    refine Vw.getR (de_getfield (B 16 _ rfl) (B 17 _ rfl) (B 18 _ rfl)) fl_X12_24 rfl hM.k (MS_kept hM).1 (n := 19) rfl ?_
    refine Vw.bipush (v := 121) (de_bipush (B 19 _ rfl) (B 20 _ rfl)) rfl (n := 21) rfl ?_
    refine Vw.iald (de_iaload (B 21 _ rfl)) (MS_kept hM).2 (j := 121) ⟨rfl, by decide, by decide⟩ (n := 22) rfl ?_
    rw [up2_a (show r + 2 ≠ r by omega), up2_a (show r + 2 ≠ r by omega)]
    refine Vw.iast (de_iastore (B 22 _ rfl)) (MS_orderValues hM).2 (j := 0) ⟨rfl, by decide, by decide⟩ (n := 23) rfl ?_
    refine Vw.aload_n (de_aload_0 (B 23 _ rfl)) 0 rfl (n := 24) rfl ?_
    refine Vw.getR (de_getfield (B 24 _ rfl) (B 25 _ rfl) (B 26 _ rfl)) fl_X12_62 rfl hM.k (MS_orderValues hM).1 (n := 27) rfl ?_
    refine Vw.iconst (v := 1) (de_iconst_1 (B 27 _ rfl)) rfl (n := 28) rfl ?_
    refine Vw.aload_n (de_aload_0 (B 28 _ rfl)) 0 rfl (n := 29) rfl ?_
    refine Vw.getI (de_getfield (B 29 _ rfl) (B 30 _ rfl) (B 31 _ rfl)) fl_X12_434 rfl hM.k (n := 32) rfl ?_
    rw [up2_a (show r ≠ r + 13 by omega), up2_k (by decide), up2_k (by decide)]
    refine Vw.iast (de_iastore (B 32 _ rfl)) (MS_orderValues hM).2 (j := 1) ⟨rfl, by decide, by decide⟩ (n := 33) rfl ?_
    refine Vw.aload_n (de_aload_0 (B 33 _ rfl)) 0 rfl (n := 34) rfl ?_
    refine Vw.getR (de_getfield (B 34 _ rfl) (B 35 _ rfl) (B 36 _ rfl)) fl_X12_62 rfl hM.k (MS_orderValues hM).1 (n := 37) rfl ?_
    refine Vw.iconst (v := 2) (de_iconst_2 (B 37 _ rfl)) rfl (n := 38) rfl ?_
    refine Vw.aload_n (de_aload_0 (B 38 _ rfl)) 0 rfl (n := 39) rfl ?_
    refine Vw.getI (de_getfield (B 39 _ rfl) (B 40 _ rfl) (B 41 _ rfl)) fl_X12_437 rfl hM.k (n := 42) rfl ?_
    rw [up2_a (show r ≠ r + 13 by omega), up2_a (show r ≠ r + 13 by omega), up2_k (by decide), up2_k (by decide)]
    refine Vw.iast (de_iastore (B 42 _ rfl)) (MS_orderValues hM).2 (j := 2) ⟨rfl, by decide, by decide⟩ (n := 43) rfl ?_
    refine Vw.aload_n (de_aload_0 (B 43 _ rfl)) 0 rfl (n := 44) rfl ?_
    refine Vw.aload_n (de_aload_0 (B 44 _ rfl)) 0 rfl (n := 45) rfl ?_
    refine Vw.getI (de_getfield (B 45 _ rfl) (B 46 _ rfl) (B 47 _ rfl)) fl_X12_440 rfl hM.k (n := 48) rfl ?_
    rw [up2_a (show r ≠ r + 13 by omega), up2_a (show r ≠ r + 13 by omega), up2_a (show r ≠ r + 13 by omega), up2_k (by decide), up2_k (by decide), hat]
    refine Vw.putI (de_putfield (B 48 _ rfl) (B 49 _ rfl) (B 50 _ rfl)) fl_X12_270 hM.k rfl rfl (n := 51) rfl ?_
    rw [em_1]
    refine Vw.aload_n (de_aload_0 (B 51 _ rfl)) 0 rfl (n := 52) rfl ?_
    refine Vw.aload_n (de_aload_0 (B 52 _ rfl)) 0 rfl (n := 53) rfl ?_
    refine Vw.aload_n (de_aload_0 (B 53 _ rfl)) 0 rfl (n := 54) rfl ?_
    refine Vw.getI (de_getfield (B 54 _ rfl) (B 55 _ rfl) (B 56 _ rfl)) fl_X12_270 rfl hM.k (n := 57) rfl ?_
    rw [em_g]
    refine Vw.ivi1 (mi' := mX12_codeAt) (de_invokevirtual (B 57 _ rfl) (B 58 _ rfl) (B 59 _ rfl)) ml_X12_273 mv_X12_codeAt hM.k (Nat.le_of_ble_eq_true rfl) (n := 60) rfl (c_X12_codeAt hM oB.2.1 hk ?_)
    refine Vw.putI (de_putfield (B 60 _ rfl) (B 61 _ rfl) (B 62 _ rfl)) fl_X12_449 hM.k rfl rfl (n := 63) rfl ?_
    rw [em_up (by decide) (by decide)]
    refine Vw.aload_n (de_aload_0 (B 63 _ rfl)) 0 rfl (n := 64) rfl ?_
    refine Vw.dup (de_dup (B 64 _ rfl)) rfl (n := 65) rfl ?_
    refine Vw.getI (de_getfield (B 65 _ rfl) (B 66 _ rfl) (B 67 _ rfl)) fl_X12_270 rfl hM.k (n := 68) rfl ?_
    rw [em_g]
    refine Vw.iconst (v := 1) (de_iconst_1 (B 68 _ rfl)) rfl (n := 69) rfl ?_
    refine Vw.iadd (de_iadd (B 69 _ rfl)) (n := 70) rfl ?_
    refine Vw.putI (de_putfield (B 70 _ rfl) (B 71 _ rfl) (B 72 _ rfl)) fl_X12_270 hM.k rfl rfl (n := 73) rfl ?_
    rw [em_inc]
    refine Vw.aload_n (de_aload_0 (B 73 _ rfl)) 0 rfl (n := 74) rfl ?_
    refine Vw.iconst (v := 1) (de_iconst_1 (B 74 _ rfl)) rfl (n := 75) rfl ?_
    refine Vw.putZ (de_putfield (B 75 _ rfl) (B 76 _ rfl) (B 77 _ rfl)) fl_X12_452 hM.k rfl rfl rfl rfl (n := 78) rfl ?_
    rw [em_up (by decide) (by decide)]
    refine Vw.aload_n (de_aload_0 (B 78 _ rfl)) 0 rfl (n := 79) rfl ?_
    refine Vw.getI (de_getfield (B 79 _ rfl) (B 80 _ rfl) (B 81 _ rfl)) fl_X12_449 rfl hM.k (n := 82) rfl ?_
    rw [em_k (by decide) (by decide), up2_k (by decide), up2_s]
    refine Vw.bipush (v := 16) (de_bipush (B 82 _ rfl) (B 83 _ rfl)) rfl (n := 84) rfl ?_
    refine Vw.icmp_ne (tgt := 91) (n := 87) (de_icmp_ne (B 84 _ rfl) (B 85 _ rfl) (B 86 _ rfl)) rfl rfl (fun c_84 => ?_) (fun c_84 => ?_)
    · refine Vw.aload_n (de_aload_0 (B 91 _ rfl)) 0 rfl (n := 92) rfl ?_
      refine Vw.getI (de_getfield (B 92 _ rfl) (B 93 _ rfl) (B 94 _ rfl)) fl_X12_449 rfl hM.k (n := 95) rfl ?_
      rw [em_k (by decide) (by decide), up2_k (by decide), up2_s]
      refine Vw.bipush (v := 21) (de_bipush (B 95 _ rfl) (B 96 _ rfl)) rfl (n := 97) rfl ?_
      refine Vw.icmp_eq (tgt := 109) (n := 100) (de_icmp_eq (B 97 _ rfl) (B 98 _ rfl) (B 99 _ rfl)) rfl rfl (fun c_97 => ?_) (fun c_97 => ?_)
      · refine Vw.iconst (v := 2) (de_iconst_2 (B 109 _ rfl)) rfl (n := 110) rfl ?_
        refine Vw.goto_ (n := 114) (de_goto_ (B 110 _ rfl) (B 111 _ rfl) (B 112 _ rfl)) rfl ?_
        refine Vw.istore_n (lv2 := [(0, _), (1, _), (2, _), (3, _)]) (de_istore_3 (B 114 _ rfl)) rfl (by decide) [1, 2, 3, 0] rfl (n := 115) rfl ?_
        refine Vw.iconst (v := 0) (de_iconst_0 (B 115 _ rfl)) rfl (n := 116) rfl ?_
        refine Vw.istore (lv2 := [(0, _), (1, _), (2, _), (3, _), (4, _)]) (de_istore (B 116 _ rfl) (B 117 _ rfl)) (by decide) [1, 2, 3, 4, 0] rfl (n := 118) rfl ?_
        exact two _ L _ 22 ((oB.up (by omega)).up (by omega)) (fun _ _ _ => rfl) (by rw [up2_k (by decide), up2_s]; exact cv.1.symm) (up2_s _ _ _ _) (by rw [h1]; decide) h2 (by decide)
      exact absurd h1 c_97
    exact absurd (h1.symm.trans c_84) (by decide)
  · skip
    refine Vw.aload_n (de_aload_0 (B 0 _ rfl)) 0 rfl (n := 1) rfl ?_
    refine Vw.iconst (v := 1) (de_iconst_1 (B 1 _ rfl)) rfl (n := 2) rfl ?_
    refine Vw.putZ (de_putfield (B 2 _ rfl) (B 3 _ rfl) (B 4 _ rfl)) fl_X12_300 hM.k rfl rfl rfl rfl (n := 5) rfl ?_
    refine Vw.aload_n (de_aload_0 (B 5 _ rfl)) 0 rfl (n := 6) rfl ?_
    refine Vw.iload_n (de_iload_1 (B 6 _ rfl)) 1 rfl (n := 7) rfl ?_
    refine Vw.putI (de_putfield (B 7 _ rfl) (B 8 _ rfl) (B 9 _ rfl)) fl_X12_267 hM.k rfl rfl (n := 10) rfl ?_
    refine Vw.aload_n (de_aload_0 (B 10 _ rfl)) 0 rfl (n := 11) rfl ?_
    refine Vw.getR (de_getfield (B 11 _ rfl) (B 12 _ rfl) (B 13 _ rfl)) fl_X12_62 rfl hM.k (MS_orderValues hM).1 (n := 14) rfl ?_
    refine Vw.iconst (v := 0) (de_iconst_0 (B 14 _ rfl)) rfl (n := 15) rfl ?_
    refine Vw.aload_n (de_aload_0 (B 15 _ rfl)) 0 rfl (n := 16) rfl ?_
    refine Vw.getR (de_getfield (B 16 _ rfl) (B 17 _ rfl) (B 18 _ rfl)) fl_X12_24 rfl hM.k (MS_kept hM).1 (n := 19) rfl ?_
    refine Vw.bipush (v := 121) (de_bipush (B 19 _ rfl) (B 20 _ rfl)) rfl (n := 21) rfl ?_
    refine Vw.iald (de_iaload (B 21 _ rfl)) (MS_kept hM).2 (j := 121) ⟨rfl, by decide, by decide⟩ (n := 22) rfl ?_
    rw [up2_a (show r + 2 ≠ r by omega), up2_a (show r + 2 ≠ r by omega)]
    refine Vw.iast (de_iastore (B 22 _ rfl)) (MS_orderValues hM).2 (j := 0) ⟨rfl, by decide, by decide⟩ (n := 23) rfl ?_
    refine Vw.aload_n (de_aload_0 (B 23 _ rfl)) 0 rfl (n := 24) rfl ?_
    refine Vw.getR (de_getfield (B 24 _ rfl) (B 25 _ rfl) (B 26 _ rfl)) fl_X12_62 rfl hM.k (MS_orderValues hM).1 (n := 27) rfl ?_
    refine Vw.iconst (v := 1) (de_iconst_1 (B 27 _ rfl)) rfl (n := 28) rfl ?_
    refine Vw.aload_n (de_aload_0 (B 28 _ rfl)) 0 rfl (n := 29) rfl ?_
    refine Vw.getI (de_getfield (B 29 _ rfl) (B 30 _ rfl) (B 31 _ rfl)) fl_X12_434 rfl hM.k (n := 32) rfl ?_
    rw [up2_a (show r ≠ r + 13 by omega), up2_k (by decide), up2_k (by decide)]
    refine Vw.iast (de_iastore (B 32 _ rfl)) (MS_orderValues hM).2 (j := 1) ⟨rfl, by decide, by decide⟩ (n := 33) rfl ?_
    refine Vw.aload_n (de_aload_0 (B 33 _ rfl)) 0 rfl (n := 34) rfl ?_
    refine Vw.getR (de_getfield (B 34 _ rfl) (B 35 _ rfl) (B 36 _ rfl)) fl_X12_62 rfl hM.k (MS_orderValues hM).1 (n := 37) rfl ?_
    refine Vw.iconst (v := 2) (de_iconst_2 (B 37 _ rfl)) rfl (n := 38) rfl ?_
    refine Vw.aload_n (de_aload_0 (B 38 _ rfl)) 0 rfl (n := 39) rfl ?_
    refine Vw.getI (de_getfield (B 39 _ rfl) (B 40 _ rfl) (B 41 _ rfl)) fl_X12_437 rfl hM.k (n := 42) rfl ?_
    rw [up2_a (show r ≠ r + 13 by omega), up2_a (show r ≠ r + 13 by omega), up2_k (by decide), up2_k (by decide)]
    refine Vw.iast (de_iastore (B 42 _ rfl)) (MS_orderValues hM).2 (j := 2) ⟨rfl, by decide, by decide⟩ (n := 43) rfl ?_
    refine Vw.aload_n (de_aload_0 (B 43 _ rfl)) 0 rfl (n := 44) rfl ?_
    refine Vw.aload_n (de_aload_0 (B 44 _ rfl)) 0 rfl (n := 45) rfl ?_
    refine Vw.getI (de_getfield (B 45 _ rfl) (B 46 _ rfl) (B 47 _ rfl)) fl_X12_440 rfl hM.k (n := 48) rfl ?_
    rw [up2_a (show r ≠ r + 13 by omega), up2_a (show r ≠ r + 13 by omega), up2_a (show r ≠ r + 13 by omega), up2_k (by decide), up2_k (by decide), hat]
    refine Vw.putI (de_putfield (B 48 _ rfl) (B 49 _ rfl) (B 50 _ rfl)) fl_X12_270 hM.k rfl rfl (n := 51) rfl ?_
    rw [em_1]
    refine Vw.aload_n (de_aload_0 (B 51 _ rfl)) 0 rfl (n := 52) rfl ?_
    refine Vw.aload_n (de_aload_0 (B 52 _ rfl)) 0 rfl (n := 53) rfl ?_
    refine Vw.aload_n (de_aload_0 (B 53 _ rfl)) 0 rfl (n := 54) rfl ?_
    refine Vw.getI (de_getfield (B 54 _ rfl) (B 55 _ rfl) (B 56 _ rfl)) fl_X12_270 rfl hM.k (n := 57) rfl ?_
    rw [em_g]
    refine Vw.ivi1 (mi' := mX12_codeAt) (de_invokevirtual (B 57 _ rfl) (B 58 _ rfl) (B 59 _ rfl)) ml_X12_273 mv_X12_codeAt hM.k (Nat.le_of_ble_eq_true rfl) (n := 60) rfl (c_X12_codeAt hM oB.2.1 hk ?_)
    refine Vw.putI (de_putfield (B 60 _ rfl) (B 61 _ rfl) (B 62 _ rfl)) fl_X12_449 hM.k rfl rfl (n := 63) rfl ?_
    rw [em_up (by decide) (by decide)]
    refine Vw.aload_n (de_aload_0 (B 63 _ rfl)) 0 rfl (n := 64) rfl ?_
    refine Vw.dup (de_dup (B 64 _ rfl)) rfl (n := 65) rfl ?_
    refine Vw.getI (de_getfield (B 65 _ rfl) (B 66 _ rfl) (B 67 _ rfl)) fl_X12_270 rfl hM.k (n := 68) rfl ?_
    rw [em_g]
    refine Vw.iconst (v := 1) (de_iconst_1 (B 68 _ rfl)) rfl (n := 69) rfl ?_
    refine Vw.iadd (de_iadd (B 69 _ rfl)) (n := 70) rfl ?_
    refine Vw.putI (de_putfield (B 70 _ rfl) (B 71 _ rfl) (B 72 _ rfl)) fl_X12_270 hM.k rfl rfl (n := 73) rfl ?_
    rw [em_inc]
    refine Vw.aload_n (de_aload_0 (B 73 _ rfl)) 0 rfl (n := 74) rfl ?_
    refine Vw.iconst (v := 1) (de_iconst_1 (B 74 _ rfl)) rfl (n := 75) rfl ?_
    refine Vw.putZ (de_putfield (B 75 _ rfl) (B 76 _ rfl) (B 77 _ rfl)) fl_X12_452 hM.k rfl rfl rfl rfl (n := 78) rfl ?_
    rw [em_up (by decide) (by decide)]
    refine Vw.aload_n (de_aload_0 (B 78 _ rfl)) 0 rfl (n := 79) rfl ?_
    refine Vw.getI (de_getfield (B 79 _ rfl) (B 80 _ rfl) (B 81 _ rfl)) fl_X12_449 rfl hM.k (n := 82) rfl ?_
    rw [em_k (by decide) (by decide), up2_k (by decide), up2_s]
    refine Vw.bipush (v := 16) (de_bipush (B 82 _ rfl) (B 83 _ rfl)) rfl (n := 84) rfl ?_
    refine Vw.icmp_ne (tgt := 91) (n := 87) (de_icmp_ne (B 84 _ rfl) (B 85 _ rfl) (B 86 _ rfl)) rfl rfl (fun c_84 => ?_) (fun c_84 => ?_)
    · refine Vw.aload_n (de_aload_0 (B 91 _ rfl)) 0 rfl (n := 92) rfl ?_
      refine Vw.getI (de_getfield (B 92 _ rfl) (B 93 _ rfl) (B 94 _ rfl)) fl_X12_449 rfl hM.k (n := 95) rfl ?_
      rw [em_k (by decide) (by decide), up2_k (by decide), up2_s]
      refine Vw.bipush (v := 21) (de_bipush (B 95 _ rfl) (B 96 _ rfl)) rfl (n := 97) rfl ?_
      refine Vw.icmp_eq (tgt := 109) (n := 100) (de_icmp_eq (B 97 _ rfl) (B 98 _ rfl) (B 99 _ rfl)) rfl rfl (fun c_97 => ?_) (fun c_97 => ?_)
      · exact absurd (h1.symm.trans c_97) (by decide)
      refine Vw.aload_n (de_aload_0 (B 100 _ rfl)) 0 rfl (n := 101) rfl ?_
      refine Vw.getI (de_getfield (B 101 _ rfl) (B 102 _ rfl) (B 103 _ rfl)) fl_X12_449 rfl hM.k (n := 104) rfl ?_
      rw [em_k (by decide) (by decide), up2_k (by decide), up2_s]
      refine Vw.bipush (v := 23) (de_bipush (B 104 _ rfl) (B 105 _ rfl)) rfl (n := 106) rfl ?_
      refine Vw.icmp_ne (tgt := 113) (n := 109) (de_icmp_ne (B 106 _ rfl) (B 107 _ rfl) (B 108 _ rfl)) rfl rfl (fun c_106 => ?_) (fun c_106 => ?_)
      · exact absurd h1 c_106
      refine Vw.iconst (v := 2) (de_iconst_2 (B 109 _ rfl)) rfl (n := 110) rfl ?_
      refine Vw.goto_ (n := 114) (de_goto_ (B 110 _ rfl) (B 111 _ rfl) (B 112 _ rfl)) rfl ?_
      refine Vw.istore_n (lv2 := [(0, _), (1, _), (2, _), (3, _)]) (de_istore_3 (B 114 _ rfl)) rfl (by decide) [1, 2, 3, 0] rfl (n := 115) rfl ?_
      refine Vw.iconst (v := 0) (de_iconst_0 (B 115 _ rfl)) rfl (n := 116) rfl ?_
      refine Vw.istore (lv2 := [(0, _), (1, _), (2, _), (3, _), (4, _)]) (de_istore (B 116 _ rfl) (B 117 _ rfl)) (by decide) [1, 2, 3, 4, 0] rfl (n := 118) rfl ?_
      exact two _ L _ 24 ((oB.up (by omega)).up (by omega)) (fun _ _ _ => rfl) (by rw [up2_k (by decide), up2_s]; exact cv.1.symm) (up2_s _ _ _ _) (by rw [h1]; decide) h2 (by decide)
    exact absurd (h1.symm.trans c_84) (by decide)
  · skip
    refine Vw.aload_n (de_aload_0 (B 0 _ rfl)) 0 rfl (n := 1) rfl ?_
    refine Vw.iconst (v := 1) (de_iconst_1 (B 1 _ rfl)) rfl (n := 2) rfl ?_
    refine Vw.putZ (de_putfield (B 2 _ rfl) (B 3 _ rfl) (B 4 _ rfl)) fl_X12_300 hM.k rfl rfl rfl rfl (n := 5) rfl ?_
    refine Vw.aload_n (de_aload_0 (B 5 _ rfl)) 0 rfl (n := 6) rfl ?_
    refine Vw.iload_n (de_iload_1 (B 6 _ rfl)) 1 rfl (n := 7) rfl ?_
    refine Vw.putI (de_putfield (B 7 _ rfl) (B 8 _ rfl) (B 9 _ rfl)) fl_X12_267 hM.k rfl rfl (n := 10) rfl ?_
    refine Vw.aload_n (de_aload_0 (B 10 _ rfl)) 0 rfl (n := 11) rfl ?_
    refine Vw.getR (de_getfield (B 11 _ rfl) (B 12 _ rfl) (B 13 _ rfl)) fl_X12_62 rfl hM.k (MS_orderValues hM).1 (n := 14) rfl ?_
    refine Vw.iconst (v := 0) (de_iconst_0 (B 14 _ rfl)) rfl (n := 15) rfl ?_
    refine Vw.aload_n (de_aload_0 (B 15 _ rfl)) 0 rfl (n := 16) rfl ?_
    refine Vw.getR (de_getfield (B 16 _ rfl) (B 17 _ rfl) (B 18 _ rfl)) fl_X12_24 rfl hM.k (MS_kept hM).1 (n := 19) rfl ?_
    refine Vw.bipush (v := 121) (de_bipush (B 19 _ rfl) (B 20 _ rfl)) rfl (n := 21) rfl ?_
    refine Vw.iald (de_iaload (B 21 _ rfl)) (MS_kept hM).2 (j := 121) ⟨rfl, by decide, by decide⟩ (n := 22) rfl ?_
    rw [up2_a (show r + 2 ≠ r by omega), up2_a (show r + 2 ≠ r by omega)]
    refine Vw.iast (de_iastore (B 22 _ rfl)) (MS_orderValues hM).2 (j := 0) ⟨rfl, by decide, by decide⟩ (n := 23) rfl ?_
    refine Vw.aload_n (de_aload_0 (B 23 _ rfl)) 0 rfl (n := 24) rfl ?_
    refine Vw.getR (de_getfield (B 24 _ rfl) (B 25 _ rfl) (B 26 _ rfl)) fl_X12_62 rfl hM.k (MS_orderValues hM).1 (n := 27) rfl ?_
    refine Vw.iconst (v := 1) (de_iconst_1 (B 27 _ rfl)) rfl (n := 28) rfl ?_
    refine Vw.aload_n (de_aload_0 (B 28 _ rfl)) 0 rfl (n := 29) rfl ?_
    refine Vw.getI (de_getfield (B 29 _ rfl) (B 30 _ rfl) (B 31 _ rfl)) fl_X12_434 rfl hM.k (n := 32) rfl ?_
    rw [up2_a (show r ≠ r + 13 by omega), up2_k (by decide), up2_k (by decide)]
    refine Vw.iast (de_iastore (B 32 _ rfl)) (MS_orderValues hM).2 (j := 1) ⟨rfl, by decide, by decide⟩ (n := 33) rfl ?_
    refine Vw.aload_n (de_aload_0 (B 33 _ rfl)) 0 rfl (n := 34) rfl ?_
    refine Vw.getR (de_getfield (B 34 _ rfl) (B 35 _ rfl) (B 36 _ rfl)) fl_X12_62 rfl hM.k (MS_orderValues hM).1 (n := 37) rfl ?_
    refine Vw.iconst (v := 2) (de_iconst_2 (B 37 _ rfl)) rfl (n := 38) rfl ?_
    refine Vw.aload_n (de_aload_0 (B 38 _ rfl)) 0 rfl (n := 39) rfl ?_
    refine Vw.getI (de_getfield (B 39 _ rfl) (B 40 _ rfl) (B 41 _ rfl)) fl_X12_437 rfl hM.k (n := 42) rfl ?_
    rw [up2_a (show r ≠ r + 13 by omega), up2_a (show r ≠ r + 13 by omega), up2_k (by decide), up2_k (by decide)]
    refine Vw.iast (de_iastore (B 42 _ rfl)) (MS_orderValues hM).2 (j := 2) ⟨rfl, by decide, by decide⟩ (n := 43) rfl ?_
    refine Vw.aload_n (de_aload_0 (B 43 _ rfl)) 0 rfl (n := 44) rfl ?_
    refine Vw.aload_n (de_aload_0 (B 44 _ rfl)) 0 rfl (n := 45) rfl ?_
    refine Vw.getI (de_getfield (B 45 _ rfl) (B 46 _ rfl) (B 47 _ rfl)) fl_X12_440 rfl hM.k (n := 48) rfl ?_
    rw [up2_a (show r ≠ r + 13 by omega), up2_a (show r ≠ r + 13 by omega), up2_a (show r ≠ r + 13 by omega), up2_k (by decide), up2_k (by decide), hat]
    refine Vw.putI (de_putfield (B 48 _ rfl) (B 49 _ rfl) (B 50 _ rfl)) fl_X12_270 hM.k rfl rfl (n := 51) rfl ?_
    rw [em_1]
    refine Vw.aload_n (de_aload_0 (B 51 _ rfl)) 0 rfl (n := 52) rfl ?_
    refine Vw.aload_n (de_aload_0 (B 52 _ rfl)) 0 rfl (n := 53) rfl ?_
    refine Vw.aload_n (de_aload_0 (B 53 _ rfl)) 0 rfl (n := 54) rfl ?_
    refine Vw.getI (de_getfield (B 54 _ rfl) (B 55 _ rfl) (B 56 _ rfl)) fl_X12_270 rfl hM.k (n := 57) rfl ?_
    rw [em_g]
    refine Vw.ivi1 (mi' := mX12_codeAt) (de_invokevirtual (B 57 _ rfl) (B 58 _ rfl) (B 59 _ rfl)) ml_X12_273 mv_X12_codeAt hM.k (Nat.le_of_ble_eq_true rfl) (n := 60) rfl (c_X12_codeAt hM oB.2.1 hk ?_)
    refine Vw.putI (de_putfield (B 60 _ rfl) (B 61 _ rfl) (B 62 _ rfl)) fl_X12_449 hM.k rfl rfl (n := 63) rfl ?_
    rw [em_up (by decide) (by decide)]
    refine Vw.aload_n (de_aload_0 (B 63 _ rfl)) 0 rfl (n := 64) rfl ?_
    refine Vw.dup (de_dup (B 64 _ rfl)) rfl (n := 65) rfl ?_
    refine Vw.getI (de_getfield (B 65 _ rfl) (B 66 _ rfl) (B 67 _ rfl)) fl_X12_270 rfl hM.k (n := 68) rfl ?_
    rw [em_g]
    refine Vw.iconst (v := 1) (de_iconst_1 (B 68 _ rfl)) rfl (n := 69) rfl ?_
    refine Vw.iadd (de_iadd (B 69 _ rfl)) (n := 70) rfl ?_
    refine Vw.putI (de_putfield (B 70 _ rfl) (B 71 _ rfl) (B 72 _ rfl)) fl_X12_270 hM.k rfl rfl (n := 73) rfl ?_
    rw [em_inc]
    refine Vw.aload_n (de_aload_0 (B 73 _ rfl)) 0 rfl (n := 74) rfl ?_
    refine Vw.iconst (v := 1) (de_iconst_1 (B 74 _ rfl)) rfl (n := 75) rfl ?_
    refine Vw.putZ (de_putfield (B 75 _ rfl) (B 76 _ rfl) (B 77 _ rfl)) fl_X12_452 hM.k rfl rfl rfl rfl (n := 78) rfl ?_
    rw [em_up (by decide) (by decide)]
    refine Vw.aload_n (de_aload_0 (B 78 _ rfl)) 0 rfl (n := 79) rfl ?_
    refine Vw.getI (de_getfield (B 79 _ rfl) (B 80 _ rfl) (B 81 _ rfl)) fl_X12_449 rfl hM.k (n := 82) rfl ?_
    rw [em_k (by decide) (by decide), up2_k (by decide), up2_s]
    refine Vw.bipush (v := 16) (de_bipush (B 82 _ rfl) (B 83 _ rfl)) rfl (n := 84) rfl ?_
    refine Vw.icmp_ne (tgt := 91) (n := 87) (de_icmp_ne (B 84 _ rfl) (B 85 _ rfl) (B 86 _ rfl)) rfl rfl (fun c_84 => ?_) (fun c_84 => ?_)
    · refine Vw.aload_n (de_aload_0 (B 91 _ rfl)) 0 rfl (n := 92) rfl ?_
      refine Vw.getI (de_getfield (B 92 _ rfl) (B 93 _ rfl) (B 94 _ rfl)) fl_X12_449 rfl hM.k (n := 95) rfl ?_
      rw [em_k (by decide) (by decide), up2_k (by decide), up2_s]
      refine Vw.bipush (v := 21) (de_bipush (B 95 _ rfl) (B 96 _ rfl)) rfl (n := 97) rfl ?_
      refine Vw.icmp_eq (tgt := 109) (n := 100) (de_icmp_eq (B 97 _ rfl) (B 98 _ rfl) (B 99 _ rfl)) rfl rfl (fun c_97 => ?_) (fun c_97 => ?_)
      · rcases h1 with e | e <;> exact absurd (e.symm.trans c_97) (by decide)
      refine Vw.aload_n (de_aload_0 (B 100 _ rfl)) 0 rfl (n := 101) rfl ?_
      refine Vw.getI (de_getfield (B 101 _ rfl) (B 102 _ rfl) (B 103 _ rfl)) fl_X12_449 rfl hM.k (n := 104) rfl ?_
      rw [em_k (by decide) (by decide), up2_k (by decide), up2_s]
      refine Vw.bipush (v := 23) (de_bipush (B 104 _ rfl) (B 105 _ rfl)) rfl (n := 106) rfl ?_
      refine Vw.icmp_ne (tgt := 113) (n := 109) (de_icmp_ne (B 106 _ rfl) (B 107 _ rfl) (B 108 _ rfl)) rfl rfl (fun c_106 => ?_) (fun c_106 => ?_)
      · refine Vw.iconst (v := 1) (de_iconst_1 (B 113 _ rfl)) rfl (n := 114) rfl ?_
        refine Vw.istore_n (lv2 := [(0, _), (1, _), (2, _), (3, _)]) (de_istore_3 (B 114 _ rfl)) rfl (by decide) [1, 2, 3, 0] rfl (n := 115) rfl ?_
        refine Vw.iconst (v := 0) (de_iconst_0 (B 115 _ rfl)) rfl (n := 116) rfl ?_
        refine Vw.istore (lv2 := [(0, _), (1, _), (2, _), (3, _), (4, _)]) (de_istore (B 116 _ rfl) (B 117 _ rfl)) (by decide) [1, 2, 3, 4, 0] rfl (n := 118) rfl ?_
        exact one _ L _ a ((oB.up (by omega)).up (by omega)) (fun _ _ _ => rfl) (by rw [up2_k (by decide), up2_s]; exact cv.1.symm) (up2_s _ _ _ _) h1 h2 h3
      rcases h1 with e | e <;> exact absurd (e.symm.trans c_106) (by decide)
    rcases h1 with e | e <;> exact absurd (e.symm.trans c_84) (by decide)
  · subst h2
    refine Vw.aload_n (de_aload_0 (B 0 _ rfl)) 0 rfl (n := 1) rfl ?_
    refine Vw.iconst (v := 1) (de_iconst_1 (B 1 _ rfl)) rfl (n := 2) rfl ?_
    refine Vw.putZ (de_putfield (B 2 _ rfl) (B 3 _ rfl) (B 4 _ rfl)) fl_X12_300 hM.k rfl rfl rfl rfl (n := 5) rfl ?_
    refine Vw.aload_n (de_aload_0 (B 5 _ rfl)) 0 rfl (n := 6) rfl ?_
    refine Vw.iload_n (de_iload_1 (B 6 _ rfl)) 1 rfl (n := 7) rfl ?_
    refine Vw.putI (de_putfield (B 7 _ rfl) (B 8 _ rfl) (B 9 _ rfl)) fl_X12_267 hM.k rfl rfl (n := 10) rfl ?_
    refine Vw.aload_n (de_aload_0 (B 10 _ rfl)) 0 rfl (n := 11) rfl ?_
    refine Vw.getR (de_getfield (B 11 _ rfl) (B 12 _ rfl) (B 13 _ rfl)) fl_X12_62 rfl hM.k (MS_orderValues hM).1 (n := 14) rfl ?_
    refine Vw.iconst (v := 0) (de_iconst_0 (B 14 _ rfl)) rfl (n := 15) rfl ?_
    refine Vw.aload_n (de_aload_0 (B 15 _ rfl)) 0 rfl (n := 16) rfl ?_
    refine Vw.getR (de_getfield (B 16 _ rfl) (B 17 _ rfl) (B 18 _ rfl)) fl_X12_24 rfl hM.k (MS_kept hM).1 (n := 19) rfl ?_
    refine Vw.bipush (v := 121) (de_bipush (B 19 _ rfl) (B 20 _ rfl)) rfl (n := 21) rfl ?_
    refine Vw.iald (de_iaload (B 21 _ rfl)) (MS_kept hM).2 (j := 121) ⟨rfl, by decide, by decide⟩ (n := 22) rfl ?_
    rw [up2_a (show r + 2 ≠ r by omega), up2_a (show r + 2 ≠ r by omega)]
    refine Vw.iast (de_iastore (B 22 _ rfl)) (MS_orderValues hM).2 (j := 0) ⟨rfl, by decide, by decide⟩ (n := 23) rfl ?_
    refine Vw.aload_n (de_aload_0 (B 23 _ rfl)) 0 rfl (n := 24) rfl ?_
    refine Vw.getR (de_getfield (B 24 _ rfl) (B 25 _ rfl) (B 26 _ rfl)) fl_X12_62 rfl hM.k (MS_orderValues hM).1 (n := 27) rfl ?_
    refine Vw.iconst (v := 1) (de_iconst_1 (B 27 _ rfl)) rfl (n := 28) rfl ?_
    refine Vw.aload_n (de_aload_0 (B 28 _ rfl)) 0 rfl (n := 29) rfl ?_
    refine Vw.getI (de_getfield (B 29 _ rfl) (B 30 _ rfl) (B 31 _ rfl)) fl_X12_434 rfl hM.k (n := 32) rfl ?_
    rw [up2_a (show r ≠ r + 13 by omega), up2_k (by decide), up2_k (by decide)]
    refine Vw.iast (de_iastore (B 32 _ rfl)) (MS_orderValues hM).2 (j := 1) ⟨rfl, by decide, by decide⟩ (n := 33) rfl ?_
    refine Vw.aload_n (de_aload_0 (B 33 _ rfl)) 0 rfl (n := 34) rfl ?_
    refine Vw.getR (de_getfield (B 34 _ rfl) (B 35 _ rfl) (B 36 _ rfl)) fl_X12_62 rfl hM.k (MS_orderValues hM).1 (n := 37) rfl ?_
    refine Vw.iconst (v := 2) (de_iconst_2 (B 37 _ rfl)) rfl (n := 38) rfl ?_
    refine Vw.aload_n (de_aload_0 (B 38 _ rfl)) 0 rfl (n := 39) rfl ?_
    refine Vw.getI (de_getfield (B 39 _ rfl) (B 40 _ rfl) (B 41 _ rfl)) fl_X12_437 rfl hM.k (n := 42) rfl ?_
    rw [up2_a (show r ≠ r + 13 by omega), up2_a (show r ≠ r + 13 by omega), up2_k (by decide), up2_k (by decide)]
    refine Vw.iast (de_iastore (B 42 _ rfl)) (MS_orderValues hM).2 (j := 2) ⟨rfl, by decide, by decide⟩ (n := 43) rfl ?_
    refine Vw.aload_n (de_aload_0 (B 43 _ rfl)) 0 rfl (n := 44) rfl ?_
    refine Vw.aload_n (de_aload_0 (B 44 _ rfl)) 0 rfl (n := 45) rfl ?_
    refine Vw.getI (de_getfield (B 45 _ rfl) (B 46 _ rfl) (B 47 _ rfl)) fl_X12_440 rfl hM.k (n := 48) rfl ?_
    rw [up2_a (show r ≠ r + 13 by omega), up2_a (show r ≠ r + 13 by omega), up2_a (show r ≠ r + 13 by omega), up2_k (by decide), up2_k (by decide), hat]
    refine Vw.putI (de_putfield (B 48 _ rfl) (B 49 _ rfl) (B 50 _ rfl)) fl_X12_270 hM.k rfl rfl (n := 51) rfl ?_
    rw [em_1]
    refine Vw.aload_n (de_aload_0 (B 51 _ rfl)) 0 rfl (n := 52) rfl ?_
    refine Vw.aload_n (de_aload_0 (B 52 _ rfl)) 0 rfl (n := 53) rfl ?_
    refine Vw.aload_n (de_aload_0 (B 53 _ rfl)) 0 rfl (n := 54) rfl ?_
    refine Vw.getI (de_getfield (B 54 _ rfl) (B 55 _ rfl) (B 56 _ rfl)) fl_X12_270 rfl hM.k (n := 57) rfl ?_
    rw [em_g]
    refine Vw.ivi1 (mi' := mX12_codeAt) (de_invokevirtual (B 57 _ rfl) (B 58 _ rfl) (B 59 _ rfl)) ml_X12_273 mv_X12_codeAt hM.k (Nat.le_of_ble_eq_true rfl) (n := 60) rfl (c_X12_codeAt hM oB.2.1 hk ?_)
    refine Vw.putI (de_putfield (B 60 _ rfl) (B 61 _ rfl) (B 62 _ rfl)) fl_X12_449 hM.k rfl rfl (n := 63) rfl ?_
    rw [em_up (by decide) (by decide)]
    refine Vw.aload_n (de_aload_0 (B 63 _ rfl)) 0 rfl (n := 64) rfl ?_
    refine Vw.dup (de_dup (B 64 _ rfl)) rfl (n := 65) rfl ?_
    refine Vw.getI (de_getfield (B 65 _ rfl) (B 66 _ rfl) (B 67 _ rfl)) fl_X12_270 rfl hM.k (n := 68) rfl ?_
    rw [em_g]
    refine Vw.iconst (v := 1) (de_iconst_1 (B 68 _ rfl)) rfl (n := 69) rfl ?_
    refine Vw.iadd (de_iadd (B 69 _ rfl)) (n := 70) rfl ?_
    refine Vw.putI (de_putfield (B 70 _ rfl) (B 71 _ rfl) (B 72 _ rfl)) fl_X12_270 hM.k rfl rfl (n := 73) rfl ?_
    rw [em_inc]
    refine Vw.aload_n (de_aload_0 (B 73 _ rfl)) 0 rfl (n := 74) rfl ?_
    refine Vw.iconst (v := 1) (de_iconst_1 (B 74 _ rfl)) rfl (n := 75) rfl ?_
    refine Vw.putZ (de_putfield (B 75 _ rfl) (B 76 _ rfl) (B 77 _ rfl)) fl_X12_452 hM.k rfl rfl rfl rfl (n := 78) rfl ?_
    rw [em_up (by decide) (by decide)]
    refine Vw.aload_n (de_aload_0 (B 78 _ rfl)) 0 rfl (n := 79) rfl ?_
    refine Vw.getI (de_getfield (B 79 _ rfl) (B 80 _ rfl) (B 81 _ rfl)) fl_X12_449 rfl hM.k (n := 82) rfl ?_
    rw [em_k (by decide) (by decide), up2_k (by decide), up2_s]
    refine Vw.bipush (v := 16) (de_bipush (B 82 _ rfl) (B 83 _ rfl)) rfl (n := 84) rfl ?_
    refine Vw.icmp_ne (tgt := 91) (n := 87) (de_icmp_ne (B 84 _ rfl) (B 85 _ rfl) (B 86 _ rfl)) rfl rfl (fun c_84 => ?_) (fun c_84 => ?_)
    · exact absurd h1 c_84
    refine Vw.iconst (v := 0) (de_iconst_0 (B 87 _ rfl)) rfl (n := 88) rfl ?_
    refine Vw.goto_ (n := 114) (de_goto_ (B 88 _ rfl) (B 89 _ rfl) (B 90 _ rfl)) rfl ?_
    refine Vw.istore_n (lv2 := [(0, _), (1, _), (2, _), (3, _)]) (de_istore_3 (B 114 _ rfl)) rfl (by decide) [1, 2, 3, 0] rfl (n := 115) rfl ?_
    refine Vw.iconst (v := 0) (de_iconst_0 (B 115 _ rfl)) rfl (n := 116) rfl ?_
    refine Vw.istore (lv2 := [(0, _), (1, _), (2, _), (3, _), (4, _)]) (de_istore (B 116 _ rfl) (B 117 _ rfl)) (by decide) [1, 2, 3, 4, 0] rfl (n := 118) rfl ?_
    refine Vw.iload (de_iload (B 118 _ rfl) (B 119 _ rfl)) 4 rfl (n := 120) rfl ?_
    refine Vw.iload_n (de_iload_3 (B 120 _ rfl)) 3 rfl (n := 121) rfl ?_
    refine Vw.icmp_ge (tgt := 185) (n := 124) (de_icmp_ge (B 121 _ rfl) (B 122 _ rfl) (B 123 _ rfl)) rfl rfl (fun c_121 => ?_) (fun c_121 => ?_)
    · refine Vw.lvs (lv2 := [(0, _), (1, _), (2, _), (3, _)]) [0, 1, 2, 3] rfl ?_
      refine ti _ L _ _ ((oB.up (by omega)).up (by omega)) (fun _ _ _ => rfl) (by rw [up2_k (by decide), up2_s]; exact cv.1.symm) (fun z => ?_)
      rw [up2_s]
      refine ⟨fun q => absurd q (by decide), fun _ => ⟨0, 0, ?_, ?_, ?_, ?_⟩⟩
      · rw [cv.2.1, h3]; rfl
      · rw [cv.2.2, h3]; rfl
      · intro q; exact absurd (cv.1.trans h1) q
      · intro q; rw [cv.1, h1] at q; exact absurd q (by decide)
    exact absurd (by decide) c_121
