/-! Texts: what is read lies before the end -/
section EXT
variable {cd cd' vl vl' : Nat → Int32} {o : Bool} {nt : Nat}
/-- two readers that read the same before the end -/
def PE {α : Type} (nt : Nat) (x y : Nat → Nat → tR α) : Prop := ∀ i l, i ≤ nt → x i l = y i l ∧ ∀ j l2 d, x i l = .ok (j, l2, d) → j ≤ nt
theorem ext_lt (h0 : cd nt = 0) {i : Nat} (hi : i ≤ nt) (h : ¬ cd i = 0) : i < nt := by
  rcases (show i < nt ∨ i = nt by omega) with z | z
  · exact z
  · rw [z] at h; exact absurd h0 h
theorem ext_c (h0 : cd nt = 0) {i : Nat} {v : Int32} (hi : i ≤ nt) (h : cd i = v) (hv : ¬ v = 0) : i < nt := ext_lt h0 hi (by rw [h]; exact hv)
theorem er_le {α : Type} {nt : Nat} {r : tR α} {e : Nat} (h : r = .error e) : ∀ j l2 d, r = .ok (j, l2, d) → j ≤ nt := fun j l2 d q => by rw [h] at q; cases q
theorem ok_le {α : Type} {nt : Nat} {r : tR α} {j0 l0 : Nat} {d0 : α} (h : r = .ok (j0, l0, d0)) (hj : j0 ≤ nt) : ∀ j l2 d, r = .ok (j, l2, d) → j ≤ nt := fun j l2 d q => by rw [h] at q; cases q; exact hj
theorem PE.part (h : ∀ i, i ≤ nt → cd' i = cd i) (hv : ∀ i, i < nt → vl' i = vl i) (h0 : cd nt = 0) {f f' : Option (Nat → Nat → tR tD)} (hf : (f = none ∧ f' = none) ∨ ∃ g g', f = some g ∧ f' = some g' ∧ PE nt g g') : PE nt (pPart cd vl o f) (pPart cd' vl' o f') := by
  intro i l hi
  unfold pPart
  rw [h i hi]
  by_cases c1 : cd i = 191
  · have i1 := ext_c h0 hi c1 (by decide)
    rw [if_pos c1, if_pos c1]
    rcases hf with ⟨rfl, rfl⟩ | ⟨g, g', rfl, rfl, hg⟩
    · exact ⟨rfl, er_le rfl⟩
    · dsimp only
      obtain ⟨q1, q2⟩ := hg (i + 1) l (by omega)
      rw [← q1]
      cases hq : g (i + 1) l with
      | error e => exact ⟨rfl, er_le rfl⟩
      | ok z =>
        obtain ⟨j, l2, d⟩ := z
        dsimp only
        have jn := q2 j l2 d hq
        rw [h j jn]
        by_cases c2 : cd j = 193
        · have := ext_c h0 jn c2 (by decide)
          rw [if_pos c2]; exact ⟨rfl, ok_le rfl (by omega)⟩
        · rw [if_neg c2]; exact ⟨rfl, er_le rfl⟩
  · rw [if_neg c1, if_neg c1]
    by_cases z : cd i = 0
    · have n1 : ∀ w : Int32, ¬ ((cd i = 50 ∧ w ≤ 1000) ∨ isVal o (cd i) = true) := fun w q => by
        rw [z] at q
        rcases q with q | q
        · exact absurd q.1 (by decide)
        · cases o <;> exact absurd q (by decide)
      rw [if_neg (n1 _), if_neg (n1 _)]; exact ⟨rfl, er_le rfl⟩
    · have i1 := ext_lt h0 hi z
      rw [hv i i1]
      by_cases c2 : (cd i = 50 ∧ vl i ≤ 1000) ∨ isVal o (cd i) = true
      · rw [if_pos c2, if_pos c2]
        by_cases c3 : l = 50
        · rw [if_pos c3, if_pos c3]; exact ⟨rfl, er_le rfl⟩
        · rw [if_neg c3, if_neg c3]
          by_cases c4 : o = true ∧ (cd i = 13 ∨ cd i = 14)
          · rw [if_pos c4, if_pos c4, h (i + 1) (by omega)]
            by_cases c5 : cd (i + 1) = 50
            · have i2 := ext_c h0 (show i + 1 ≤ nt by omega) c5 (by decide)
              rw [hv (i + 1) i2]
              by_cases c6 : cd (i + 1) = 50 ∧ ¬ zLie (vl (i + 1)) 0 7 = 0
              · rw [if_pos c6]; exact ⟨rfl, ok_le rfl (by omega)⟩
              · rw [if_neg c6]; exact ⟨rfl, er_le rfl⟩
            · rw [if_neg (fun q => c5 q.1), if_neg (fun q => c5 q.1)]; exact ⟨rfl, er_le rfl⟩
          · rw [if_neg c4, if_neg c4]
            by_cases c5 : cd i = 50
            · rw [if_pos c5]; exact ⟨rfl, ok_le rfl (by omega)⟩
            · rw [if_neg c5]; exact ⟨rfl, ok_le rfl (by omega)⟩
      · rw [if_neg c2, if_neg c2]; exact ⟨rfl, er_le rfl⟩
theorem PE.chain (h : ∀ i, i ≤ nt → cd' i = cd i) (h0 : cd nt = 0) {ops : Int32 → Bool} {comb : Int32 → tD → tD → tD} (ho : ops 0 = false) {x y : Nat → Nat → tR tD} (hx : PE nt x y) : ∀ f j l d, j ≤ nt → pChain cd ops comb x f j l d = pChain cd' ops comb y f j l d ∧ ∀ j2 l2 d2, pChain cd ops comb x f j l d = .ok (j2, l2, d2) → j2 ≤ nt
  | 0, j, l, d, hj => ⟨rfl, ok_le rfl hj⟩
  | f + 1, j, l, d, hj => by
    rw [pChain, pChain, h j hj]
    by_cases c1 : ops (cd j) = true
    · have j1 := ext_lt h0 hj (fun q => by rw [q, ho] at c1; cases c1)
      rw [if_pos c1, if_pos c1]
      obtain ⟨q1, q2⟩ := hx (j + 1) l (by omega)
      rw [← q1]
      cases hq : x (j + 1) l with
      | error e => exact ⟨rfl, er_le rfl⟩
      | ok z =>
        obtain ⟨j2, l2, d2⟩ := z
        exact PE.chain h h0 ho hx f j2 l2 _ (q2 _ _ _ hq)
    · rw [if_neg c1, if_neg c1]; exact ⟨rfl, ok_le rfl hj⟩
theorem PE.many (h : ∀ i, i ≤ nt → cd' i = cd i) (h0 : cd nt = 0) {ops : Int32 → Bool} {comb : Int32 → tD → tD → tD} (ho : ops 0 = false) {x y : Nat → Nat → tR tD} (hx : PE nt x y) : PE nt (pMany cd ops comb x) (pMany cd' ops comb y) := by
  intro i l hi
  unfold pMany
  obtain ⟨q1, q2⟩ := hx i l hi
  rw [← q1]
  cases hq : x i l with
  | error e => exact ⟨rfl, er_le rfl⟩
  | ok z =>
    obtain ⟨j, l2, d⟩ := z
    exact PE.chain h h0 ho hx 402 j l2 d (q2 _ _ _ hq)
theorem PE.sum (h : ∀ i, i ≤ nt → cd' i = cd i) (hv : ∀ i, i < nt → vl' i = vl i) (h0 : cd nt = 0) : ∀ m, PE nt (pSum cd vl o m) (pSum cd' vl' o m)
  | 0 => by rw [pSum, pSum]; exact PE.many h h0 (by decide) (PE.many h h0 (by decide) (PE.part h hv h0 (Or.inl ⟨rfl, rfl⟩)))
  | m + 1 => by rw [pSum, pSum]; exact PE.many h h0 (by decide) (PE.many h h0 (by decide) (PE.part h hv h0 (Or.inr ⟨_, _, rfl, rfl, PE.sum h hv h0 m⟩)))
theorem ext_nots (h : ∀ i, i ≤ nt → cd' i = cd i) (h0 : cd nt = 0) : ∀ f i b, i ≤ nt → pNots cd f i b = pNots cd' f i b ∧ (pNots cd f i b).1 ≤ nt
  | 0, i, b, hi => ⟨rfl, hi⟩
  | f + 1, i, b, hi => by
    rw [pNots, pNots, h i hi]
    by_cases c1 : cd i = 9
    · have i1 := ext_c h0 hi c1 (by decide)
      rw [if_pos c1, if_pos c1]; exact ext_nots h h0 f (i + 1) _ (by omega)
    · rw [if_neg c1, if_neg c1]; exact ⟨rfl, hi⟩
theorem PE.pos (h : ∀ i, i ≤ nt → cd' i = cd i) (h0 : cd nt = 0) {f f' : Option (Nat → Nat → tR tD)} (hf : (f = none ∧ f' = none) ∨ ∃ g g', f = some g ∧ f' = some g' ∧ PE nt g g') {x y : Nat → Nat → tR tD} (hx : PE nt x y) : PE nt (pPos cd f x) (pPos cd' f' y) := by
  intro i l hi
  unfold pPos
  rw [h i hi]
  by_cases c1 : cd i = 140
  · have i1 := ext_c h0 hi c1 (by decide)
    rw [if_pos c1, if_pos c1]
    rcases hf with ⟨rfl, rfl⟩ | ⟨g, g', rfl, rfl, hg⟩
    · exact ⟨rfl, er_le rfl⟩
    · dsimp only
      obtain ⟨q1, q2⟩ := hg (i + 1) l (by omega)
      rw [← q1]
      cases hq : g (i + 1) l with
      | error e => exact ⟨rfl, er_le rfl⟩
      | ok z =>
        obtain ⟨j, l2, d⟩ := z
        dsimp only
        have jn := q2 j l2 d hq
        rw [h j jn]
        by_cases c2 : cd j = 141
        · have := ext_c h0 jn c2 (by decide)
          rw [if_pos c2]; exact ⟨rfl, ok_le rfl (by omega)⟩
        · rw [if_neg c2]; exact ⟨rfl, er_le rfl⟩
  · rw [if_neg c1, if_neg c1]
    obtain ⟨q1, q2⟩ := hx i l hi
    rw [← q1]
    cases hq : x i l with
    | error e => exact ⟨rfl, er_le rfl⟩
    | ok z =>
      obtain ⟨j, l2, d⟩ := z
      dsimp only
      have jn := q2 j l2 d hq
      rw [h j jn]
      by_cases c2 : isCmp (cd j) = true
      · have j1 := ext_lt h0 jn (fun q => by rw [q] at c2; exact absurd c2 (by decide))
        rw [if_pos c2, if_pos c2]
        obtain ⟨q3, q4⟩ := hx (j + 1) l2 (by omega)
        rw [← q3]
        cases hq2 : x (j + 1) l2 with
        | error e => exact ⟨rfl, er_le rfl⟩
        | ok z =>
          obtain ⟨j2, l3, d2⟩ := z
          exact ⟨rfl, ok_le rfl (q4 _ _ _ hq2)⟩
      · rw [if_neg c2, if_neg c2]; exact ⟨rfl, er_le rfl⟩
theorem PE.plain (h : ∀ i, i ≤ nt → cd' i = cd i) (h0 : cd nt = 0) {f f' : Option (Nat → Nat → tR tD)} (hf : (f = none ∧ f' = none) ∨ ∃ g g', f = some g ∧ f' = some g' ∧ PE nt g g') {x y : Nat → Nat → tR tD} (hx : PE nt x y) : PE nt (pPlain cd f x) (pPlain cd' f' y) := by
  intro i l hi
  unfold pPlain
  obtain ⟨n1, n2⟩ := ext_nots h h0 402 i false hi
  obtain ⟨q1, q2⟩ := PE.pos h h0 hf hx (pNots cd 402 i false).1 l n2
  rw [← n1, ← q1]
  cases hq : pPos cd f x (pNots cd 402 i false).1 l with
  | error e => exact ⟨rfl, er_le rfl⟩
  | ok z =>
    obtain ⟨j, l2, d⟩ := z
    exact ⟨rfl, ok_le rfl (q2 _ _ _ hq)⟩
theorem PE.test (h : ∀ i, i ≤ nt → cd' i = cd i) (hv : ∀ i, i < nt → vl' i = vl i) (h0 : cd nt = 0) : ∀ m, PE nt (pTest cd vl o m) (pTest cd' vl' o m)
  | 0 => by rw [pTest, pTest]; exact PE.many h h0 (by decide) (PE.many h h0 (by decide) (PE.plain h h0 (Or.inl ⟨rfl, rfl⟩) (PE.sum h hv h0 0)))
  | m + 1 => by rw [pTest, pTest]; exact PE.many h h0 (by decide) (PE.many h h0 (by decide) (PE.plain h h0 (Or.inr ⟨_, _, rfl, rfl, PE.test h hv h0 m⟩) (PE.sum h hv h0 (m + 1))))
theorem PE.tail (h : ∀ i, i ≤ nt → cd' i = cd i) (hv : ∀ i, i < nt → vl' i = vl i) (h0 : cd nt = 0) {v n : Int32} {a b : tD} : PE nt (pTail cd vl o v a b n) (pTail cd' vl' o v a b n) := by
  intro i l hi
  unfold pTail
  rw [h i hi]
  by_cases c1 : cd i = 6
  · have i1 := ext_c h0 hi c1 (by decide)
    rw [if_pos c1, if_pos c1]
    obtain ⟨q1, q2⟩ := PE.test (o := o) h hv h0 8 (i + 1) l (by omega)
    rw [← q1]
    cases hq : pTest cd vl o 8 (i + 1) l with
    | error e => exact ⟨rfl, er_le rfl⟩
    | ok z =>
      obtain ⟨j, l2, d⟩ := z
      exact ⟨rfl, ok_le rfl (q2 _ _ _ hq)⟩
  · rw [if_neg c1, if_neg c1]; exact ⟨rfl, ok_le rfl hi⟩
theorem PE.clause (h : ∀ i, i ≤ nt → cd' i = cd i) (hv : ∀ i, i < nt → vl' i = vl i) (h0 : cd nt = 0) : PE nt (pClause cd vl o) (pClause cd' vl' o) := by
  intro i l hi
  unfold pClause
  rw [h i hi]
  by_cases c1 : isVerb (cd i) = true
  · have i1 := ext_lt h0 hi (fun q => by rw [q] at c1; exact absurd c1 (by decide))
    rw [if_pos c1, if_pos c1]
    obtain ⟨q1, q2⟩ := PE.sum (o := o) h hv h0 8 (i + 1) l (by omega)
    rw [← q1]
    cases hq : pSum cd vl o 8 (i + 1) l with
    | error e => exact ⟨rfl, er_le rfl⟩
    | ok z =>
      obtain ⟨j, l2, d⟩ := z
      exact PE.tail h hv h0 j l2 (q2 _ _ _ hq)
  · rw [if_neg c1, if_neg c1]
    by_cases c2 : cd i = 5
    · have i1 := ext_c h0 hi c2 (by decide)
      rw [if_pos c2, if_pos c2]; exact PE.tail h hv h0 (i + 1) l (by omega)
    · rw [if_neg c2, if_neg c2]; exact ⟨rfl, er_le rfl⟩
theorem PE.two (h : ∀ i, i ≤ nt → cd' i = cd i) (hv : ∀ i, i < nt → vl' i = vl i) (h0 : cd nt = 0) {w : Int32} (hw : ¬ w = 0) : PE nt (pTwo cd vl o w) (pTwo cd' vl' o w) := by
  intro i l hi
  unfold pTwo
  obtain ⟨q1, q2⟩ := PE.sum (o := o) h hv h0 8 i l hi
  rw [← q1]
  cases hq : pSum cd vl o 8 i l with
  | error e => exact ⟨rfl, er_le rfl⟩
  | ok z =>
    obtain ⟨j, l2, d⟩ := z
    dsimp only
    have jn := q2 _ _ _ hq
    rw [h j jn]
    by_cases c1 : cd j = w
    · have j1 := ext_c h0 jn c1 hw
      rw [if_pos c1, if_pos c1]
      obtain ⟨q3, q4⟩ := PE.sum (o := o) h hv h0 8 (j + 1) l2 (by omega)
      rw [← q3]
      cases hq2 : pSum cd vl o 8 (j + 1) l2 with
      | error e => exact ⟨rfl, er_le rfl⟩
      | ok z =>
        obtain ⟨j2, l3, d2⟩ := z
        exact ⟨rfl, ok_le rfl (q4 _ _ _ hq2)⟩
    · rw [if_neg c1, if_neg c1]; exact ⟨rfl, er_le rfl⟩
theorem PE.times (h : ∀ i, i ≤ nt → cd' i = cd i) (hv : ∀ i, i < nt → vl' i = vl i) (h0 : cd nt = 0) {v : Int32} {a b : tD} : PE nt (pTimes cd vl o v a b) (pTimes cd' vl' o v a b) := by
  intro i l hi
  unfold pTimes
  rw [h i hi]
  by_cases c1 : cd i = 27
  · have i1 := ext_c h0 hi c1 (by decide)
    rw [if_pos c1, if_pos c1, h (i + 1) (by omega)]
    by_cases c2 : cd (i + 1) = 50
    · have i2 := ext_c h0 (show i + 1 ≤ nt by omega) c2 (by decide)
      rw [hv (i + 1) i2]
      by_cases c3 : cd (i + 1) = 50 ∧ ¬ zLie (vl (i + 1)) 1 20 = 0
      · rw [if_pos c3, if_pos c3]; exact PE.tail h hv h0 (i + 2) l (by omega)
      · rw [if_neg c3, if_neg c3]; exact ⟨rfl, er_le rfl⟩
    · rw [if_neg (fun q => c2 q.1), if_neg (fun q => c2 q.1)]; exact ⟨rfl, er_le rfl⟩
  · rw [if_neg c1, if_neg c1]; exact PE.tail h hv h0 i l hi
theorem PE.head (h : ∀ i, i ≤ nt → cd' i = cd i) (hv : ∀ i, i < nt → vl' i = vl i) (h0 : cd nt = 0) : PE nt (pHead cd vl o) (pHead cd' vl' o) := by
  intro i l hi
  unfold pHead
  rw [h i hi]
  by_cases c1 : cd i = 21
  · have i1 := ext_c h0 hi c1 (by decide)
    rw [if_pos c1, if_pos c1]; exact PE.two h hv h0 (by decide) (i + 1) l (by omega)
  rw [if_neg c1, if_neg c1]
  by_cases c2 : cd i = 23
  · have i1 := ext_c h0 hi c2 (by decide)
    rw [if_pos c2, if_pos c2]; exact PE.two h hv h0 (by decide) (i + 1) l (by omega)
  rw [if_neg c2, if_neg c2]
  by_cases c3 : cd i = 25 ∨ cd i = 26
  · have i1 := ext_lt h0 hi (fun q => by rw [q] at c3; exact absurd c3 (by decide))
    rw [if_pos c3, if_pos c3]
    obtain ⟨q1, q2⟩ := PE.sum (o := o) h hv h0 8 (i + 1) l (by omega)
    rw [← q1]
    cases hq : pSum cd vl o 8 (i + 1) l with
    | error e => exact ⟨rfl, er_le rfl⟩
    | ok z =>
      obtain ⟨j, l2, d⟩ := z
      exact ⟨rfl, ok_le rfl (q2 _ _ _ hq)⟩
  rw [if_neg c3, if_neg c3]
  by_cases c4 : cd i = 16
  · have i1 := ext_c h0 hi c4 (by decide)
    rw [if_pos c4]; exact ⟨rfl, ok_le rfl (by omega)⟩
  · rw [if_neg c4]; exact ⟨rfl, er_le rfl⟩
theorem PE.one (h : ∀ i, i ≤ nt → cd' i = cd i) (hv : ∀ i, i < nt → vl' i = vl i) (h0 : cd nt = 0) : PE nt (pOne cd vl o) (pOne cd' vl' o) := by
  intro i l hi
  unfold pOne
  by_cases c1 : o = true
  · rw [if_pos c1, if_pos c1]
    unfold pOrder
    obtain ⟨q1, q2⟩ := PE.head (o := o) h hv h0 i l hi
    rw [← q1, h i hi]
    cases hq : pHead cd vl o i l with
    | error e => exact ⟨rfl, er_le rfl⟩
    | ok z =>
      obtain ⟨j, l2, d⟩ := z
      exact PE.times h hv h0 j l2 (q2 _ _ _ hq)
  · rw [if_neg c1, if_neg c1]; exact PE.clause h hv h0 i l hi
theorem ext_rest (h : ∀ i, i ≤ nt → cd' i = cd i) (hv : ∀ i, i < nt → vl' i = vl i) (h0 : cd nt = 0) : ∀ m j l acc, j ≤ nt → pRest cd vl o nt m j l acc = pRest cd' vl' o nt m j l acc := by
  intro m
  induction m with
  | zero =>
    intro j l acc hj
    rw [pRest, pRest, h j hj]
  | succ m ih =>
    intro j l acc hj
    rw [pRest, pRest, h j hj]
    by_cases c1 : cd j = 159
    · have j1 := ext_c h0 hj c1 (by decide)
      rw [if_pos c1, if_pos c1]
      obtain ⟨q1, q2⟩ := PE.one (o := o) h hv h0 (j + 1) l (by omega)
      rw [← q1]
      cases hq : pOne cd vl o (j + 1) l with
      | error e => rfl
      | ok z =>
        obtain ⟨j2, l2, d⟩ := z
        exact ih j2 l2 _ (q2 _ _ _ hq)
    · rw [if_neg c1, if_neg c1]
theorem ext_text (h : ∀ i, i ≤ nt → cd' i = cd i) (hv : ∀ i, i < nt → vl' i = vl i) (h0 : cd nt = 0) : pText cd vl o nt = pText cd' vl' o nt := by
  unfold pText
  obtain ⟨q1, q2⟩ := PE.one (o := o) h hv h0 0 0 (Nat.zero_le _)
  rw [← q1]
  cases hq : pOne cd vl o 0 0 with
  | error e => rfl
  | ok z =>
    obtain ⟨j, l2, d⟩ := z
    exact ext_rest h hv h0 11 j l2 _ (q2 _ _ _ hq)
theorem all_rest {P : tC → Prop} (hp : ∀ i l j l2 c, pOne cd vl o i l = .ok (j, l2, c) → P c) : ∀ m j l acc cs, pRest cd vl o nt m j l acc = .ok cs → (∀ c ∈ acc, P c) → ∀ c ∈ cs, P c := by
  intro m
  induction m with
  | zero =>
    intro j l acc cs hq ha
    rw [pRest] at hq
    split at hq
    · cases hq
    · split at hq
      · cases hq
      · cases hq; exact ha
  | succ m ih =>
    intro j l acc cs hq ha
    rw [pRest] at hq
    split at hq
    · cases hz : pOne cd vl o (j + 1) l with
      | error e => rw [hz] at hq; cases hq
      | ok z =>
        obtain ⟨j2, l2, c0⟩ := z
        rw [hz] at hq
        refine ih j2 l2 _ cs hq (fun c hc => ?_)
        rcases List.mem_append.mp hc with w | w
        · exact ha c w
        · rw [List.mem_singleton.mp w]; exact hp _ _ _ _ _ hz
    · split at hq
      · cases hq
      · cases hq; exact ha
theorem all_text {P : tC → Prop} (hp : ∀ i l j l2 c, pOne cd vl o i l = .ok (j, l2, c) → P c) {cs : List tC} (hq : pText cd vl o nt = .ok cs) : ∀ c ∈ cs, P c := by
  unfold pText at hq
  cases hz : pOne cd vl o 0 0 with
  | error e => rw [hz] at hq; cases hq
  | ok z =>
    obtain ⟨j2, l2, c0⟩ := z
    rw [hz] at hq
    exact all_rest hp 11 j2 l2 _ cs hq (fun c hc => by rw [List.mem_singleton.mp hc]; exact hp _ _ _ _ _ hz)
theorem verbs_law {i l j l2 : Nat} {c : tC} (h : pOne cd vl false i l = .ok (j, l2, c)) : c.1 = 1 ∨ c.1 = 2 ∨ c.1 = 3 ∨ c.1 = 4 ∨ c.1 = 5 := by
  unfold pOne at h
  rw [if_neg (by decide)] at h
  unfold pClause at h
  split at h
  · rename_i hv
    cases hz : pSum cd vl false 8 (i + 1) l with
    | error e => rw [hz] at h; cases h
    | ok z =>
      obtain ⟨j2, l2, d⟩ := z
      rw [hz] at h
      rw [(pTail_v h).1]
      unfold isVerb at hv
      simp only [Bool.or_eq_true, decide_eq_true_eq] at hv
      rcases hv with ((hv | hv) | hv) | hv
      · exact Or.inl hv
      · exact Or.inr (Or.inl hv)
      · exact Or.inr (Or.inr (Or.inl hv))
      · exact Or.inr (Or.inr (Or.inr (Or.inl hv)))
  · split at h
    · rw [(pTail_v h).1]; exact Or.inr (Or.inr (Or.inr (Or.inr rfl)))
    · cases h
end EXT
/-- what the reader of the class reads -/
def cdT (u : Nat → Int32) (n i : Nat) : Int32 := match (tkL u n 401 0)[i]? with
  | some (a, e) => tCd u a e
  | none => 0
def vlT (u : Nat → Int32) (n i : Nat) : Int32 := match (tkL u n 401 0)[i]? with
  | some (a, e) => tVl u a e
  | none => 0
theorem cdT_s {u : Nat → Int32} {n i a e : Nat} (h : (tkL u n 401 0)[i]? = some (a, e)) : cdT u n i = tCd u a e ∧ vlT u n i = tVl u a e := by unfold cdT vlT; rw [h]; exact ⟨rfl, rfl⟩
theorem cdT_n {u : Nat → Int32} {n : Nat} : cdT u n (tkL u n 401 0).length = 0 := by unfold cdT; rw [List.getElem?_eq_none (Nat.le_refl _)]
/-- what the reference reads is the same -/
theorem RD.rows_ {I J : vI} {r n nt : Nat} (h : RD I J r n nt) : nt = (tkL (I (r + 7)) n 401 0).length ∧ (∀ i, i ≤ nt → J (r + 9) i = cdT (I (r + 7)) n i) ∧ (∀ i, i < nt → J (r + 10) i = vlT (I (r + 7)) n i) ∧ (∀ e, e ≤ nt → J (r + 11) e = nI (plcT (tkL (I (r + 7)) n 401 0) n e)) ∧ J r 11 = 0 := by
  obtain ⟨I2, ⟨h1, h2, h3, h4⟩, rfl⟩ := h
  subst h3
  have get : ∀ i, i < (tkL (I (r + 7)) n 401 0).length → ∃ a e, (tkL (I (r + 7)) n 401 0)[i]? = some (a, e) := fun i hi => ⟨_, _, List.getElem?_eq_getElem hi⟩
  refine ⟨rfl, fun i hi => ?_, fun i hi => ?_, fun e he => ?_, up2_s _ _ _ _⟩
  · rw [up2_a (by omega)]; unfold tm
    rw [if_neg (by omega), if_neg (by omega)]
    by_cases z : i = (tkL (I (r + 7)) n 401 0).length
    · rw [if_pos ⟨rfl, z⟩, z, cdT_n]
    · obtain ⟨a, e, q⟩ := get i (by omega)
      rw [if_neg (fun w => z w.2), (h4 i a e q).1, (cdT_s q).1]
  · rw [up2_a (by omega)]; unfold tm
    obtain ⟨a, e, q⟩ := get i hi
    rw [if_neg (by omega), if_neg (by omega), if_neg (by omega), (h4 i a e q).2.1, (cdT_s q).2]
  · rw [up2_a (by omega)]; unfold tm plcT
    by_cases z : e = (tkL (I (r + 7)) n 401 0).length
    · rw [if_pos ⟨rfl, z⟩, z, List.getD_eq_getElem?_getD, List.getElem?_eq_none (Nat.le_refl _)]; rfl
    · obtain ⟨a, b, q⟩ := get e (by omega)
      rw [if_neg (fun w => z w.2), if_neg (by omega), if_neg (by omega), (h4 e a b q).2.2, List.getD_eq_getElem?_getD, q]; rfl
