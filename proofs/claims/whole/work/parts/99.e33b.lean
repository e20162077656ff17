/-- the first of f's places that is a -/
def fnd (f : Nat → Nat) (a : Nat) : Nat → Option Nat
  | 0 => none
  | n + 1 => if f n = a then some n else fnd f a n
theorem fnd_s {f : Nat → Nat} {a i : Nat} : ∀ {n : Nat}, fnd f a n = some i → i < n ∧ f i = a
  | 0, h => by cases h
  | n + 1, h => by
    unfold fnd at h
    split at h
    · rename_i e; cases h; exact ⟨by omega, e⟩
    · have := fnd_s h; exact ⟨by omega, this.2⟩
theorem fnd_e {f : Nat → Nat} {a k : Nat} : ∀ {n : Nat}, k < n → f k = a → ∃ i, fnd f a n = some i
  | 0, h, _ => absurd h (by omega)
  | n + 1, h, e => by
    unfold fnd
    by_cases z : f n = a
    · exact ⟨n, if_pos z⟩
    · rw [if_neg z]
      exact fnd_e (by rcases (show k < n ∨ k = n by omega) with q | q; exact q; exact absurd (q ▸ e) z) e
def s0K (b L : Nat) (aK aV : Nat → Nat) (a : Nat) : Nat × Nat := if a = b then (400, L) else ((match fnd aK a 11 with | some i => 300 + i | none => 250), (match fnd aV a 11 with | some i => 320 + i | none => 0))
theorem s0K_b {b L : Nat} {aK aV : Nat → Nat} : s0K b L aK aV b = (400, L) := if_pos rfl
theorem s0K_k {b L a : Nat} {aK aV : Nat → Nat} (h : a ≠ b) : 250 ≤ (s0K b L aK aV a).1 ∧ (s0K b L aK aV a).1 < 311 := by
  unfold s0K; rw [if_neg h]
  cases q : fnd aK a 11 with
  | none => exact ⟨by show 250 ≤ 250; decide, by show 250 < 311; decide⟩
  | some i => have := (fnd_s q).1; exact ⟨by show 250 ≤ 300 + i; omega, by show 300 + i < 311; omega⟩
theorem s0K_1 {b L a i : Nat} {aK aV : Nat → Nat} (hi : i < 11) (h : (s0K b L aK aV a).1 = 300 + i) : a = aK i := by
  unfold s0K at h
  by_cases z : a = b
  · rw [if_pos z] at h; have h : 400 = 300 + i := h; omega
  · rw [if_neg z] at h
    cases q : fnd aK a 11 with
    | none => rw [q] at h; have h : 250 = 300 + i := h; omega
    | some j =>
      rw [q] at h
      have h : 300 + j = 300 + i := h
      have e : j = i := by omega
      rw [← e]; exact (fnd_s q).2.symm
theorem s0K_2 {b L a i : Nat} {aK aV : Nat → Nat} (h : vBy (s0K b L aK aV a) i) : a = aV i := by
  obtain ⟨h1, h2, h3⟩ := h
  unfold s0K at h2 h3
  by_cases z : a = b
  · rw [if_pos z] at h2; have h2 : 400 < 400 := h2; omega
  · rw [if_neg z] at h3
    cases q : fnd aV a 11 with
    | none => rw [q] at h3; have h3 : 0 = 320 + i := h3; omega
    | some j =>
      rw [q] at h3
      have h3 : 320 + j = 320 + i := h3
      have e : j = i := by omega
      rw [← e]; exact (fnd_s q).2.symm
theorem s0K_4 {b L a : Nat} {aK aV : Nat → Nat} (h : (s0K b L aK aV a).1 = 400) : a = b := by
  by_cases z : a = b
  · exact z
  · have := s0K_k (L := L) (aK := aK) (aV := aV) z; omega
theorem s0K_K {b L k : Nat} {aK aV : Nat → Nat} (hk : k < 11) (hb : aK k ≠ b) (inj : ∀ i j, i < 11 → j < 11 → aK i = aK j → i = j) : (s0K b L aK aV (aK k)).1 = 300 + k := by
  obtain ⟨i, q⟩ := fnd_e (f := aK) hk rfl
  have g := fnd_s q
  have e := inj i k g.1 hk g.2
  unfold s0K; rw [if_neg hb, q, e]
theorem s0K_V {b L k : Nat} {aK aV : Nat → Nat} (hk : k < 11) (hb : aV k ≠ b) (inj : ∀ i j, i < 11 → j < 11 → aV i = aV j → i = j) : vBy (s0K b L aK aV (aV k)) k := by
  have h := s0K_k (L := L) (aK := aK) (aV := aV) hb
  refine ⟨by omega, by omega, ?_⟩
  obtain ⟨i, q⟩ := fnd_e (f := aV) hk rfl
  have g := fnd_s q
  have e := inj i k g.1 hk g.2
  unfold s0K; rw [if_neg hb, q, e]
/-- the post of a walk may be weakened -/
theorem W.post {p : Program} {l : Launch} {e : Env} {R : Room} {s : State} {m : MethodId} {args : Array Value} {below : List Frame} {meth : Method} {c : Code} {H : Heap} {locs : List Loc} {cells slots : Nat} {Q Q2 : State → Prop} {g : JFrame} (h : W p l e R s m args below meth c H locs cells slots Q g) (k : ∀ t, Q t → Q2 t) : W p l e R s m args below meth c H locs cells slots Q2 g := fun T hT X => by
  obtain ⟨t, a, b⟩ := h T hT X
  exact ⟨t, a, k t b⟩
