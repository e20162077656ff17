/-! What the tables and the start say -/
set_option maxRecDepth 100000 in
theorem ws_c0 : ∀ w ∈ u_ws (vR 0) (vT 0) (vN 0), w ∈ lw_tbl := by decide +kernel
set_option maxRecDepth 100000 in
theorem ws_c1 : ∀ w ∈ u_ws (vR 1) (vT 1) (vN 1), w ∈ lw_tbl := by decide +kernel
set_option maxRecDepth 100000 in
theorem ws_c2 : ∀ w ∈ u_ws (vR 2) (vT 2) (vN 2), w ∈ lw_tbl := by decide +kernel
set_option maxRecDepth 100000 in
theorem ws_c3 : ∀ w ∈ u_ws (vR 3) (vT 3) (vN 3), w ∈ lw_tbl := by decide +kernel
set_option maxRecDepth 100000 in
theorem ws_c4 : ∀ w ∈ u_ws (vR 4) (vT 4) (vN 4), w ∈ lw_tbl := by decide +kernel
set_option maxRecDepth 100000 in
theorem ws_c5 : ∀ w ∈ u_ws (vR 5) (vT 5) (vN 5), w ∈ lw_tbl := by decide +kernel
set_option maxRecDepth 100000 in
theorem ws_c6 : ∀ w ∈ u_ws (vR 6) (vT 6) (vN 6), w ∈ lw_tbl := by decide +kernel
set_option maxRecDepth 100000 in
theorem ws_c7 : ∀ w ∈ u_ws (vR 7) (vT 7) (vN 7), w ∈ lw_tbl := by decide +kernel
set_option maxRecDepth 100000 in
theorem ws_c8 : ∀ w ∈ u_ws (vR 8) (vT 8) (vN 8), w ∈ lw_tbl := by decide +kernel
set_option maxRecDepth 100000 in
theorem ws_c9 : ∀ w ∈ u_ws (vR 9) (vT 9) (vN 9), w ∈ lw_tbl := by decide +kernel
set_option maxRecDepth 100000 in
theorem ws_c10 : ∀ w ∈ u_ws (vR 10) (vT 10) (vN 10), w ∈ lw_tbl := by decide +kernel
set_option maxRecDepth 100000 in
theorem ws_c11 : ∀ w ∈ u_ws (vR 11) (vT 11) (vN 11), w ∈ lw_tbl := by decide +kernel
set_option maxRecDepth 100000 in
theorem ws_c12 : ∀ w ∈ u_ws (vR 12) (vT 12) (vN 12), w ∈ lw_tbl := by decide +kernel
def stT (i : Nat) : Term := Term.string RX5 (vSt.getD i (0, "")).1
set_option maxRecDepth 100000 in
theorem st_el : ∀ i, i < 11 → ∀ j, j < vSlen.getD i 0 → (Cond.eq (.elem (.field (stT i) "java/lang/String" "value" "[B") (.int (Int32.ofNat j))) (.int ((vSby.getD i []).getD j 0))) ∈ flatC (Jvm.Cond.and given_1 narrow_1) := by decide +kernel
set_option maxRecDepth 100000 in
theorem st_ex : ∀ i, i < 11 → (Cond.exactly (stT i) "java/lang/String") ∈ flatC (Jvm.Cond.and given_1 narrow_1) := by decide +kernel
set_option maxRecDepth 100000 in
theorem st_co : ∀ i, i < 11 → (Cond.eq (.field (stT i) "java/lang/String" "coder" "B") (.int 0)) ∈ flatC (Jvm.Cond.and given_1 narrow_1) := by decide +kernel
set_option maxRecDepth 100000 in
theorem st_ar : ∀ i, i < 11 → (Cond.arrayOf (.field (stT i) "java/lang/String" "value" "[B") .byte) ∈ flatC (Jvm.Cond.and given_1 narrow_1) := by decide +kernel
set_option maxRecDepth 100000 in
theorem st_le : ∀ i, i < 11 → (Cond.eq (.length (.field (stT i) "java/lang/String" "value" "[B")) (.int (Int32.ofNat (vSlen.getD i 0)))) ∈ flatC (Jvm.Cond.and given_1 narrow_1) := by decide +kernel
set_option maxRecDepth 100000 in
theorem st_ne : ∀ i, i < 11 → ∀ j, j < 11 → i ≠ j → (Cond.not (Cond.eq (stT i) (stT j))) ∈ flatC (Jvm.Cond.and given_1 narrow_1) ∨ (Cond.not (Cond.eq (stT j) (stT i))) ∈ flatC (Jvm.Cond.and given_1 narrow_1) := by decide +kernel
set_option maxRecDepth 100000 in
theorem st_rf : ∀ i, i < 11 → (Cond.stringRef RX5 (vSt.getD i (0, "")).1 (vStx i)) ∈ lw_tbl := by decide +kernel
set_option maxRecDepth 100000 in
theorem st_31 : ∀ i, i < 11 → vSlen.getD i 0 < 2 ^ 31 := by decide +kernel
set_option maxRecDepth 100000 in
theorem st_dif : ∀ i, i < 11 → ∀ j, j < 11 → i ≠ j → Int32.ofNat (vSlen.getD i 0) ≠ Int32.ofNat (vSlen.getD j 0) ∨ ((List.range (vSlen.getD i 0)).any fun q => decide (q < vSlen.getD j 0) && !((vSby.getD i []).getD q 0 == (vSby.getD j []).getD q 0)) = true := by decide +kernel
set_option maxRecDepth 100000 in
theorem st_cs : (Cond.eq (.static "java/lang/String" "COMPACT_STRINGS" "Z") (.int 1)) ∈ flatC (Jvm.Cond.and given_1 narrow_1) := by decide +kernel
set_option maxRecDepth 100000 in
theorem st_fo : (Cond.isRef (.static "jdk/internal/util/Preconditions" "SIOOBE_FORMATTER" "Ljava/util/function/BiFunction;")) ∈ flatC (Jvm.Cond.and given_1 narrow_1) := by decide +kernel
set_option maxRecDepth 100000 in
theorem st_t1 : (Cond.laysStatic "java/lang/String" "COMPACT_STRINGS" "Z") ∈ lw_tbl ∧ (Cond.initialized "java/lang/String") ∈ lw_tbl ∧ (Cond.laysStatic "jdk/internal/util/Preconditions" "SIOOBE_FORMATTER" "Ljava/util/function/BiFunction;") ∈ lw_tbl ∧ (Cond.initialized "jdk/internal/util/Preconditions") ∈ lw_tbl := by decide +kernel
set_option maxRecDepth 100000 in
theorem st_ns : ∀ w ∈ vNst, w ∈ lw_tbl := by decide +kernel
set_option maxRecDepth 100000 in
theorem st_ao : ∀ c ∈ [RX0, RX3, RX7, RX8, RX9], (Cond.arrayOver (.object c)) ∈ lw_tbl := by decide +kernel
/-- the first of f's places that is a -/
def fnd (f : Nat → Nat) (a : Nat) : Nat → Option Nat
  | 0 => none
  | n + 1 => if f n = a then some n else fnd f a n
theorem fnd_s {f : Nat → Nat} {a i : Nat} : ∀ {n : Nat}, fnd f a n = some i → i < n ∧ f i = a
  | 0, h => by cases h
  | n + 1, h => by
    unfold fnd at h
    split at h
    · rename_i e; cases h; exact ⟨by omega, e⟩
    · have := fnd_s h; exact ⟨by omega, this.2⟩
theorem fnd_e {f : Nat → Nat} {a k : Nat} : ∀ {n : Nat}, k < n → f k = a → ∃ i, fnd f a n = some i
  | 0, h, _ => absurd h (by omega)
  | n + 1, h, e => by
    unfold fnd
    by_cases z : f n = a
    · exact ⟨n, if_pos z⟩
    · rw [if_neg z]
      exact fnd_e (by rcases (show k < n ∨ k = n by omega) with q | q; exact q; exact absurd (q ▸ e) z) e
def s0K (b L : Nat) (aK aV : Nat → Nat) (a : Nat) : Nat × Nat := if a = b then (400, L) else ((match fnd aK a 11 with | some i => 300 + i | none => 250), (match fnd aV a 11 with | some i => 320 + i | none => 0))
theorem s0K_b {b L : Nat} {aK aV : Nat → Nat} : s0K b L aK aV b = (400, L) := if_pos rfl
theorem s0K_k {b L a : Nat} {aK aV : Nat → Nat} (h : a ≠ b) : 250 ≤ (s0K b L aK aV a).1 ∧ (s0K b L aK aV a).1 < 311 := by
  unfold s0K; rw [if_neg h]
  cases q : fnd aK a 11 with
  | none => exact ⟨by decide, by decide⟩
  | some i => have := (fnd_s q).1; exact ⟨by show 250 ≤ 300 + i; omega, by show 300 + i < 311; omega⟩
theorem s0K_1 {b L a i : Nat} {aK aV : Nat → Nat} (hi : i < 11) (h : (s0K b L aK aV a).1 = 300 + i) : a = aK i := by
  unfold s0K at h
  by_cases z : a = b
  · rw [if_pos z] at h; have h : 400 = 300 + i := h; omega
  · rw [if_neg z] at h
    cases q : fnd aK a 11 with
    | none => rw [q] at h; have h : 250 = 300 + i := h; omega
    | some j =>
      rw [q] at h
      have h : 300 + j = 300 + i := h
      have e : j = i := by omega
      rw [← e]; exact (fnd_s q).2.symm
theorem s0K_2 {b L a i : Nat} {aK aV : Nat → Nat} (h : vBy (s0K b L aK aV a) i) : a = aV i := by
  obtain ⟨h1, h2, h3⟩ := h
  unfold s0K at h2 h3
  by_cases z : a = b
  · rw [if_pos z] at h2; have h2 : 400 < 400 := h2; omega
  · rw [if_neg z] at h3
    cases q : fnd aV a 11 with
    | none => rw [q] at h3; have h3 : 0 = 320 + i := h3; omega
    | some j =>
      rw [q] at h3
      have h3 : 320 + j = 320 + i := h3
      have e : j = i := by omega
      rw [← e]; exact (fnd_s q).2.symm
theorem s0K_4 {b L a : Nat} {aK aV : Nat → Nat} (h : (s0K b L aK aV a).1 = 400) : a = b := by
  by_cases z : a = b
  · exact z
  · have := s0K_k (L := L) (aK := aK) (aV := aV) z; omega
theorem s0K_K {b L k : Nat} {aK aV : Nat → Nat} (hk : k < 11) (hb : aK k ≠ b) (inj : ∀ i j, i < 11 → j < 11 → aK i = aK j → i = j) : (s0K b L aK aV (aK k)).1 = 300 + k := by
  obtain ⟨i, q⟩ := fnd_e (f := aK) hk rfl
  have g := fnd_s q
  have e := inj i k g.1 hk g.2
  unfold s0K; rw [if_neg hb, q, e]
theorem s0K_V {b L k : Nat} {aK aV : Nat → Nat} (hk : k < 11) (hb : aV k ≠ b) (inj : ∀ i j, i < 11 → j < 11 → aV i = aV j → i = j) : vBy (s0K b L aK aV (aV k)) k := by
  have h := s0K_k (L := L) (aK := aK) (aV := aV) hb
  refine ⟨by omega, by omega, ?_⟩
  obtain ⟨i, q⟩ := fnd_e (f := aV) hk rfl
  have g := fnd_s q
  have e := inj i k g.1 hk g.2
  unfold s0K; rw [if_neg hb, q, e]
/-- the post of a walk may be weakened -/
theorem W.post {p : Program} {l : Launch} {e : Env} {R : Room} {s : State} {m : MethodId} {args : Array Value} {below : List Frame} {meth : Method} {c : Code} {H : Heap} {locs : List Loc} {cells slots : Nat} {Q Q2 : State → Prop} {g : JFrame} (h : W p l e R s m args below meth c H locs cells slots Q g) (k : ∀ t, Q t → Q2 t) : W p l e R s m args below meth c H locs cells slots Q2 g := fun T hT X => by
  obtain ⟨t, a, b⟩ := h T hT X
  exact ⟨t, a, k t b⟩
