/-! Chances of class and reference: one is the other, scaled -/
def sumN (f : Nat → Nat) : Nat → Nat
  | 0 => 0
  | n + 1 => sumN f n + f n
theorem sumN_c {f g : Nat → Nat} : ∀ {n : Nat}, (∀ v, v < n → f v = g v) → sumN f n = sumN g n
  | 0, _ => rfl
  | n + 1, h => by rw [sumN, sumN, sumN_c (fun v hv => h v (by omega)), h n (by omega)]
theorem sumN_p {f : Nat → Nat} {j A : Nat} : ∀ {n : Nat}, sumN (fun v => f v + (if v = j then A else 0)) n = sumN f n + (if j < n then A else 0)
  | 0 => rfl
  | n + 1 => by
    rw [sumN, sumN, sumN_p (n := n)]
    rcases Nat.lt_trichotomy j n with h | h | h
    · rw [if_pos h, if_neg (by omega), if_pos (by omega)]; omega
    · rw [if_neg (by omega), if_pos h.symm, if_pos (by omega)]; omega
    · rw [if_neg (by omega), if_neg (by omega), if_neg (by omega)]; omega
theorem sumN_le {f : Nat → Nat} {v : Nat} : ∀ {n : Nat}, v < n → f v ≤ sumN f n
  | 0, h => absurd h (Nat.not_lt_zero _)
  | n + 1, h => by
    rw [sumN]
    rcases (show v = n ∨ v < n by omega) with rfl | z
    · omega
    · have := sumN_le (f := f) z; omega
def sprN (to : Nat → Nat) (f : Nat) (c : Nat → Nat) : Nat → Nat → Nat
  | 0 => fun _ => 0
  | w + 1 => fun v => sprN to f c w v + (if v = to w then c w * (10 - f) else 0) + (if v = wMin (to w) then c w * f else 0)
theorem sprN_sum {to : Nat → Nat} {f : Nat} {c : Nat → Nat} (hf : f ≤ 10) (ht : ∀ w, to w ≤ 200) : ∀ {n : Nat}, sumN (sprN to f c n) 201 = sumN c n * 10
  | 0 => by
    have : ∀ m, sumN (sprN to f c 0) m = 0 := by
      intro m
      induction m with
      | zero => rfl
      | succ m ih => rw [sumN, ih]; rfl
    rw [this, sumN]
  | n + 1 => by
    have hm : wMin (to n) < 201 := by unfold wMin; have := ht n; split <;> omega
    unfold sprN
    rw [sumN_p (f := fun v => sprN to f c n v + (if v = to n then c n * (10 - f) else 0)), sumN_p, sprN_sum hf ht (n := n), if_pos (by have := ht n; omega), if_pos hm, sumN]
    have : c n * (10 - f) + c n * f = c n * 10 := by rw [← Nat.mul_add]; congr 1; omega
    omega
theorem sprN_5 {to : Nat → Nat} {f : Nat} {c : Nat → Nat} (ht : ∀ w, 5 ≤ to w ∧ to w ≤ 200) : ∀ {n v : Nat}, v < 5 → sprN to f c n v = 0
  | 0, _, _ => rfl
  | n + 1, v, h => by
    have h1 := ht n
    have h2 : 5 ≤ wMin (to n) := by unfold wMin; split <;> omega
    unfold sprN
    rw [sprN_5 ht h, if_neg (by omega), if_neg (by omega)]
theorem up_add {P : Nat → Int64} {j g v : Nat} {A B : Int64} {p a b : Nat} (hp : ∀ v, P v = lI (p * 0) → True) : True := trivial
theorem upL_add {P : Nat → Int64} {j g : Nat} {A B : Int64} (v : Nat) : upL (upL P j (P j + A)) g (upL P j (P j + A) g + B) v = P v + (if v = j then A else 0) + (if v = g then B else 0) := by
  unfold upL
  by_cases h1 : v = g
  · by_cases h2 : v = j
    · subst h1; subst h2; simp
    · subst h1; simp [h2]
  · by_cases h2 : v = j
    · subst h2; simp [h1]
    · simp [h1, h2]
theorem lI_ite {c : Prop} [Decidable c] {a : Nat} : (if c then lI a else (0 : Int64)) = lI (if c then a else 0) := by
  by_cases h : c
  · rw [if_pos h, if_pos h]
  · rw [if_neg h, if_neg h]; rfl
theorem f64 {f : Nat} (hf : f ≤ 10) : (10 - nI f).toInt64 = lI (10 - f) ∧ (nI f).toInt64 = lI f := by
  refine ⟨?_, nI_lI (by omega)⟩
  rw [show (10 : Int32) - nI f = nI (10 - f) from nI_sub (a := 10) hf (by decide)]
  exact nI_lI (by omega)
theorem sprC_N {W : tW} {p now : Int32} {P : tP} {f : Nat} {D : Nat → Int64} {c : Nat → Nat} (hf : f ≤ 10) : ∀ {n : Nat}, n ≤ 201 → (∀ w, w < n → D w = lI (c w)) → (∀ w, w < 5 → c w = 0) → ∀ v, sprC W p now P (nI f) D n v = lI (sprN (sprTo W p now P) f c n v)
  | 0, _, _, _, v => rfl
  | n + 1, hn, hD, h5, v => by
    have ih := sprC_N (W := W) (p := p) (now := now) (P := P) hf (n := n) (by omega) (fun w hw => hD w (by omega)) h5
    have hDn := hD n (by omega)
    unfold sprC sprN
    by_cases h : n < 5 ∨ D n = 0
    · rw [if_pos h, ih]
      have z : ∀ m, lI (c n * m) = 0 := fun m => by
        rcases h with h | h
        · rw [h5 n h, Nat.zero_mul]; rfl
        · rw [← lI_mul, ← hDn, h]; exact Int64.zero_mul
      have z1 : lI (if v = sprTo W p now P n then c n * (10 - f) else 0) = 0 := by split; exact z _; rfl
      have z2 : lI (if v = wMin (sprTo W p now P n) then c n * f else 0) = 0 := by split; exact z _; rfl
      rw [← lI_add, ← lI_add, z1, z2, Int64.add_zero, Int64.add_zero]
    · rw [if_neg h, upL_add, ih, hDn, (f64 hf).1, (f64 hf).2, lI_mul, lI_mul, lI_ite, lI_ite, lI_add, lI_add]
theorem sprL_N {W : tW} {p now : Int32} {P : tP} {f m : Nat} {D : Nat → Int64} {c : Nat → Nat} (hf : f ≤ 10) : ∀ {n : Nat}, n ≤ 201 → (∀ w, w < n → D w = lI (c w * (m * 10)) ∧ c w * (m * 10) < 9223372036854775808) → ∀ v, sprL W p now P (nI f) D n v = lI (sprN (sprTo W p now P) f c n v * m)
  | 0, _, _, v => by rw [sprL, sprN, Nat.zero_mul]; rfl
  | n + 1, hn, hD, v => by
    have ih := sprL_N (W := W) (p := p) (now := now) (P := P) (c := c) (m := m) hf (n := n) (by omega) (fun w hw => hD w (by omega))
    obtain ⟨hDn, hbn⟩ := hD n (by omega)
    have hdiv : D n / 10 = lI (c n * m) := by
      rw [hDn, show (10 : Int64) = lI 10 from rfl, lI_div hbn (by decide)]
      congr 1
      rw [← Nat.mul_assoc, Nat.mul_div_cancel _ (by decide)]
    unfold sprL sprN
    by_cases h : D n = 0
    · rw [if_pos h, ih]
      have z : lI (c n * m) = 0 := by rw [← hdiv, h]; rfl
      have z0 : ∀ k, lI (c n * k * m) = 0 := fun k => by rw [show c n * k * m = c n * m * k by rw [Nat.mul_assoc, Nat.mul_comm k m, ← Nat.mul_assoc], ← lI_mul, z]; exact Int64.zero_mul
      have z1 : lI ((if v = sprTo W p now P n then c n * (10 - f) else 0) * m) = 0 := by split; exact z0 _; rw [Nat.zero_mul]; rfl
      have z2 : lI ((if v = wMin (sprTo W p now P n) then c n * f else 0) * m) = 0 := by split; exact z0 _; rw [Nat.zero_mul]; rfl
      rw [Nat.add_mul, Nat.add_mul, ← lI_add, ← lI_add, z1, z2, Int64.add_zero, Int64.add_zero]
    · rw [if_neg h, upL_add, ih, hdiv, (f64 hf).1, (f64 hf).2, lI_mul, lI_mul, lI_ite, lI_ite, lI_add, lI_add]
      congr 1
      rw [Nat.add_mul, Nat.add_mul]
      have e : ∀ (b : Prop) [Decidable b] (k : Nat), (if b then c n * m * k else 0) = (if b then c n * k else 0) * m := fun b _ k => by
        split
        · rw [Nat.mul_assoc, Nat.mul_comm m k, ← Nat.mul_assoc]
        · rw [Nat.zero_mul]
      rw [e, e]
theorem sprTo_b {W : tW} {p now : Int32} {P : tP} {w : Nat} : 5 ≤ sprTo W p now P w ∧ sprTo W p now P w ≤ 200 := by
  unfold sprTo
  have b := zWithin_b (v := nI w + widenP W p now (P.1, P.2.1, nI w, P.2.2.2)) (lo := 5) (hi := 200) (by decide)
  rw [show (5 : Int32).toInt = 5 from rfl, show (200 : Int32).toInt = 200 from rfl] at b
  obtain ⟨j, j1, j2⟩ := nI_ex (x := zWithin (nI w + widenP W p now (P.1, P.2.1, nI w, P.2.2.2)) 5 200) (n := 201) (by omega) (by omega)
  rw [j2] at b ⊢
  rw [nI_ti (by omega)] at b
  rw [nI_cl (by omega)]
  omega
def chN (W : tW) (K : Nat → Int32) (q f w0 : Nat) : Nat → Nat → Nat
  | 0 => fun w => if w = w0 then 1 else 0
  | k + 1 => sprN (sprTo W (nI q) (K 121 + nI k) (walkP W (nI q) (K 121) (perP K q) k)) f (chN W K q f w0 k) 201
theorem ch_all {W : tW} {K : Nat → Int32} {q f w0 : Nat} (hf : f ≤ 10) (hF : K 140 = nI f) (h5 : 5 ≤ w0) (h200 : w0 ≤ 200) (hw : K (4 * q + 2) = nI w0) : ∀ k, k ≤ 12 → sumN (chN W K q f w0 k) 201 = 10 ^ k ∧ (∀ w, w < 5 → chN W K q f w0 k w = 0) ∧ (∀ w, w < 201 → chD W K q k w = lI (chN W K q f w0 k w)) ∧ ∀ w, w < 201 → oddD W K q k w = lI (chN W K q f w0 k w * 10 ^ (12 - k))
  | 0, _ => by
    refine ⟨?_, fun w hw5 => if_neg (by omega), fun w hw2 => ?_, fun w hw2 => ?_⟩
    · have := sumN_p (f := fun _ => 0) (j := w0) (A := 1) (n := 201)
      rw [if_pos (by omega)] at this
      have z : sumN (fun _ => 0) 201 = 0 := by
        have g : ∀ m, sumN (fun _ => 0) m = 0 := by intro m; induction m with | zero => rfl | succ m ih => rw [sumN, ih]
        exact g 201
      rw [z] at this
      rw [show chN W K q f w0 0 = fun v => 0 + (if v = w0 then 1 else 0) from funext fun v => (Nat.zero_add _).symm, this]
    · have ez : zWithin (K (4 * q + 2)) 0 200 = nI w0 := by
        rw [hw]; unfold zWithin
        rw [if_pos (show (0 : Int32) ≤ nI w0 from (nI_leI (a := 0) (b := w0) (by omega) (by omega)).mpr (Nat.zero_le _)), if_pos (show nI w0 ≤ (200 : Int32) from (nI_leI (a := w0) (b := 200) (by omega) (by omega)).mpr h200)]
      unfold chD chN
      rw [ez, nI_cl (by omega)]
      split <;> rfl
    · unfold oddD chN
      rw [hw]
      by_cases h : w = w0
      · rw [if_pos (by rw [h]), if_pos h]; rfl
      · rw [if_neg (fun z => h (nI_inj (by omega) (by omega) z)), if_neg h, Nat.zero_mul]; rfl
  | k + 1, hk => by
    obtain ⟨i1, i2, i3, i4⟩ := ch_all (W := W) hf hF h5 h200 hw k (by omega)
    have e10 : 10 ^ (12 - k) = 10 ^ (12 - (k + 1)) * 10 := by rw [show 12 - k = 12 - (k + 1) + 1 by omega, Nat.pow_succ]
    refine ⟨?_, fun w hw5 => sprN_5 (fun w => sprTo_b) hw5, fun w hw2 => ?_, fun w hw2 => ?_⟩
    · unfold chN; rw [sprN_sum hf (fun w => sprTo_b.2), i1, Nat.pow_succ]
    · unfold chD chN; rw [hF]; exact sprC_N hf (by omega) i3 i2 w
    · unfold oddD chN
      rw [hF]
      refine sprL_N hf (by omega) (fun w hw => ⟨?_, ?_⟩) w
      · rw [i4 w hw, e10]
      · have b := sumN_le (f := chN W K q f w0 k) hw
        rw [i1] at b
        rw [← e10]
        have b2 : chN W K q f w0 k w * 10 ^ (12 - k) ≤ 10 ^ k * 10 ^ (12 - k) := Nat.mul_le_mul_right _ b
        rw [← Nat.pow_add, show k + (12 - k) = 12 by omega] at b2
        have : (10 : Nat) ^ 12 < 9223372036854775808 := by decide
        omega
theorem oddS_N {D : Nat → Int64} {c : Nat → Nat} {y : Int32} {m : Nat} : ∀ {n : Nat}, (∀ w, w < n → D w = lI (c w * m)) → oddS D y n = lI (sumN (fun w => if nI w < y then 0 else c w) n * m)
  | 0, _ => by rw [oddS, sumN, Nat.zero_mul]; rfl
  | n + 1, h => by
    rw [oddS, sumN, oddS_N (fun w hw => h w (by omega)), h n (by omega), Nat.add_mul, ← lI_add]
    congr 1
    by_cases z : nI n < y
    · rw [if_pos z, if_pos z, Nat.zero_mul]; rfl
    · rw [if_neg z, if_neg z]
theorem mul10_N {a : Nat} : ∀ {j : Nat}, mul10 (lI a) j = lI (a * 10 ^ j)
  | 0 => by rw [mul10, Nat.pow_zero, Nat.mul_one]
  | j + 1 => by rw [mul10, mul10_N (j := j), show (10 : Int64) = lI 10 from rfl, lI_mul, Nat.pow_succ, Nat.mul_assoc]
theorem odds_eq {W : tW} {K : Nat → Int32} {q f w0 n : Nat} {y : Int32} (hf : f ≤ 10) (hF : K 140 = nI f) (h5 : 5 ≤ w0) (h200 : w0 ≤ 200) (hw : K (4 * q + 2) = nI w0) (hn : n ≤ 12) : mul10 (oddS (chD W K q n) y 201) (12 - n) = oddS (oddD W K q n) y 201 := by
  obtain ⟨-, -, i3, i4⟩ := ch_all (W := W) hf hF h5 h200 hw n hn
  rw [oddS_N (c := chN W K q f w0 n) (m := 1) (fun w hw => by rw [Nat.mul_one]; exact i3 w hw), Nat.mul_one, mul10_N, oddS_N i4]
theorem q_odds {d : Nat} {S : vS} {I : vI} {L : vL} {Q : Int64 → vS → vI → vL → Prop} {x lb np nc ns nl : Nat} {K : Nat → Int32} {W : tW} {p y n : Int32} (hC : ClsS S x) (hs : STR S I (x + 1) lb K np nc ns nl) (hW : WC S I (x + 1) lb W) (hlb : x + 942 ≤ lb) (h : ∀ I2 M, FS x I I2 → Q (oddP W K np p y n) S I2 M) : Vc mX11_odds (d + 80) 0 0 [.ref x, .int p, .int y, .int n] S I L (VlQ Q) := by
  refine Vc.of rfl (Nat.le_of_ble_eq_true rfl) ?_
  have B := bs_X11_odds
  show Vw mX11_odds (d + 80) 0 0 0 0 (VlQ Q) 0 [(0, .ref x), (1, .int p), (2, .int y), (3, .int n)] [] S I L
  have hT := hC.p0.p0
  have hR := hC.p1
  have hp := hC.p3
  have hN := hs.tn
  have h8 := hN.1
  have h10 := hN.2.1
  have hK := hs.tr
  refine Vw.aload_n (de_aload_0 (B 0 _ rfl)) 0 rfl (n := 1) rfl ?_
  refine Vw.getR (de_getfield (B 1 _ rfl) (B 2 _ rfl) (B 3 _ rfl)) fl_X11_12 rfl hC.k hC.f0 (n := 4) rfl ?_
  refine Vw.getR (de_getfield (B 4 _ rfl) (B 5 _ rfl) (B 6 _ rfl)) fl_X11_104 rfl hC.p0.k hC.p0.f0 (n := 7) rfl ?_
  refine Vw.iload_n (de_iload_1 (B 7 _ rfl)) 1 rfl (n := 8) rfl ?_
  refine Vw.ivi1 (mi' := mX9_hasPerson) (de_invokevirtual (B 8 _ rfl) (B 9 _ rfl) (B 10 _ rfl)) ml_X11_120 mv_X9_hasPerson hC.p0.p0.k (Nat.le_of_ble_eq_true rfl) (n := 11) rfl (c_X9_hasPerson hT hK.1 (by omega) ?_)
  refine Vw.if_eq (tgt := 24) (n := 14) (de_if_eq (B 11 _ rfl) (B 12 _ rfl) (B 13 _ rfl)) rfl rfl (fun c_11 => ?_) (fun c_11 => ?_)
  · refine Vw.ldc2 (de_ldc2_w (B 24 _ rfl) (B 25 _ rfl) (B 26 _ rfl)) kc_X11_351 (n := 27) rfl ?_
    exact Vw.lret (de_lreturn (B 27 _ rfl)) rfl ⟨_, rfl, (by first | exact qvl (by unfold oddP; rw [if_pos (Or.inl c_11)]) (h I L FS.rfl) | exact qvl (by unfold oddP; rw [if_pos (Or.inr c_21)]) (h I L FS.rfl))⟩
  refine Vw.iload_n (de_iload_3 (B 14 _ rfl)) 3 rfl (n := 15) rfl ?_
  refine Vw.iconst (v := 0) (de_iconst_0 (B 15 _ rfl)) rfl (n := 16) rfl ?_
  refine Vw.bipush (v := 12) (de_bipush (B 16 _ rfl) (B 17 _ rfl)) rfl (n := 18) rfl ?_
  refine Vw.isi3 (mi' := mX11_isWithin) (de_invokestatic (B 18 _ rfl) (B 19 _ rfl) (B 20 _ rfl)) ml_X11_165 ms_X11_isWithin (Nat.le_of_ble_eq_true rfl) (n := 21) rfl (c_X11_isWithin ?_)
  refine Vw.if_ne (tgt := 28) (n := 24) (de_if_ne (B 21 _ rfl) (B 22 _ rfl) (B 23 _ rfl)) rfl rfl (fun c_21 => ?_) (fun c_21 => ?_)
  · obtain ⟨q, hq, rfl⟩ := lie_ex (n := np) (by omega) c_11
    obtain ⟨m, hm, rfl⟩ := lie_n (N := 12) (by decide) c_21
    obtain ⟨w0, w1, w2, w3⟩ : ∃ w0, 5 ≤ w0 ∧ w0 ≤ 200 ∧ K (4 * q + 2) = nI w0 := by
      have b := (hs.kb.1 q hq).2.2.1
      obtain ⟨j, j1, j2⟩ := nI_ex (x := K (4 * q + 2)) (n := 201) (by have : 5 ≤ (K (4 * q + 2)).toInt := b.1; omega) (by have : (K (4 * q + 2)).toInt ≤ 200 := b.2; omega)
      have b5 : 5 ≤ (K (4 * q + 2)).toInt := b.1
      rw [j2, nI_ti (by omega)] at b5
      exact ⟨j, by omega, by omega, j2⟩
    obtain ⟨f, f1, f2⟩ := hs.f10
    refine Vw.aload_n (de_aload_0 (B 28 _ rfl)) 0 rfl (n := 29) rfl ?_
    refine Vw.getR (de_getfield (B 29 _ rfl) (B 30 _ rfl) (B 31 _ rfl)) fl_X11_37 rfl hC.k hC.f3 (n := 32) rfl ?_
    refine Vw.iload_n (de_iload_1 (B 32 _ rfl)) 1 rfl (n := 33) rfl ?_
    refine Vw.iload_n (de_iload_2 (B 33 _ rfl)) 2 rfl (n := 34) rfl ?_
    refine Vw.iload_n (de_iload_3 (B 34 _ rfl)) 3 rfl (n := 35) rfl ?_
    refine Vw.ivl3 (mi' := mX4_chanceOf) (de_invokevirtual (B 35 _ rfl) (B 36 _ rfl) (B 37 _ rfl)) ml_X11_353 mv_X4_chanceOf hC.p3.k (Nat.le_of_ble_eq_true rfl) (n := 38) rfl (c_X4_chanceOf (s := x + 1) hp hK hN hW (by omega) hq hm hs.fe (fun I2 M f3 m2 => ?_))
    exact Vw.lret (de_lreturn (B 38 _ rfl)) rfl ⟨_, rfl, (qvl (by unfold oddP; rw [if_neg (fun z => z.elim c_11 c_21), nI_cl (by omega), nI_cl (by omega)]; exact (odds_eq f1 f2 w1 w2 w3 hm).symm) (h I2 M f3.fs))⟩
  refine Vw.ldc2 (de_ldc2_w (B 24 _ rfl) (B 25 _ rfl) (B 26 _ rfl)) kc_X11_351 (n := 27) rfl ?_
  exact Vw.lret (de_lreturn (B 27 _ rfl)) rfl ⟨_, rfl, (by first | exact qvl (by unfold oddP; rw [if_pos (Or.inl c_11)]) (h I L FS.rfl) | exact qvl (by unfold oddP; rw [if_pos (Or.inr c_21)]) (h I L FS.rfl))⟩
