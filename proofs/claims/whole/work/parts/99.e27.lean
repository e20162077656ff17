/-! Constructors: how objects are laid -/
section GR
variable {a k kd0 len c m v : Nat} {ks js ks2 js2 : List Nat} {S S1 S2 S3 : vS} {I I1 I2 I3 : vI}
/-- an object at a is being made: what has changed -/
def Gr (a : Nat) (ks js : List Nat) (S S2 : vS) (I I2 : vI) : Prop := S.2.2 ≤ S2.2.2 ∧ (∀ b, b < S.2.2 → S2.1 b = S.1 b) ∧ (∀ b k, b < S.2.2 → (b = a → k ∉ ks) → S2.2.1 b k = S.2.1 b k) ∧ ∀ b k, b < S.2.2 → (b = a → k ∉ js) → I2 b k = I b k
theorem Nw.at {t : Nat} (w : Nw c 0 S S1 I I1) (hn : S.2.2 = t) : S1.1 t = (c, 0) ∧ S1.2.2 = t + 1 ∧ ∀ k, I1 t k = 0 := by subst hn; exact ⟨w.2.1, w.1, w.2.2.2.2.1⟩
theorem ltn {p q : Nat} (h : S.2.2 = a + p) (hq : q < p) : a + q < S.2.2 := by omega
theorem lta {p : Nat} (h : S.2.2 = a + p) (hq : 0 < p) : a < S.2.2 := by omega
theorem Gr.rfl : Gr a [] [] S S I I := ⟨Nat.le_refl _, fun _ _ => Eq.refl _, fun _ _ _ _ => Eq.refl _, fun _ _ _ _ => Eq.refl _⟩
theorem Gr.trans (h : Gr a ks js S S2 I I2) (g : Gr a ks2 js2 S2 S3 I2 I3) : Gr a (ks ++ ks2) (js ++ js2) S S3 I I3 := by
  obtain ⟨h1, h2, h3, h4⟩ := h
  obtain ⟨g1, g2, g3, g4⟩ := g
  refine ⟨by omega, fun b hb => (g2 b (by omega)).trans (h2 b hb), fun b k hb q => ?_, fun b k hb q => ?_⟩
  · exact (g3 b k (by omega) (fun e z => q e (List.mem_append.mpr (Or.inr z)))).trans (h3 b k hb (fun e z => q e (List.mem_append.mpr (Or.inl z))))
  · exact (g4 b k (by omega) (fun e z => q e (List.mem_append.mpr (Or.inr z)))).trans (h4 b k hb (fun e z => q e (List.mem_append.mpr (Or.inl z))))
theorem Gr.kd (h : Gr a ks js S S2 I I2) {b : Nat} (hb : b < S.2.2) : S2.1 b = S.1 b := h.2.1 b hb
theorem Gr.rf (h : Gr a ks js S S2 I I2) (ha : a < S.2.2) {k : Nat} (hk : k ∉ ks) : S2.2.1 a k = S.2.1 a k := h.2.2.1 a k ha (fun _ => hk)
theorem Gr.row (h : Gr a ks js S S2 I I2) {b : Nat} (hb : b < S.2.2) (hn : b ≠ a) : S2.2.1 b = S.2.1 b := funext fun k => h.2.2.1 b k hb (fun e => absurd e hn)
theorem Gr.iv (h : Gr a ks js S S2 I I2) (ha : a < S.2.2) {k : Nat} (hk : k ∉ js) : I2 a k = I a k := h.2.2.2 a k ha (fun _ => hk)
theorem Gr.ir (h : Gr a ks js S S2 I I2) {b : Nat} (hb : b < S.2.2) (hn : b ≠ a) : I2 b = I b := funext fun k => h.2.2.2 b k hb (fun e => absurd e hn)
def NF (a : Nat) (S S2 : vS) (I I2 : vI) : Prop := (∀ b, b < a → S2.1 b = S.1 b ∧ S2.2.1 b = S.2.1 b) ∧ S2.1 a = S.1 a ∧ ∀ b, b < a → I2 b = I b
theorem Gr.nf (h : Gr a ks js S S2 I I2) (hn : S.2.2 = a + 1) : NF a S S2 I I2 := ⟨fun b hb => ⟨h.kd (by omega), h.row (by omega) (by omega)⟩, h.kd (by omega), fun b hb => h.ir (by omega) (by omega)⟩
theorem Gr.arr (w : Nw kd0 len S S1 I I1) (ha : a < S.2.2) : Gr a [k] [] S (sUp S1 a k (some S.2.2)) I I1 ∧ (sUp S1 a k (some S.2.2)).2.2 = S.2.2 + 1 ∧ (sUp S1 a k (some S.2.2)).1 S.2.2 = (kd0, len) ∧ (sUp S1 a k (some S.2.2)).2.1 a k = some S.2.2 ∧ (∀ q, I1 S.2.2 q = 0) ∧ ∀ q, (sUp S1 a k (some S.2.2)).2.1 S.2.2 q = none := by
  obtain ⟨w1, w2, w3, w4, w5, w6⟩ := w
  refine ⟨⟨(by show S.2.2 ≤ S1.2.2; rw [w1]; omega), fun b hb => (w3 b hb).1, fun b q hb hq => ?_, fun b q hb _ => by rw [w4 b (by omega)]⟩, w1, w2, sUp_s, w5, fun q => by rw [sUp_o (by omega)]; exact w6 q⟩
  by_cases e : b = a
  · subst e
    rw [sUp_k (fun z => hq (Eq.refl _) (by rw [z]; exact List.mem_singleton.mpr (Eq.refl _))), (w3 b hb).2]
  · rw [sUp_o e, (w3 b hb).2]
theorem Gr.ref : Gr a [k] [] S (sUp S a k (some v)) I I ∧ (sUp S a k (some v)).2.2 = S.2.2 ∧ (sUp S a k (some v)).2.1 a k = some v := by
  refine ⟨⟨Nat.le_refl _, fun _ _ => Eq.refl _, fun b q hb hq => ?_, fun _ _ _ _ => Eq.refl _⟩, Eq.refl _, sUp_s⟩
  by_cases e : b = a
  · subst e
    rw [sUp_k (fun z => hq (Eq.refl _) (by rw [z]; exact List.mem_singleton.mpr (Eq.refl _)))]
  · rw [sUp_o e]
theorem Gr.int {v : Int32} : Gr a [] [k] S S I (up2 I a k v) ∧ up2 I a k v a k = v := by
  refine ⟨⟨Nat.le_refl _, fun _ _ => Eq.refl _, fun _ _ _ _ => Eq.refl _, fun b q hb hq => ?_⟩, up2_s _ _ _ _⟩
  exact up2_n (fun z => hq z.1 (by rw [z.2]; exact List.mem_singleton.mpr (Eq.refl _)))
theorem Gr.obj (w : Nw c 0 S S1 I I1) (f : NF S.2.2 S1 S2 I1 I2) (hn : S2.2.2 = S.2.2 + m) (ha : a < S.2.2) : Gr a [k] [] S (sUp S2 a k (some S.2.2)) I I2 ∧ (sUp S2 a k (some S.2.2)).2.2 = S.2.2 + m ∧ (sUp S2 a k (some S.2.2)).2.1 a k = some S.2.2 ∧ ∀ b, S.2.2 ≤ b → (sUp S2 a k (some S.2.2)).1 b = S2.1 b ∧ (sUp S2 a k (some S.2.2)).2.1 b = S2.2.1 b := by
  obtain ⟨w1, w2, w3, w4, w5, w6⟩ := w
  obtain ⟨f1, f2, f3⟩ := f
  refine ⟨⟨(by show S.2.2 ≤ S2.2.2; rw [hn]; omega), fun b hb => (f1 b hb).1.trans (w3 b hb).1, fun b q hb hq => ?_, fun b q hb _ => by rw [f3 b hb, w4 b (by omega)]⟩, hn, sUp_s, fun b hb => ⟨Eq.refl _, sUp_o (by omega)⟩⟩
  by_cases e : b = a
  · subst e
    rw [sUp_k (fun z => hq (Eq.refl _) (by rw [z]; exact List.mem_singleton.mpr (Eq.refl _))), (f1 b hb).2, (w3 b hb).2]
  · rw [sUp_o e, (f1 b hb).2, (w3 b hb).2]
/-- a row of objects is being filled: it lies at a + pa, its objects of sz cells from a + p0 on -/
def LpE (a pa p0 sz i : Nat) (E : vS → Nat → Prop) (S S2 : vS) (I I2 : vI) : Prop := S2.2.2 = a + p0 + sz * i ∧ (∀ b, b < a + p0 → S2.1 b = S.1 b ∧ (b ≠ a + pa → S2.2.1 b = S.2.1 b) ∧ I2 b = I b) ∧ ∀ j, j < i → S2.2.1 (a + pa) j = some (a + p0 + sz * j) ∧ E S2 (a + p0 + sz * j)
theorem LpE.zero {a pa p0 sz : Nat} {E : vS → Nat → Prop} (h : S.2.2 = a + p0) : LpE a pa p0 sz 0 E S S I I := ⟨by omega, fun _ _ => ⟨Eq.refl _, fun _ => Eq.refl _, Eq.refl _⟩, fun j hj => absurd hj (by omega)⟩
theorem LpE.step {a pa p0 sz i : Nat} {E : vS → Nat → Prop} {S0 : vS} {I0 : vI} (hE : ∀ S S2 e, E S e → (∀ b, e ≤ b → b < e + sz → S2.1 b = S.1 b ∧ S2.2.1 b = S.2.1 b) → E S2 e) (hpa : pa < p0) (h : LpE a pa p0 sz i E S0 S I0 I) (w : Nw c 0 S S1 I I1) (f : NF S.2.2 S1 S2 I1 I2) (hn : S2.2.2 = S.2.2 + sz) (hF : E S2 S.2.2) : LpE a pa p0 sz (i + 1) E S0 (sUp S2 (a + pa) i (some S.2.2)) I0 I2 := by
  obtain ⟨h1, h2, h3⟩ := h
  obtain ⟨w1, w2, w3, w4, w5, w6⟩ := w
  obtain ⟨f1, f2, f3⟩ := f
  have hs : sz * (i + 1) = sz * i + sz := Nat.mul_succ sz i
  refine ⟨(by show S2.2.2 = _; rw [hn, h1]; omega), fun b hb => ⟨?_, fun q => ?_, ?_⟩, fun j hj => ?_⟩
  · rw [sUp_1, (f1 b (by omega)).1, (w3 b (by omega)).1]; exact (h2 b hb).1
  · rw [sUp_o q, (f1 b (by omega)).2, (w3 b (by omega)).2]; exact (h2 b hb).2.1 q
  · rw [f3 b (by omega), w4 b (by omega)]; exact (h2 b hb).2.2
  · by_cases z : j = i
    · subst z
      exact ⟨by rw [sUp_s, h1], by rw [← h1]; exact hE _ _ _ hF (fun b g1 g2 => ⟨Eq.refl _, sUp_o (by omega)⟩)⟩
    · have hj2 : j < i := by omega
      have hm : sz * (j + 1) ≤ sz * i := Nat.mul_le_mul_left sz (by omega)
      have hm2 : sz * (j + 1) = sz * j + sz := Nat.mul_succ sz j
      obtain ⟨q1, q2⟩ := h3 j hj2
      refine ⟨by rw [sUp_k z, (f1 _ (by omega)).2, (w3 _ (by omega)).2]; exact q1, hE _ _ _ q2 (fun b g1 g2 => ⟨?_, ?_⟩)⟩
      · rw [sUp_1, (f1 b (by omega)).1, (w3 b (by omega)).1]
      · rw [sUp_o (by omega), (f1 b (by omega)).2, (w3 b (by omega)).2]
end GR
theorem E_one {c : Nat} : ∀ (S S2 : vS) (e : Nat), S.1 e = (c, 0) → (∀ b, e ≤ b → b < e + 1 → S2.1 b = S.1 b ∧ S2.2.1 b = S.2.1 b) → S2.1 e = (c, 0) := fun S S2 e h g => by rw [(g e (Nat.le_refl _) (by omega)).1]; exact h
theorem E_town : ∀ (S S2 : vS) (e : Nat), TownS S e → (∀ b, e ≤ b → b < e + 23 → S2.1 b = S.1 b ∧ S2.2.1 b = S.2.1 b) → TownS S2 e := fun S S2 e h g => h.of (fun b g1 g2 => g b g1 (by omega))
theorem c_X3_init {d : Nat} {S : vS} {I : vI} {L : vL} {Q : vS → vI → vL → Prop} {a : Nat} (h : ∀ S2 I2 M, S2.2.2 = S.2.2 → NF a S S2 I I2 → S2.1 a = S.1 a → Q S2 I2 M) : Vc mX3_init (d + 1) 0 0 [.ref a] S I L (VvQ Q) := by
  refine Vc.of rfl (Nat.le_of_ble_eq_true rfl) ?_
  have B := bs_X3_init
  show Vw mX3_init (d + 1) 0 0 0 0 (VvQ Q) 0 [(0, .ref a)] [] S I L
  refine Vw.aload_n (de_aload_0 (B 0 _ rfl)) 0 rfl (n := 1) rfl ?_
  refine Vw.objInit (de_invokespecial (B 1 _ rfl) (B 2 _ rfl) (B 3 _ rfl)) ml_X3_3 oi_ok (Nat.le_of_ble_eq_true rfl) (n := 4) rfl ?_
  exact Vw.vret (de_return_ (B 4 _ rfl)) rfl ⟨rfl, (h S I L rfl ⟨fun _ _ => ⟨rfl, rfl⟩, rfl, fun _ _ => rfl⟩ rfl)⟩
theorem c_X0_init {d : Nat} {S : vS} {I : vI} {L : vL} {Q : vS → vI → vL → Prop} {a : Nat} (hk : (S.1 a).1 = 0) (h : ∀ S2 I2 M, S2.2.2 = S.2.2 → NF a S S2 I I2 → S2.1 a = S.1 a → Q S2 I2 M) : Vc mX0_init (d + 1) 0 0 [.ref a] S I L (VvQ Q) := by
  refine Vc.of rfl (Nat.le_of_ble_eq_true rfl) ?_
  have B := bs_X0_init
  show Vw mX0_init (d + 1) 0 0 0 0 (VvQ Q) 0 [(0, .ref a)] [] S I L
  refine Vw.aload_n (de_aload_0 (B 0 _ rfl)) 0 rfl (n := 1) rfl ?_
  refine Vw.objInit (de_invokespecial (B 1 _ rfl) (B 2 _ rfl) (B 3 _ rfl)) ml_X0_3 oi_ok (Nat.le_of_ble_eq_true rfl) (n := 4) rfl ?_
  refine Vw.aload_n (de_aload_0 (B 4 _ rfl)) 0 rfl (n := 5) rfl ?_
  refine Vw.iconst (v := -1) (de_iconst_m1 (B 5 _ rfl)) rfl (n := 6) rfl ?_
  refine Vw.putI (de_putfield (B 6 _ rfl) (B 7 _ rfl) (B 8 _ rfl)) fl_X0_9 hk rfl rfl (n := 9) rfl ?_
  exact Vw.vret (de_return_ (B 9 _ rfl)) rfl ⟨rfl, (h S _ L rfl ⟨fun _ _ => ⟨rfl, rfl⟩, rfl, fun b hb => up2_row (by omega)⟩ rfl)⟩
theorem X9_l1 {d : Nat} {S : vS} {I : vI} {Q : vS → vI → vL → Prop} {a mc ms R T : Nat} (hk : (S.1 a).1 = 9) (hf : S.2.1 a 0 = some (a + 1)) (hA : S.1 (a + 1) = (113, 8)) (k : ∀ S2 I2 L2, LpE a 1 5 1 8 (fun S e => S.1 e = (3, 0)) S S2 I I2 → Vw mX9_init (d + 2) mc ms R T (VvQ Q) 63 [(0, .ref a), (1, .int (nI 8))] [] S2 I2 L2) : ∀ j i S2 I2 L2, i + j = 8 → LpE a 1 5 1 i (fun S e => S.1 e = (3, 0)) S S2 I I2 → Vw mX9_init (d + 2) mc ms (R + 1 * j) (T + 4 * j) (VvQ Q) 38 [(0, .ref a), (1, .int (nI i))] [] S2 I2 L2 := by
  have B := bs_X9_init
  intro j
  induction j with
  | zero =>
    intro i S2 I2 L2 hi h
    obtain rfl : i = 8 := by omega
    refine Vw.iload_n (de_iload_1 (B 38 _ rfl)) 1 rfl (n := 39) rfl ?_
    refine Vw.bipush (v := 8) (de_bipush (B 39 _ rfl) (B 40 _ rfl)) rfl (n := 41) rfl ?_
    refine Vw.icmp_ge (tgt := 63) (n := 44) (de_icmp_ge (B 41 _ rfl) (B 42 _ rfl) (B 43 _ rfl)) rfl rfl (fun c_41 => ?_) (fun c_41 => ?_)
    · exact k S2 I2 L2 h
    exact absurd (by decide) c_41
  | succ j ih =>
    intro i S2 I2 L2 hi h
    have hk2 : (S2.1 a).1 = 9 := by rw [(h.2.1 a (by omega)).1]; exact hk
    have hf2 : S2.2.1 a 0 = some (a + 1) := by rw [(h.2.1 a (by omega)).2.1 (by omega)]; exact hf
    have hA2 : S2.1 (a + 1) = (113, 8) := by rw [(h.2.1 _ (by omega)).1]; exact hA
    refine Vw.less (cr2 := R + 1 * j + 0 + 1) (sr2 := T + 4 * j + 0 + 4) (by omega) (by omega) ?_
    refine Vw.iload_n (de_iload_1 (B 38 _ rfl)) 1 rfl (n := 39) rfl ?_
    refine Vw.bipush (v := 8) (de_bipush (B 39 _ rfl) (B 40 _ rfl)) rfl (n := 41) rfl ?_
    refine Vw.icmp_ge (tgt := 63) (n := 44) (de_icmp_ge (B 41 _ rfl) (B 42 _ rfl) (B 43 _ rfl)) rfl rfl (fun c_41 => ?_) (fun c_41 => ?_)
    · exact absurd (i32_le.mp c_41) (by rw [nI_ti (by omega)]; show ¬ (8 : Int) ≤ _; omega)
    refine Vw.aload_n (de_aload_0 (B 44 _ rfl)) 0 rfl (n := 45) rfl ?_
    refine Vw.getR (de_getfield (B 45 _ rfl) (B 46 _ rfl) (B 47 _ rfl)) fl_X9_11 rfl hk2 hf2 (n := 48) rfl ?_
    refine Vw.iload_n (de_iload_1 (B 48 _ rfl)) 1 rfl (n := 49) rfl ?_
    refine Vw.newQ (c := 3) (cr := R + 1 * j + 0) (sr := T + 4 * j + 0) (de_new (B 49 _ rfl) (B 50 _ rfl) (B 51 _ rfl)) (by decide) cl_X9_9 (n := 52) rfl (fun S3 I3 L3 w3 => ?_)
    refine Vw.dup (de_dup (B 52 _ rfl)) rfl (n := 53) rfl ?_
    refine Vw.iiv0 (mi' := mX3_init) (cr := R + 1 * j) (sr := T + 4 * j) (mc' := 0) (ms' := 0) (de_invokespecial (B 53 _ rfl) (B 54 _ rfl) (B 55 _ rfl)) (Or.inr (by decide)) mi_X3_init (Nat.le_of_ble_eq_true rfl) (n := 56) rfl (c_X3_init (d := d) (fun S4 I4 L4 n4 f4 e4 => ?_))
    have hA4 : S4.1 (a + 1) = (113, 8) := by rw [(f4.1 _ (by rw [h.1]; omega)).1, (w3.2.2.1 _ (by rw [h.1]; omega)).1]; exact hA2
    refine Vw.aast3 (de_aastore (B 56 _ rfl)) hA4 (vIx_n (k := i) rfl (by omega)) (by rw [f4.2.1, w3.2.1]) (n := 57) rfl ?_
    refine Vw.iinc (v := nI (i + 1)) (lv2 := [(0, _), (1, _)]) (de_iinc (B 57 _ rfl) (B 58 _ rfl) (B 59 _ rfl)) 1 rfl (nI_1 i) (by decide) [1, 0] rfl (n := 60) rfl ?_
    refine Vw.goto_ (n := 38) (de_goto_ (B 60 _ rfl) (B 61 _ rfl) (B 62 _ rfl)) rfl ?_
    exact ih (i + 1) _ I4 L4 (by omega) (LpE.step E_one (by omega) h w3 f4 (by rw [n4, w3.1]) (by rw [e4, w3.2.1]))
theorem X9_l2 {d : Nat} {S : vS} {I : vI} {Q : vS → vI → vL → Prop} {a mc ms R T : Nat} (hk : (S.1 a).1 = 9) (hf : S.2.1 a 1 = some (a + 2)) (hA : S.1 (a + 2) = (110, 10)) (k : ∀ S2 I2 L2, LpE a 2 13 1 10 (fun S e => S.1 e = (0, 0)) S S2 I I2 → Vw mX9_init (d + 2) mc ms R T (VvQ Q) 90 [(0, .ref a), (1, .int (nI 10))] [] S2 I2 L2) : ∀ j i S2 I2 L2, i + j = 10 → LpE a 2 13 1 i (fun S e => S.1 e = (0, 0)) S S2 I I2 → Vw mX9_init (d + 2) mc ms (R + 1 * j) (T + 8 * j) (VvQ Q) 65 [(0, .ref a), (1, .int (nI i))] [] S2 I2 L2 := by
  have B := bs_X9_init
  intro j
  induction j with
  | zero =>
    intro i S2 I2 L2 hi h
    obtain rfl : i = 10 := by omega
    refine Vw.iload_n (de_iload_1 (B 65 _ rfl)) 1 rfl (n := 66) rfl ?_
    refine Vw.bipush (v := 10) (de_bipush (B 66 _ rfl) (B 67 _ rfl)) rfl (n := 68) rfl ?_
    refine Vw.icmp_ge (tgt := 90) (n := 71) (de_icmp_ge (B 68 _ rfl) (B 69 _ rfl) (B 70 _ rfl)) rfl rfl (fun c_68 => ?_) (fun c_68 => ?_)
    · exact k S2 I2 L2 h
    exact absurd (by decide) c_68
  | succ j ih =>
    intro i S2 I2 L2 hi h
    have hk2 : (S2.1 a).1 = 9 := by rw [(h.2.1 a (by omega)).1]; exact hk
    have hf2 : S2.2.1 a 1 = some (a + 2) := by rw [(h.2.1 a (by omega)).2.1 (by omega)]; exact hf
    have hA2 : S2.1 (a + 2) = (110, 10) := by rw [(h.2.1 _ (by omega)).1]; exact hA
    refine Vw.less (cr2 := R + 1 * j + 0 + 1) (sr2 := T + 8 * j + 0 + 8) (by omega) (by omega) ?_
    refine Vw.iload_n (de_iload_1 (B 65 _ rfl)) 1 rfl (n := 66) rfl ?_
    refine Vw.bipush (v := 10) (de_bipush (B 66 _ rfl) (B 67 _ rfl)) rfl (n := 68) rfl ?_
    refine Vw.icmp_ge (tgt := 90) (n := 71) (de_icmp_ge (B 68 _ rfl) (B 69 _ rfl) (B 70 _ rfl)) rfl rfl (fun c_68 => ?_) (fun c_68 => ?_)
    · exact absurd (i32_le.mp c_68) (by rw [nI_ti (by omega)]; show ¬ (10 : Int) ≤ _; omega)
    refine Vw.aload_n (de_aload_0 (B 71 _ rfl)) 0 rfl (n := 72) rfl ?_
    refine Vw.getR (de_getfield (B 72 _ rfl) (B 73 _ rfl) (B 74 _ rfl)) fl_X9_19 rfl hk2 hf2 (n := 75) rfl ?_
    refine Vw.iload_n (de_iload_1 (B 75 _ rfl)) 1 rfl (n := 76) rfl ?_
    refine Vw.newQ (c := 0) (cr := R + 1 * j + 0) (sr := T + 8 * j + 0) (de_new (B 76 _ rfl) (B 77 _ rfl) (B 78 _ rfl)) (by decide) cl_X9_17 (n := 79) rfl (fun S3 I3 L3 w3 => ?_)
    refine Vw.dup (de_dup (B 79 _ rfl)) rfl (n := 80) rfl ?_
    refine Vw.iiv0 (mi' := mX0_init) (cr := R + 1 * j) (sr := T + 8 * j) (mc' := 0) (ms' := 0) (de_invokespecial (B 80 _ rfl) (B 81 _ rfl) (B 82 _ rfl)) (Or.inr (by decide)) mi_X0_init (Nat.le_of_ble_eq_true rfl) (n := 83) rfl (c_X0_init (d := d) (by rw [w3.2.1]) (fun S4 I4 L4 n4 f4 e4 => ?_))
    have hA4 : S4.1 (a + 2) = (110, 10) := by rw [(f4.1 _ (by rw [h.1]; omega)).1, (w3.2.2.1 _ (by rw [h.1]; omega)).1]; exact hA2
    refine Vw.aast0 (de_aastore (B 83 _ rfl)) hA4 (vIx_n (k := i) rfl (by omega)) (by rw [f4.2.1, w3.2.1]) (n := 84) rfl ?_
    refine Vw.iinc (v := nI (i + 1)) (lv2 := [(0, _), (1, _)]) (de_iinc (B 84 _ rfl) (B 85 _ rfl) (B 86 _ rfl)) 1 rfl (nI_1 i) (by decide) [1, 0] rfl (n := 87) rfl ?_
    refine Vw.goto_ (n := 65) (de_goto_ (B 87 _ rfl) (B 88 _ rfl) (B 89 _ rfl)) rfl ?_
    exact ih (i + 1) _ I4 L4 (by omega) (LpE.step E_one (by omega) h w3 f4 (by rw [n4, w3.1]) (by rw [e4, w3.2.1]))
theorem c_X9_init {d : Nat} {S : vS} {I : vI} {L : vL} {Q : vS → vI → vL → Prop} {t : Nat} (h0 : S.1 t = (9, 0)) (hN : S.2.2 = t + 1) (hz : ∀ k, I t k = 0) (h : ∀ S2 I2 M, S2.2.2 = t + 23 → NF t S S2 I I2 → TownS S2 t → (∀ k, I2 t k = 0) → (∀ q, I2 (t + 3) q = 0) → (∀ q, I2 (t + 4) q = 0) → Q S2 I2 M) : Vc mX9_init (d + 2) 22 138 [.ref t] S I L (VvQ Q) := by
  refine Vc.of rfl (Nat.le_of_ble_eq_true rfl) ?_
  have B := bs_X9_init
  show Vw mX9_init (d + 2) 22 138 22 138 (VvQ Q) 0 [(0, .ref t)] [] S I L
  have hk : (S.1 t).1 = 9 := by rw [h0]
  refine Vw.aload_n (de_aload_0 (B 0 _ rfl)) 0 rfl (n := 1) rfl ?_
  refine Vw.objInit (de_invokespecial (B 1 _ rfl) (B 2 _ rfl) (B 3 _ rfl)) ml_X9_3 oi_ok (Nat.le_of_ble_eq_true rfl) (n := 4) rfl ?_
  refine Vw.aload_n (de_aload_0 (B 4 _ rfl)) 0 rfl (n := 5) rfl ?_
  refine Vw.bipush (v := 8) (de_bipush (B 5 _ rfl) (B 6 _ rfl)) rfl (n := 7) rfl ?_
  refine Vw.na3 (len := 8) (cr := 21) (sr := 130) (de_anewarray (B 7 _ rfl) (B 8 _ rfl) (B 9 _ rfl)) cl_X9_9.1 ⟨by decide, by decide, by decide⟩ (n := 10) rfl (fun X1 U1 M1 w1 => ?_)
  have kx1 : (X1.1 t).1 = 9 := by rw [(w1.2.2.1 t (lta hN (by decide))).1]; exact hk
  refine Vw.putR (de_putfield (B 10 _ rfl) (B 11 _ rfl) (B 12 _ rfl)) fl_X9_11 kx1 rfl (Or.inr ⟨rfl, rfl, rfl⟩) (n := 13) rfl ?_
  have q1 := Gr.arr (a := t) (k := 0) w1 (lta hN (by decide))
  rw [hN] at q1 ⊢
  generalize sUp X1 t 0 (some (t + 1)) = S1 at q1 ⊢
  obtain ⟨g1, n1, kd1, rf1, z1, o1⟩ := q1
  have n1 : S1.2.2 = t + 2 := n1
  have k1 : (S1.1 t).1 = 9 := by rw [g1.kd (lta hN (by decide))]; exact hk
  refine Vw.aload_n (de_aload_0 (B 13 _ rfl)) 0 rfl (n := 14) rfl ?_
  refine Vw.bipush (v := 10) (de_bipush (B 14 _ rfl) (B 15 _ rfl)) rfl (n := 16) rfl ?_
  refine Vw.na0 (len := 10) (cr := 20) (sr := 120) (de_anewarray (B 16 _ rfl) (B 17 _ rfl) (B 18 _ rfl)) cl_X9_17.1 ⟨by decide, by decide, by decide⟩ (n := 19) rfl (fun X2 U2 M2 w2 => ?_)
  have kx2 : (X2.1 t).1 = 9 := by rw [(w2.2.2.1 t (lta n1 (by decide))).1]; exact k1
  refine Vw.putR (de_putfield (B 19 _ rfl) (B 20 _ rfl) (B 21 _ rfl)) fl_X9_19 kx2 rfl (Or.inr ⟨rfl, rfl, rfl⟩) (n := 22) rfl ?_
  have q2 := Gr.arr (a := t) (k := 1) w2 (lta n1 (by decide))
  rw [n1] at q2 ⊢
  generalize sUp X2 t 1 (some (t + 2)) = S2 at q2 ⊢
  obtain ⟨g2, n2, kd2, rf2, z2, o2⟩ := q2
  have n2 : S2.2.2 = t + 3 := n2
  have k2 : (S2.1 t).1 = 9 := by rw [g2.kd (lta n1 (by decide))]; exact k1
  refine Vw.aload_n (de_aload_0 (B 22 _ rfl)) 0 rfl (n := 23) rfl ?_
  refine Vw.iconst (v := 4) (de_iconst_4 (B 23 _ rfl)) rfl (n := 24) rfl ?_
  refine Vw.naI (len := 4) (cr := 19) (sr := 116) (de_newarray_int (B 24 _ rfl) (B 25 _ rfl)) ⟨by decide, by decide, by decide⟩ (n := 26) rfl (fun X3 U3 M3 w3 => ?_)
  have kx3 : (X3.1 t).1 = 9 := by rw [(w3.2.2.1 t (lta n2 (by decide))).1]; exact k2
  refine Vw.putR (de_putfield (B 26 _ rfl) (B 27 _ rfl) (B 28 _ rfl)) fl_X9_23 kx3 rfl (Or.inr ⟨rfl, rfl, rfl⟩) (n := 29) rfl ?_
  have q3 := Gr.arr (a := t) (k := 2) w3 (lta n2 (by decide))
  rw [n2] at q3 ⊢
  generalize sUp X3 t 2 (some (t + 3)) = S3 at q3 ⊢
  obtain ⟨g3, n3, kd3, rf3, z3, o3⟩ := q3
  have n3 : S3.2.2 = t + 4 := n3
  have k3 : (S3.1 t).1 = 9 := by rw [g3.kd (lta n2 (by decide))]; exact k2
  refine Vw.aload_n (de_aload_0 (B 29 _ rfl)) 0 rfl (n := 30) rfl ?_
  refine Vw.iconst (v := 4) (de_iconst_4 (B 30 _ rfl)) rfl (n := 31) rfl ?_
  refine Vw.naI (len := 4) (cr := 18) (sr := 112) (de_newarray_int (B 31 _ rfl) (B 32 _ rfl)) ⟨by decide, by decide, by decide⟩ (n := 33) rfl (fun X4 U4 M4 w4 => ?_)
  have kx4 : (X4.1 t).1 = 9 := by rw [(w4.2.2.1 t (lta n3 (by decide))).1]; exact k3
  refine Vw.putR (de_putfield (B 33 _ rfl) (B 34 _ rfl) (B 35 _ rfl)) fl_X9_27 kx4 rfl (Or.inr ⟨rfl, rfl, rfl⟩) (n := 36) rfl ?_
  have q4 := Gr.arr (a := t) (k := 3) w4 (lta n3 (by decide))
  rw [n3] at q4 ⊢
  generalize sUp X4 t 3 (some (t + 4)) = S4 at q4 ⊢
  obtain ⟨g4, n4, kd4, rf4, z4, o4⟩ := q4
  have n4 : S4.2.2 = t + 5 := n4
  have k4 : (S4.1 t).1 = 9 := by rw [g4.kd (lta n3 (by decide))]; exact k3
  refine Vw.iconst (v := 0) (de_iconst_0 (B 36 _ rfl)) rfl (n := 37) rfl ?_
  refine Vw.istore_n (lv2 := [(0, _), (1, _)]) (de_istore_1 (B 37 _ rfl)) rfl (by decide) [1, 0] rfl (n := 38) rfl ?_
  have j0 := g4
  have R4 := g4
  have P0 : S4.2.1 t 0 = some (t + 1) := by rw [g4.rf (by omega) (by decide), g3.rf (by omega) (by decide), g2.rf (by omega) (by decide)]; exact rf1
  have P1 : S4.2.1 t 1 = some (t + 2) := by rw [g4.rf (by omega) (by decide), g3.rf (by omega) (by decide)]; exact rf2
  have P2 : S4.2.1 t 2 = some (t + 3) := by rw [g4.rf (by omega) (by decide)]; exact rf3
  have Q1 : S4.1 (t + 1) = (113, 8) := by rw [g4.kd (by omega), g3.kd (by omega), g2.kd (by omega)]; exact kd1
  have Q2 : S4.1 (t + 2) = (110, 10) := by rw [g4.kd (by omega), g3.kd (by omega)]; exact kd2
  have Q3 : S4.1 (t + 3) = (100, 4) := by rw [g4.kd (by omega)]; exact kd3
  refine Vw.less (cr2 := 10 + 1 * 8) (sr2 := 80 + 4 * 8) (by omega) (by omega) ?_
  refine X9_l1 (d := d) k4 P0 Q1 (fun S5 I5 L5 l5 => ?_) 8 0 S4 U4 M4 rfl (LpE.zero n4)
  have k5 : (S5.1 t).1 = 9 := by rw [(l5.2.1 t (by omega)).1]; exact k4
  refine Vw.iconst (v := 0) (de_iconst_0 (B 63 _ rfl)) rfl (n := 64) rfl ?_
  refine Vw.istore_n (lv2 := [(0, _), (1, _)]) (de_istore_1 (B 64 _ rfl)) rfl (by decide) [1, 0] rfl (n := 65) rfl ?_
  have P1b : S5.2.1 t 1 = some (t + 2) := by rw [(l5.2.1 t (by omega)).2.1 (by omega)]; exact P1
  have Q2b : S5.1 (t + 2) = (110, 10) := by rw [(l5.2.1 _ (by omega)).1]; exact Q2
  refine Vw.less (cr2 := 0 + 1 * 10) (sr2 := 0 + 8 * 10) (by omega) (by omega) ?_
  refine X9_l2 (d := d) k5 P1b Q2b (fun S6 I6 L6 l6 => ?_) 10 0 S5 I5 L5 rfl (LpE.zero (by rw [l5.1]))
  have lo : ∀ b, b < t + 5 → S6.1 b = S4.1 b ∧ (b ≠ t + 1 → b ≠ t + 2 → S6.2.1 b = S4.2.1 b) ∧ I6 b = U4 b := fun b hb => ⟨(l6.2.1 b (by omega)).1.trans (l5.2.1 b hb).1, fun q1 q2 => ((l6.2.1 b (by omega)).2.1 q2).trans ((l5.2.1 b hb).2.1 q1), (l6.2.1 b (by omega)).2.2.trans (l5.2.1 b hb).2.2⟩
  have H4 := Gr.rfl (a := t) (S := S4) (I := U4)
  have H3 := g4.trans H4
  have H2 := g3.trans H3
  have H1 := g2.trans H2
  have H0 := g1.trans H1
  have nf : NF t S S6 I I6 := ⟨fun b hb => ⟨(lo b (by omega)).1.trans (H0.kd (by omega)), ((lo b (by omega)).2.1 (by omega) (by omega)).trans (H0.row (by omega) (by omega))⟩, (lo t (by omega)).1.trans (H0.kd (by omega)), fun b hb => (lo b (by omega)).2.2.trans (H0.ir (by omega) (by omega))⟩
  refine Vw.vret (de_return_ (B 90 _ rfl)) rfl ⟨rfl, h S6 I6 L6 (by rw [l6.1]) nf ⟨nf.2.1.trans h0, ?_, ?_, ?_, ?_, ?_, ?_, ?_, ?_, fun i hi => ?_, fun i hi => ?_⟩ (fun k => ?_) (fun q => ?_) (fun q => ?_)⟩
  · rw [(lo t (by omega)).2.1 (by omega) (by omega)]; exact P0
  · rw [(lo _ (by omega)).1]; exact Q1
  · rw [(lo t (by omega)).2.1 (by omega) (by omega)]; exact P1
  · rw [(lo _ (by omega)).1]; exact Q2
  · rw [(lo t (by omega)).2.1 (by omega) (by omega)]; exact P2
  · rw [(lo _ (by omega)).1]; exact Q3
  · rw [(lo t (by omega)).2.1 (by omega) (by omega)]; exact rf4
  · rw [(lo _ (by omega)).1]; exact kd4
  · obtain ⟨q1, q2⟩ := l5.2.2 i hi
    exact ⟨by rw [(l6.2.1 _ (by omega)).2.1 (by omega), q1]; congr 1; omega, by rw [show t + 5 + i = t + 5 + 1 * i by omega, (l6.2.1 _ (by omega)).1]; exact q2⟩
  · obtain ⟨q1, q2⟩ := l6.2.2 i hi
    exact ⟨by rw [q1]; congr 1; omega, by rw [show t + 13 + i = t + 13 + 1 * i by omega]; exact q2⟩
  · rw [(lo t (by omega)).2.2, H0.iv (by omega) (by simp)]; exact hz k
  · rw [(lo _ (by omega)).2.2, H3.ir (by omega) (by omega)]; exact z3 q
  · rw [(lo _ (by omega)).2.2]; exact z4 q
