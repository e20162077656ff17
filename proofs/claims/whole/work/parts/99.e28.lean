/-! Constructors of the class -/
def STZ (I : vI) (s : Nat) : Prop := (∀ k, I s k = if k = 3 then -1 else if k = 4 then 3 else 0) ∧ (∀ k, I (s + 1) k = 0) ∧ (∀ q, I (s + 1 + 3) q = 0) ∧ ∀ q, I (s + 1 + 4) q = 0
theorem STZ.of {I J : vI} {s : Nat} (h : STZ I s) (e : ∀ b, s ≤ b → b ≤ s + 27 → J b = I b) : STZ J s := by
  obtain ⟨h1, h2, h3, h4⟩ := h
  exact ⟨fun k => by rw [e _ (by omega) (by omega)]; exact h1 k, fun k => by rw [e _ (by omega) (by omega)]; exact h2 k, fun k => by rw [e _ (by omega) (by omega)]; exact h3 k, fun k => by rw [e _ (by omega) (by omega)]; exact h4 k⟩
theorem E_state : ∀ (S S2 : vS) (e : Nat), (StateS S e ∧ ∀ q, S.2.1 (e + 24) q = none) → (∀ b, e ≤ b → b < e + 28 → S2.1 b = S.1 b ∧ S2.2.1 b = S.2.1 b) → StateS S2 e ∧ ∀ q, S2.2.1 (e + 24) q = none := fun S S2 e h g => ⟨h.1.of (fun b g1 g2 => ⟨(g b g1 (by omega)).1, fun _ => (g b g1 (by omega)).2⟩), fun q => by rw [(g (e + 24) (by omega) (by omega)).2]; exact h.2 q⟩
section LO
variable {S S2 : vS} {I I2 : vI} {a q s u p t n m : Nat} {ks js : List Nat}
theorem StateS.lo (h : StateS S s) (hs : s + 28 ≤ q) (lo : ∀ b, b < q → S2.1 b = S.1 b ∧ S2.2.1 b = S.2.1 b) : StateS S2 s := h.of (fun b g1 g2 => ⟨(lo b (by omega)).1, fun _ => (lo b (by omega)).2⟩)
theorem RulesS.lo (h : RulesS S u s) (hu : u + 3 ≤ q) (hs : s + 28 ≤ q) (lo : ∀ b, b < q → S2.1 b = S.1 b ∧ S2.2.1 b = S.2.1 b) : RulesS S2 u s := h.of (h.p0.lo hs lo) (fun b g1 g2 => lo b (by omega))
theorem PlanS.lo (h : PlanS S p s u) (hp : p + 32 ≤ q) (hu : u + 3 ≤ q) (hs : s + 28 ≤ q) (lo : ∀ b, b < q → S2.1 b = S.1 b ∧ S2.2.1 b = S.2.1 b) : PlanS S2 p s u := h.of (h.p0.lo hs lo) (h.p1.lo hu hs lo) (fun b g1 g2 => lo b (by omega))
theorem Gr.rg (g : Gr a ks js S S2 I I2) (ha : a < t) (hn : t + n ≤ S.2.2) : ∀ b, t ≤ b → b < t + n → S2.1 b = S.1 b ∧ S2.2.1 b = S.2.1 b := fun b g1 g2 => ⟨g.kd (by omega), g.row (by omega) (by omega)⟩
theorem TownS.up (h : TownS S t) (g : Gr a ks js S S2 I I2) (ha : a < t) (hn : t + 23 ≤ S.2.2) : TownS S2 t := h.of (fun b g1 g2 => g.rg ha hn b g1 (by omega))
theorem ScS.up (h : ScS S t n m) (g : Gr a ks js S S2 I I2) (ha : a < t) (hn : t + 8 ≤ S.2.2) : ScS S2 t n m := h.rg (fun b g1 g2 => g.rg ha hn b g1 (by omega))
end LO
theorem c_X8_init {d : Nat} {S : vS} {I : vI} {L : vL} {Q : vS → vI → vL → Prop} {s : Nat} (h0 : S.1 s = (8, 0)) (hN : S.2.2 = s + 1) (hz : ∀ k, I s k = 0) (h : ∀ S2 I2 M, S2.2.2 = s + 28 → NF s S S2 I I2 → StateS S2 s → STZ I2 s → (∀ q, S2.2.1 (s + 24) q = none) → Q S2 I2 M) : Vc mX8_init (d + 3) 27 169 [.ref s] S I L (VvQ Q) := by
  refine Vc.of rfl (Nat.le_of_ble_eq_true rfl) ?_
  have B := bs_X8_init
  show Vw mX8_init (d + 3) 27 169 27 169 (VvQ Q) 0 [(0, .ref s)] [] S I L
  have hk : (S.1 s).1 = 8 := by rw [h0]
  refine Vw.aload_n (de_aload_0 (B 0 _ rfl)) 0 rfl (n := 1) rfl ?_
  refine Vw.objInit (de_invokespecial (B 1 _ rfl) (B 2 _ rfl) (B 3 _ rfl)) ml_X8_3 oi_ok (Nat.le_of_ble_eq_true rfl) (n := 4) rfl ?_
  refine Vw.aload_n (de_aload_0 (B 4 _ rfl)) 0 rfl (n := 5) rfl ?_
  refine Vw.newQ (c := 9) (cr := 26) (sr := 162) (de_new (B 5 _ rfl) (B 6 _ rfl) (B 7 _ rfl)) (by decide) cl_X8_9 (n := 8) rfl (fun X1 Y1 Z1 w1 => ?_)
  rw [hN]
  have wa1 := w1.at hN
  refine Vw.dup (de_dup (B 8 _ rfl)) rfl (n := 9) rfl ?_
  have kx1 : (X1.1 s).1 = 8 := by rw [(w1.2.2.1 s (lta hN (by decide))).1]; exact hk
  refine Vw.iiv0 (mi' := mX9_init) (cr := 4) (sr := 24) (mc' := 22) (ms' := 138) (de_invokespecial (B 9 _ rfl) (B 10 _ rfl) (B 11 _ rfl)) (Or.inl ml_X8_11) mi_X9_init (Nat.le_of_ble_eq_true rfl) (n := 12) rfl (c_X9_init (d := d) wa1.1 wa1.2.1 wa1.2.2 (fun V1 U1 M1 nn1 nf1 tw1 tz1 tc1 tp1 => ?_))
  have kv1 : (V1.1 s).1 = 8 := by rw [(nf1.1 s (Nat.lt_add_of_pos_right (by decide))).1]; exact kx1
  refine Vw.putR (de_putfield (B 12 _ rfl) (B 13 _ rfl) (B 14 _ rfl)) fl_X8_12 kv1 rfl (Or.inr ⟨rfl, rfl, rfl⟩) (n := 15) rfl ?_
  have q1 := Gr.obj (a := s) (k := 0) (m := 23) w1 (by rw [hN]; exact nf1) (by rw [hN, nn1]) (lta hN (by decide))
  rw [hN] at q1
  generalize sUp V1 s 0 (some (s + 1)) = S1 at q1 ⊢
  obtain ⟨g1, n1, rf1, sm1⟩ := q1
  have n1 : S1.2.2 = s + 24 := n1
  have k1 : (S1.1 s).1 = 8 := by rw [g1.kd (lta hN (by decide))]; exact hk
  refine Vw.aload_n (de_aload_0 (B 15 _ rfl)) 0 rfl (n := 16) rfl ?_
  refine Vw.bipush (v := 6) (de_bipush (B 16 _ rfl) (B 17 _ rfl)) rfl (n := 18) rfl ?_
  refine Vw.na7 (len := 6) (cr := 3) (sr := 18) (de_anewarray (B 18 _ rfl) (B 19 _ rfl) (B 20 _ rfl)) cl_X8_18.1 ⟨by decide, by decide, by decide⟩ (n := 21) rfl (fun X2 U2 M2 w2 => ?_)
  have kx2 : (X2.1 s).1 = 8 := by rw [(w2.2.2.1 s (lta n1 (by decide))).1]; exact k1
  refine Vw.putR (de_putfield (B 21 _ rfl) (B 22 _ rfl) (B 23 _ rfl)) fl_X8_20 kx2 rfl (Or.inr ⟨rfl, rfl, rfl⟩) (n := 24) rfl ?_
  have q2 := Gr.arr (a := s) (k := 1) w2 (lta n1 (by decide))
  rw [n1] at q2 ⊢
  generalize sUp X2 s 1 (some (s + 24)) = S2 at q2 ⊢
  obtain ⟨g2, n2, kd2, rf2, z2, o2⟩ := q2
  have n2 : S2.2.2 = s + 25 := n2
  have k2 : (S2.1 s).1 = 8 := by rw [g2.kd (lta n1 (by decide))]; exact k1
  refine Vw.aload_n (de_aload_0 (B 24 _ rfl)) 0 rfl (n := 25) rfl ?_
  refine Vw.iconst (v := -1) (de_iconst_m1 (B 25 _ rfl)) rfl (n := 26) rfl ?_
  refine Vw.putI (de_putfield (B 26 _ rfl) (B 27 _ rfl) (B 28 _ rfl)) fl_X8_24 k2 rfl rfl (n := 29) rfl ?_
  have q3 := Gr.int (S := S2) (I := U2) (a := s) (k := 3) (v := -1)
  generalize up2 U2 s 3 (-1) = U3 at q3 ⊢
  obtain ⟨g3, v3⟩ := q3
  refine Vw.aload_n (de_aload_0 (B 29 _ rfl)) 0 rfl (n := 30) rfl ?_
  refine Vw.iconst (v := 3) (de_iconst_3 (B 30 _ rfl)) rfl (n := 31) rfl ?_
  refine Vw.putI (de_putfield (B 31 _ rfl) (B 32 _ rfl) (B 33 _ rfl)) fl_X8_28 k2 rfl rfl (n := 34) rfl ?_
  have q4 := Gr.int (S := S2) (I := U3) (a := s) (k := 4) (v := 3)
  generalize up2 U3 s 4 (3) = U4 at q4 ⊢
  obtain ⟨g4, v4⟩ := q4
  refine Vw.aload_n (de_aload_0 (B 34 _ rfl)) 0 rfl (n := 35) rfl ?_
  refine Vw.bipush (v := 6) (de_bipush (B 35 _ rfl) (B 36 _ rfl)) rfl (n := 37) rfl ?_
  refine Vw.naI (len := 6) (cr := 2) (sr := 12) (de_newarray_int (B 37 _ rfl) (B 38 _ rfl)) ⟨by decide, by decide, by decide⟩ (n := 39) rfl (fun X5 U5 M5 w5 => ?_)
  have kx5 : (X5.1 s).1 = 8 := by rw [(w5.2.2.1 s (lta n2 (by decide))).1]; exact k2
  refine Vw.putR (de_putfield (B 39 _ rfl) (B 40 _ rfl) (B 41 _ rfl)) fl_X8_31 kx5 rfl (Or.inr ⟨rfl, rfl, rfl⟩) (n := 42) rfl ?_
  have q5 := Gr.arr (a := s) (k := 6) w5 (lta n2 (by decide))
  rw [n2] at q5 ⊢
  generalize sUp X5 s 6 (some (s + 25)) = S5 at q5 ⊢
  obtain ⟨g5, n5, kd5, rf5, z5, o5⟩ := q5
  have n5 : S5.2.2 = s + 26 := n5
  have k5 : (S5.1 s).1 = 8 := by rw [g5.kd (lta n2 (by decide))]; exact k2
  refine Vw.aload_n (de_aload_0 (B 42 _ rfl)) 0 rfl (n := 43) rfl ?_
  refine Vw.bipush (v := 6) (de_bipush (B 43 _ rfl) (B 44 _ rfl)) rfl (n := 45) rfl ?_
  refine Vw.naI (len := 6) (cr := 1) (sr := 6) (de_newarray_int (B 45 _ rfl) (B 46 _ rfl)) ⟨by decide, by decide, by decide⟩ (n := 47) rfl (fun X6 U6 M6 w6 => ?_)
  have kx6 : (X6.1 s).1 = 8 := by rw [(w6.2.2.1 s (lta n5 (by decide))).1]; exact k5
  refine Vw.putR (de_putfield (B 47 _ rfl) (B 48 _ rfl) (B 49 _ rfl)) fl_X8_35 kx6 rfl (Or.inr ⟨rfl, rfl, rfl⟩) (n := 50) rfl ?_
  have q6 := Gr.arr (a := s) (k := 7) w6 (lta n5 (by decide))
  rw [n5] at q6 ⊢
  generalize sUp X6 s 7 (some (s + 26)) = S6 at q6 ⊢
  obtain ⟨g6, n6, kd6, rf6, z6, o6⟩ := q6
  have n6 : S6.2.2 = s + 27 := n6
  have k6 : (S6.1 s).1 = 8 := by rw [g6.kd (lta n5 (by decide))]; exact k5
  refine Vw.aload_n (de_aload_0 (B 50 _ rfl)) 0 rfl (n := 51) rfl ?_
  refine Vw.bipush (v := 6) (de_bipush (B 51 _ rfl) (B 52 _ rfl)) rfl (n := 53) rfl ?_
  refine Vw.naI (len := 6) (cr := 0) (sr := 0) (de_newarray_int (B 53 _ rfl) (B 54 _ rfl)) ⟨by decide, by decide, by decide⟩ (n := 55) rfl (fun X7 U7 M7 w7 => ?_)
  have kx7 : (X7.1 s).1 = 8 := by rw [(w7.2.2.1 s (lta n6 (by decide))).1]; exact k6
  refine Vw.putR (de_putfield (B 55 _ rfl) (B 56 _ rfl) (B 57 _ rfl)) fl_X8_38 kx7 rfl (Or.inr ⟨rfl, rfl, rfl⟩) (n := 58) rfl ?_
  have q7 := Gr.arr (a := s) (k := 8) w7 (lta n6 (by decide))
  rw [n6] at q7 ⊢
  generalize sUp X7 s 8 (some (s + 27)) = S7 at q7 ⊢
  obtain ⟨g7, n7, kd7, rf7, z7, o7⟩ := q7
  have n7 : S7.2.2 = s + 28 := n7
  have k7 : (S7.1 s).1 = 8 := by rw [g7.kd (lta n6 (by decide))]; exact k6
  have H7 := Gr.rfl (a := s) (S := S7) (I := U7)
  have H6 := g7.trans H7
  have H5 := g6.trans H6
  have H4 := g5.trans H5
  have H3 := g4.trans H4
  have H2 := g3.trans H3
  have H1 := g2.trans H2
  have H0 := g1.trans H1
  refine Vw.vret (de_return_ (B 58 _ rfl)) rfl ⟨rfl, h _ _ _ n7 (H0.nf hN) ⟨(H0.kd (by omega)).trans h0, (by rw [H1.rf (lta n1 (by decide)) (by decide)]; exact rf1), (tw1.of (fun b g1 g2 => sm1 b g1)).up H1 (Nat.lt_add_of_pos_right (by decide)) (Nat.le_of_eq n1.symm), (by rw [H2.rf (lta n2 (by decide)) (by decide)]; exact rf2), (by rw [H2.kd (ltn n2 (by decide))]; exact kd2), (by rw [H5.rf (lta n5 (by decide)) (by decide)]; exact rf5), (by rw [H5.kd (ltn n5 (by decide))]; exact kd5), (by rw [H6.rf (lta n6 (by decide)) (by decide)]; exact rf6), (by rw [H6.kd (ltn n6 (by decide))]; exact kd6), (by rw [H7.rf (lta n7 (by decide)) (by decide)]; exact rf7), (by rw [H7.kd (ltn n7 (by decide))]; exact kd7)⟩ ⟨fun k => ?_, fun k => by rw [H1.ir (by omega) (by omega)]; exact tz1 k, fun q => by rw [H1.ir (by omega) (by omega)]; exact tc1 q, fun q => by rw [H1.ir (by omega) (by omega)]; exact tp1 q⟩ (fun q => by rw [H2.row (by omega) (by omega)]; exact o2 q)⟩
  by_cases e3 : k = 3
  · subst e3; rw [if_pos rfl, H3.iv (by omega) (by decide)]; exact v3
  · rw [if_neg e3]
    by_cases e4 : k = 4
    · subst e4; rw [if_pos rfl, H4.iv (by omega) (by decide)]; exact v4
    · rw [if_neg e4, H0.iv (by omega) (by simp [e3, e4])]; exact hz k
theorem c_X6_init {d : Nat} {S : vS} {I : vI} {L : vL} {Q : vS → vI → vL → Prop} {u s : Nat} (h0 : S.1 u = (6, 0)) (hN : S.2.2 = u + 1) (hz : ∀ k, I u k = 0) (hs : StateS S s) (hsu : s + 28 ≤ u) (h : ∀ S2 I2 M, S2.2.2 = u + 3 → NF u S S2 I I2 → RulesS S2 u s → Q S2 I2 M) : Vc mX6_init (d + 1) 2 48 [.ref u, .ref s] S I L (VvQ Q) := by
  refine Vc.of rfl (Nat.le_of_ble_eq_true rfl) ?_
  have B := bs_X6_init
  show Vw mX6_init (d + 1) 2 48 2 48 (VvQ Q) 0 [(0, .ref u), (1, .ref s)] [] S I L
  have hk : (S.1 u).1 = 6 := by rw [h0]
  refine Vw.aload_n (de_aload_0 (B 0 _ rfl)) 0 rfl (n := 1) rfl ?_
  refine Vw.objInit (de_invokespecial (B 1 _ rfl) (B 2 _ rfl) (B 3 _ rfl)) ml_X6_3 oi_ok (Nat.le_of_ble_eq_true rfl) (n := 4) rfl ?_
  refine Vw.aload_n (de_aload_0 (B 4 _ rfl)) 0 rfl (n := 5) rfl ?_
  refine Vw.bipush (v := 8) (de_bipush (B 5 _ rfl) (B 6 _ rfl)) rfl (n := 7) rfl ?_
  refine Vw.naI (len := 8) (cr := 1) (sr := 40) (de_newarray_int (B 7 _ rfl) (B 8 _ rfl)) ⟨by decide, by decide, by decide⟩ (n := 9) rfl (fun X1 U1 M1 w1 => ?_)
  have kx1 : (X1.1 u).1 = 6 := by rw [(w1.2.2.1 u (lta hN (by decide))).1]; exact hk
  refine Vw.putR (de_putfield (B 9 _ rfl) (B 10 _ rfl) (B 11 _ rfl)) fl_X6_9 kx1 rfl (Or.inr ⟨rfl, rfl, rfl⟩) (n := 12) rfl ?_
  have q1 := Gr.arr (a := u) (k := 1) w1 (lta hN (by decide))
  rw [hN] at q1 ⊢
  generalize sUp X1 u 1 (some (u + 1)) = S1 at q1 ⊢
  obtain ⟨g1, n1, kd1, rf1, z1, o1⟩ := q1
  have n1 : S1.2.2 = u + 2 := n1
  have k1 : (S1.1 u).1 = 6 := by rw [g1.kd (lta hN (by decide))]; exact hk
  refine Vw.aload_n (de_aload_0 (B 12 _ rfl)) 0 rfl (n := 13) rfl ?_
  refine Vw.bipush (v := 40) (de_bipush (B 13 _ rfl) (B 14 _ rfl)) rfl (n := 15) rfl ?_
  refine Vw.naJ (len := 40) (cr := 0) (sr := 0) (de_newarray_long (B 15 _ rfl) (B 16 _ rfl)) ⟨by decide, by decide, by decide⟩ (n := 17) rfl (fun X2 U2 M2 w2 => ?_)
  have kx2 : (X2.1 u).1 = 6 := by rw [(w2.2.2.1 u (lta n1 (by decide))).1]; exact k1
  refine Vw.putR (de_putfield (B 17 _ rfl) (B 18 _ rfl) (B 19 _ rfl)) fl_X6_15 kx2 rfl (Or.inr ⟨rfl, rfl, rfl⟩) (n := 20) rfl ?_
  have q2 := Gr.arr (a := u) (k := 2) w2 (lta n1 (by decide))
  rw [n1] at q2 ⊢
  generalize sUp X2 u 2 (some (u + 2)) = S2 at q2 ⊢
  obtain ⟨g2, n2, kd2, rf2, z2, o2⟩ := q2
  have n2 : S2.2.2 = u + 3 := n2
  have k2 : (S2.1 u).1 = 6 := by rw [g2.kd (lta n1 (by decide))]; exact k1
  refine Vw.aload_n (de_aload_0 (B 20 _ rfl)) 0 rfl (n := 21) rfl ?_
  refine Vw.aload_n (de_aload_1 (B 21 _ rfl)) 1 rfl (n := 22) rfl ?_
  refine Vw.putR (de_putfield (B 22 _ rfl) (B 23 _ rfl) (B 24 _ rfl)) fl_X6_19 k2 rfl (Or.inr ⟨rfl, rfl, rfl⟩) (n := 25) rfl ?_
  have q3 := Gr.ref (S := S2) (I := U2) (a := u) (k := 0) (v := s)
  generalize sUp S2 u 0 (some s) = S3 at q3 ⊢
  obtain ⟨g3, n3, rf3⟩ := q3
  have n3 : S3.2.2 = u + 3 := n3.trans n2
  have k3 : (S3.1 u).1 = 6 := by rw [g3.kd (lta n2 (by decide))]; exact k2
  have H3 := Gr.rfl (a := u) (S := S3) (I := U2)
  have H2 := g3.trans H3
  have H1 := g2.trans H2
  have H0 := g1.trans H1
  exact Vw.vret (de_return_ (B 25 _ rfl)) rfl ⟨rfl, h _ _ _ n3 (H0.nf hN) ⟨(H0.kd (by omega)).trans h0, (by rw [H3.rf (lta n3 (by decide)) (by decide)]; exact rf3), (hs.lo hsu (H0.nf hN).1), (by rw [H1.rf (lta n1 (by decide)) (by decide)]; exact rf1), (by rw [H1.kd (ltn n1 (by decide))]; exact kd1), (by rw [H2.rf (lta n2 (by decide)) (by decide)]; exact rf2), (by rw [H2.kd (ltn n2 (by decide))]; exact kd2)⟩⟩
theorem c_X10_init {d : Nat} {S : vS} {I : vI} {L : vL} {Q : vS → vI → vL → Prop} {w s u : Nat} (h0 : S.1 w = (10, 0)) (hN : S.2.2 = w + 1) (hz : ∀ k, I w k = 0) (hs : StateS S s) (hsu : s + 28 ≤ w) (hu : RulesS S u s) (huw : u + 3 ≤ w) (h : ∀ S2 I2 M, S2.2.2 = w + 2 → NF w S S2 I I2 → WorksS S2 w s u → Q S2 I2 M) : Vc mX10_init (d + 1) 1 19 [.ref w, .ref s, .ref u] S I L (VvQ Q) := by
  refine Vc.of rfl (Nat.le_of_ble_eq_true rfl) ?_
  have B := bs_X10_init
  show Vw mX10_init (d + 1) 1 19 1 19 (VvQ Q) 0 [(0, .ref w), (1, .ref s), (2, .ref u)] [] S I L
  have hk : (S.1 w).1 = 10 := by rw [h0]
  refine Vw.aload_n (de_aload_0 (B 0 _ rfl)) 0 rfl (n := 1) rfl ?_
  refine Vw.objInit (de_invokespecial (B 1 _ rfl) (B 2 _ rfl) (B 3 _ rfl)) ml_X10_3 oi_ok (Nat.le_of_ble_eq_true rfl) (n := 4) rfl ?_
  refine Vw.aload_n (de_aload_0 (B 4 _ rfl)) 0 rfl (n := 5) rfl ?_
  refine Vw.bipush (v := 19) (de_bipush (B 5 _ rfl) (B 6 _ rfl)) rfl (n := 7) rfl ?_
  refine Vw.naI (len := 19) (cr := 0) (sr := 0) (de_newarray_int (B 7 _ rfl) (B 8 _ rfl)) ⟨by decide, by decide, by decide⟩ (n := 9) rfl (fun X1 U1 M1 w1 => ?_)
  have kx1 : (X1.1 w).1 = 10 := by rw [(w1.2.2.1 w (lta hN (by decide))).1]; exact hk
  refine Vw.putR (de_putfield (B 9 _ rfl) (B 10 _ rfl) (B 11 _ rfl)) fl_X10_9 kx1 rfl (Or.inr ⟨rfl, rfl, rfl⟩) (n := 12) rfl ?_
  have q1 := Gr.arr (a := w) (k := 2) w1 (lta hN (by decide))
  rw [hN] at q1 ⊢
  generalize sUp X1 w 2 (some (w + 1)) = S1 at q1 ⊢
  obtain ⟨g1, n1, kd1, rf1, z1, o1⟩ := q1
  have n1 : S1.2.2 = w + 2 := n1
  have k1 : (S1.1 w).1 = 10 := by rw [g1.kd (lta hN (by decide))]; exact hk
  refine Vw.aload_n (de_aload_0 (B 12 _ rfl)) 0 rfl (n := 13) rfl ?_
  refine Vw.aload_n (de_aload_1 (B 13 _ rfl)) 1 rfl (n := 14) rfl ?_
  refine Vw.putR (de_putfield (B 14 _ rfl) (B 15 _ rfl) (B 16 _ rfl)) fl_X10_15 k1 rfl (Or.inr ⟨rfl, rfl, rfl⟩) (n := 17) rfl ?_
  have q2 := Gr.ref (S := S1) (I := U1) (a := w) (k := 0) (v := s)
  generalize sUp S1 w 0 (some s) = S2 at q2 ⊢
  obtain ⟨g2, n2, rf2⟩ := q2
  have n2 : S2.2.2 = w + 2 := n2.trans n1
  have k2 : (S2.1 w).1 = 10 := by rw [g2.kd (lta n1 (by decide))]; exact k1
  refine Vw.aload_n (de_aload_0 (B 17 _ rfl)) 0 rfl (n := 18) rfl ?_
  refine Vw.aload_n (de_aload_2 (B 18 _ rfl)) 2 rfl (n := 19) rfl ?_
  refine Vw.putR (de_putfield (B 19 _ rfl) (B 20 _ rfl) (B 21 _ rfl)) fl_X10_19 k2 rfl (Or.inr ⟨rfl, rfl, rfl⟩) (n := 22) rfl ?_
  have q3 := Gr.ref (S := S2) (I := U1) (a := w) (k := 1) (v := u)
  generalize sUp S2 w 1 (some u) = S3 at q3 ⊢
  obtain ⟨g3, n3, rf3⟩ := q3
  have n3 : S3.2.2 = w + 2 := n3.trans n2
  have k3 : (S3.1 w).1 = 10 := by rw [g3.kd (lta n2 (by decide))]; exact k2
  have H3 := Gr.rfl (a := w) (S := S3) (I := U1)
  have H2 := g3.trans H3
  have H1 := g2.trans H2
  have H0 := g1.trans H1
  exact Vw.vret (de_return_ (B 22 _ rfl)) rfl ⟨rfl, h _ _ _ n3 (H0.nf hN) ⟨(H0.kd (by omega)).trans h0, (by rw [H2.rf (lta n2 (by decide)) (by decide)]; exact rf2), (hs.lo hsu (H0.nf hN).1), (by rw [H3.rf (lta n3 (by decide)) (by decide)]; exact rf3), (hu.lo huw hsu (H0.nf hN).1), (by rw [H1.rf (lta n1 (by decide)) (by decide)]; exact rf1), (by rw [H1.kd (ltn n1 (by decide))]; exact kd1)⟩⟩
theorem c_X4_init {d : Nat} {S : vS} {I : vI} {L : vL} {Q : vS → vI → vL → Prop} {p s u : Nat} (h0 : S.1 p = (4, 0)) (hN : S.2.2 = p + 1) (hz : ∀ k, I p k = 0) (hs : StateS S s) (hsu : s + 28 ≤ p) (hu : RulesS S u s) (huw : u + 3 ≤ p) (h : ∀ S2 I2 M, S2.2.2 = p + 32 → NF p S S2 I I2 → PlanS S2 p s u → (∀ k, I2 p k = 0) → Q S2 I2 M) : Vc mX4_init (d + 3) 31 810 [.ref p, .ref s, .ref u] S I L (VvQ Q) := by
  refine Vc.of rfl (Nat.le_of_ble_eq_true rfl) ?_
  have B := bs_X4_init
  show Vw mX4_init (d + 3) 31 810 31 810 (VvQ Q) 0 [(0, .ref p), (1, .ref s), (2, .ref u)] [] S I L
  have hk : (S.1 p).1 = 4 := by rw [h0]
  refine Vw.aload_n (de_aload_0 (B 0 _ rfl)) 0 rfl (n := 1) rfl ?_
  refine Vw.objInit (de_invokespecial (B 1 _ rfl) (B 2 _ rfl) (B 3 _ rfl)) ml_X4_3 oi_ok (Nat.le_of_ble_eq_true rfl) (n := 4) rfl ?_
  refine Vw.aload_n (de_aload_0 (B 4 _ rfl)) 0 rfl (n := 5) rfl ?_
  refine Vw.newQ (c := 3) (cr := 30) (sr := 806) (de_new (B 5 _ rfl) (B 6 _ rfl) (B 7 _ rfl)) (by decide) cl_X4_9 (n := 8) rfl (fun X1 Y1 Z1 w1 => ?_)
  rw [hN]
  have wa1 := w1.at hN
  refine Vw.dup (de_dup (B 8 _ rfl)) rfl (n := 9) rfl ?_
  have kx1 : (X1.1 p).1 = 4 := by rw [(w1.2.2.1 p (lta hN (by decide))).1]; exact hk
  refine Vw.iiv0 (mi' := mX3_init) (cr := 30) (sr := 806) (mc' := 0) (ms' := 0) (de_invokespecial (B 9 _ rfl) (B 10 _ rfl) (B 11 _ rfl)) (Or.inr (by decide)) mi_X3_init (Nat.le_of_ble_eq_true rfl) (n := 12) rfl (c_X3_init (d := d + 1) (fun V1 U1 M1 nn1 nf1 e1 => ?_))
  have nn1 : V1.2.2 = p + 1 + 1 := by rw [nn1, wa1.2.1]
  have kp1 : V1.1 (p + 1) = (3, 0) := by rw [nf1.2.1]; exact wa1.1
  have kv1 : (V1.1 p).1 = 4 := by rw [(nf1.1 p (Nat.lt_add_of_pos_right (by decide))).1]; exact kx1
  refine Vw.putR (de_putfield (B 12 _ rfl) (B 13 _ rfl) (B 14 _ rfl)) fl_X4_12 kv1 rfl (Or.inr ⟨rfl, rfl, rfl⟩) (n := 15) rfl ?_
  have q1 := Gr.obj (a := p) (k := 2) (m := 1) w1 (by rw [hN]; exact nf1) (by rw [hN, nn1]) (lta hN (by decide))
  rw [hN] at q1
  generalize sUp V1 p 2 (some (p + 1)) = S1 at q1 ⊢
  obtain ⟨g1, n1, rf1, sm1⟩ := q1
  have n1 : S1.2.2 = p + 2 := n1
  have k1 : (S1.1 p).1 = 4 := by rw [g1.kd (lta hN (by decide))]; exact hk
  refine Vw.aload_n (de_aload_0 (B 15 _ rfl)) 0 rfl (n := 16) rfl ?_
  refine Vw.bipush (v := 81) (de_bipush (B 16 _ rfl) (B 17 _ rfl)) rfl (n := 18) rfl ?_
  refine Vw.naI (len := 81) (cr := 29) (sr := 725) (de_newarray_int (B 18 _ rfl) (B 19 _ rfl)) ⟨by decide, by decide, by decide⟩ (n := 20) rfl (fun X2 U2 M2 w2 => ?_)
  have kx2 : (X2.1 p).1 = 4 := by rw [(w2.2.2.1 p (lta n1 (by decide))).1]; exact k1
  refine Vw.putR (de_putfield (B 20 _ rfl) (B 21 _ rfl) (B 22 _ rfl)) fl_X4_18 kx2 rfl (Or.inr ⟨rfl, rfl, rfl⟩) (n := 23) rfl ?_
  have q2 := Gr.arr (a := p) (k := 3) w2 (lta n1 (by decide))
  rw [n1] at q2 ⊢
  generalize sUp X2 p 3 (some (p + 2)) = S2 at q2 ⊢
  obtain ⟨g2, n2, kd2, rf2, z2, o2⟩ := q2
  have n2 : S2.2.2 = p + 3 := n2
  have k2 : (S2.1 p).1 = 4 := by rw [g2.kd (lta n1 (by decide))]; exact k1
  refine Vw.aload_n (de_aload_0 (B 23 _ rfl)) 0 rfl (n := 24) rfl ?_
  refine Vw.bipush (v := 81) (de_bipush (B 24 _ rfl) (B 25 _ rfl)) rfl (n := 26) rfl ?_
  refine Vw.naI (len := 81) (cr := 28) (sr := 644) (de_newarray_int (B 26 _ rfl) (B 27 _ rfl)) ⟨by decide, by decide, by decide⟩ (n := 28) rfl (fun X3 U3 M3 w3 => ?_)
  have kx3 : (X3.1 p).1 = 4 := by rw [(w3.2.2.1 p (lta n2 (by decide))).1]; exact k2
  refine Vw.putR (de_putfield (B 28 _ rfl) (B 29 _ rfl) (B 30 _ rfl)) fl_X4_22 kx3 rfl (Or.inr ⟨rfl, rfl, rfl⟩) (n := 31) rfl ?_
  have q3 := Gr.arr (a := p) (k := 4) w3 (lta n2 (by decide))
  rw [n2] at q3 ⊢
  generalize sUp X3 p 4 (some (p + 3)) = S3 at q3 ⊢
  obtain ⟨g3, n3, kd3, rf3, z3, o3⟩ := q3
  have n3 : S3.2.2 = p + 4 := n3
  have k3 : (S3.1 p).1 = 4 := by rw [g3.kd (lta n2 (by decide))]; exact k2
  refine Vw.aload_n (de_aload_0 (B 31 _ rfl)) 0 rfl (n := 32) rfl ?_
  refine Vw.bipush (v := 81) (de_bipush (B 32 _ rfl) (B 33 _ rfl)) rfl (n := 34) rfl ?_
  refine Vw.naI (len := 81) (cr := 27) (sr := 563) (de_newarray_int (B 34 _ rfl) (B 35 _ rfl)) ⟨by decide, by decide, by decide⟩ (n := 36) rfl (fun X4 U4 M4 w4 => ?_)
  have kx4 : (X4.1 p).1 = 4 := by rw [(w4.2.2.1 p (lta n3 (by decide))).1]; exact k3
  refine Vw.putR (de_putfield (B 36 _ rfl) (B 37 _ rfl) (B 38 _ rfl)) fl_X4_25 kx4 rfl (Or.inr ⟨rfl, rfl, rfl⟩) (n := 39) rfl ?_
  have q4 := Gr.arr (a := p) (k := 5) w4 (lta n3 (by decide))
  rw [n3] at q4 ⊢
  generalize sUp X4 p 5 (some (p + 4)) = S4 at q4 ⊢
  obtain ⟨g4, n4, kd4, rf4, z4, o4⟩ := q4
  have n4 : S4.2.2 = p + 5 := n4
  have k4 : (S4.1 p).1 = 4 := by rw [g4.kd (lta n3 (by decide))]; exact k3
  refine Vw.aload_n (de_aload_0 (B 39 _ rfl)) 0 rfl (n := 40) rfl ?_
  refine Vw.sipush (v := 201) (de_sipush (B 40 _ rfl) (B 41 _ rfl) (B 42 _ rfl)) rfl (n := 43) rfl ?_
  refine Vw.naJ (len := 201) (cr := 26) (sr := 362) (de_newarray_long (B 43 _ rfl) (B 44 _ rfl)) ⟨by decide, by decide, by decide⟩ (n := 45) rfl (fun X5 U5 M5 w5 => ?_)
  have kx5 : (X5.1 p).1 = 4 := by rw [(w5.2.2.1 p (lta n4 (by decide))).1]; exact k4
  refine Vw.putR (de_putfield (B 45 _ rfl) (B 46 _ rfl) (B 47 _ rfl)) fl_X4_28 kx5 rfl (Or.inr ⟨rfl, rfl, rfl⟩) (n := 48) rfl ?_
  have q5 := Gr.arr (a := p) (k := 6) w5 (lta n4 (by decide))
  rw [n4] at q5 ⊢
  generalize sUp X5 p 6 (some (p + 5)) = S5 at q5 ⊢
  obtain ⟨g5, n5, kd5, rf5, z5, o5⟩ := q5
  have n5 : S5.2.2 = p + 6 := n5
  have k5 : (S5.1 p).1 = 4 := by rw [g5.kd (lta n4 (by decide))]; exact k4
  refine Vw.aload_n (de_aload_0 (B 48 _ rfl)) 0 rfl (n := 49) rfl ?_
  refine Vw.sipush (v := 201) (de_sipush (B 49 _ rfl) (B 50 _ rfl) (B 51 _ rfl)) rfl (n := 52) rfl ?_
  refine Vw.naJ (len := 201) (cr := 25) (sr := 161) (de_newarray_long (B 52 _ rfl) (B 53 _ rfl)) ⟨by decide, by decide, by decide⟩ (n := 54) rfl (fun X6 U6 M6 w6 => ?_)
  have kx6 : (X6.1 p).1 = 4 := by rw [(w6.2.2.1 p (lta n5 (by decide))).1]; exact k5
  refine Vw.putR (de_putfield (B 54 _ rfl) (B 55 _ rfl) (B 56 _ rfl)) fl_X4_32 kx6 rfl (Or.inr ⟨rfl, rfl, rfl⟩) (n := 57) rfl ?_
  have q6 := Gr.arr (a := p) (k := 7) w6 (lta n5 (by decide))
  rw [n5] at q6 ⊢
  generalize sUp X6 p 7 (some (p + 6)) = S6 at q6 ⊢
  obtain ⟨g6, n6, kd6, rf6, z6, o6⟩ := q6
  have n6 : S6.2.2 = p + 7 := n6
  have k6 : (S6.1 p).1 = 4 := by rw [g6.kd (lta n5 (by decide))]; exact k5
  refine Vw.aload_n (de_aload_0 (B 57 _ rfl)) 0 rfl (n := 58) rfl ?_
  refine Vw.bipush (v := 8) (de_bipush (B 58 _ rfl) (B 59 _ rfl)) rfl (n := 60) rfl ?_
  refine Vw.naI (len := 8) (cr := 24) (sr := 153) (de_newarray_int (B 60 _ rfl) (B 61 _ rfl)) ⟨by decide, by decide, by decide⟩ (n := 62) rfl (fun X7 U7 M7 w7 => ?_)
  have kx7 : (X7.1 p).1 = 4 := by rw [(w7.2.2.1 p (lta n6 (by decide))).1]; exact k6
  refine Vw.putR (de_putfield (B 62 _ rfl) (B 63 _ rfl) (B 64 _ rfl)) fl_X4_35 kx7 rfl (Or.inr ⟨rfl, rfl, rfl⟩) (n := 65) rfl ?_
  have q7 := Gr.arr (a := p) (k := 8) w7 (lta n6 (by decide))
  rw [n6] at q7 ⊢
  generalize sUp X7 p 8 (some (p + 7)) = S7 at q7 ⊢
  obtain ⟨g7, n7, kd7, rf7, z7, o7⟩ := q7
  have n7 : S7.2.2 = p + 8 := n7
  have k7 : (S7.1 p).1 = 4 := by rw [g7.kd (lta n6 (by decide))]; exact k6
  refine Vw.aload_n (de_aload_0 (B 65 _ rfl)) 0 rfl (n := 66) rfl ?_
  refine Vw.bipush (v := 8) (de_bipush (B 66 _ rfl) (B 67 _ rfl)) rfl (n := 68) rfl ?_
  refine Vw.naZ (len := 8) (cr := 23) (sr := 145) (de_newarray_boolean (B 68 _ rfl) (B 69 _ rfl)) ⟨by decide, by decide, by decide⟩ (n := 70) rfl (fun X8 U8 M8 w8 => ?_)
  have kx8 : (X8.1 p).1 = 4 := by rw [(w8.2.2.1 p (lta n7 (by decide))).1]; exact k7
  refine Vw.putR (de_putfield (B 70 _ rfl) (B 71 _ rfl) (B 72 _ rfl)) fl_X4_38 kx8 rfl (Or.inr ⟨rfl, rfl, rfl⟩) (n := 73) rfl ?_
  have q8 := Gr.arr (a := p) (k := 9) w8 (lta n7 (by decide))
  rw [n7] at q8 ⊢
  generalize sUp X8 p 9 (some (p + 8)) = S8 at q8 ⊢
  obtain ⟨g8, n8, kd8, rf8, z8, o8⟩ := q8
  have n8 : S8.2.2 = p + 9 := n8
  have k8 : (S8.1 p).1 = 4 := by rw [g8.kd (lta n7 (by decide))]; exact k7
  refine Vw.aload_n (de_aload_0 (B 73 _ rfl)) 0 rfl (n := 74) rfl ?_
  refine Vw.newQ (c := 9) (cr := 22) (sr := 138) (de_new (B 74 _ rfl) (B 75 _ rfl) (B 76 _ rfl)) (by decide) cl_X4_42 (n := 77) rfl (fun X9 Y9 Z9 w9 => ?_)
  rw [n8]
  have wa9 := w9.at n8
  refine Vw.dup (de_dup (B 77 _ rfl)) rfl (n := 78) rfl ?_
  have kx9 : (X9.1 p).1 = 4 := by rw [(w9.2.2.1 p (lta n8 (by decide))).1]; exact k8
  refine Vw.iiv0 (mi' := mX9_init) (cr := 0) (sr := 0) (mc' := 22) (ms' := 138) (de_invokespecial (B 78 _ rfl) (B 79 _ rfl) (B 80 _ rfl)) (Or.inl ml_X4_44) mi_X9_init (Nat.le_of_ble_eq_true rfl) (n := 81) rfl (c_X9_init (d := d) wa9.1 wa9.2.1 wa9.2.2 (fun V9 U9 M9 nn9 nf9 tw9 tz9 tc9 tp9 => ?_))
  have kv9 : (V9.1 p).1 = 4 := by rw [(nf9.1 p (Nat.lt_add_of_pos_right (by decide))).1]; exact kx9
  refine Vw.putR (de_putfield (B 81 _ rfl) (B 82 _ rfl) (B 83 _ rfl)) fl_X4_45 kv9 rfl (Or.inr ⟨rfl, rfl, rfl⟩) (n := 84) rfl ?_
  have q9 := Gr.obj (a := p) (k := 10) (m := 23) w9 (by rw [n8]; exact nf9) (by rw [n8, nn9]) (lta n8 (by decide))
  rw [n8] at q9
  generalize sUp V9 p 10 (some (p + 9)) = S9 at q9 ⊢
  obtain ⟨g9, n9, rf9, sm9⟩ := q9
  have n9 : S9.2.2 = p + 32 := n9
  have k9 : (S9.1 p).1 = 4 := by rw [g9.kd (lta n8 (by decide))]; exact k8
  refine Vw.aload_n (de_aload_0 (B 84 _ rfl)) 0 rfl (n := 85) rfl ?_
  refine Vw.aload_n (de_aload_1 (B 85 _ rfl)) 1 rfl (n := 86) rfl ?_
  refine Vw.putR (de_putfield (B 86 _ rfl) (B 87 _ rfl) (B 88 _ rfl)) fl_X4_49 k9 rfl (Or.inr ⟨rfl, rfl, rfl⟩) (n := 89) rfl ?_
  have q10 := Gr.ref (S := S9) (I := U9) (a := p) (k := 0) (v := s)
  generalize sUp S9 p 0 (some s) = S10 at q10 ⊢
  obtain ⟨g10, n10, rf10⟩ := q10
  have n10 : S10.2.2 = p + 32 := n10.trans n9
  have k10 : (S10.1 p).1 = 4 := by rw [g10.kd (lta n9 (by decide))]; exact k9
  refine Vw.aload_n (de_aload_0 (B 89 _ rfl)) 0 rfl (n := 90) rfl ?_
  refine Vw.aload_n (de_aload_2 (B 90 _ rfl)) 2 rfl (n := 91) rfl ?_
  refine Vw.putR (de_putfield (B 91 _ rfl) (B 92 _ rfl) (B 93 _ rfl)) fl_X4_53 k10 rfl (Or.inr ⟨rfl, rfl, rfl⟩) (n := 94) rfl ?_
  have q11 := Gr.ref (S := S10) (I := U9) (a := p) (k := 1) (v := u)
  generalize sUp S10 p 1 (some u) = S11 at q11 ⊢
  obtain ⟨g11, n11, rf11⟩ := q11
  have n11 : S11.2.2 = p + 32 := n11.trans n10
  have k11 : (S11.1 p).1 = 4 := by rw [g11.kd (lta n10 (by decide))]; exact k10
  have H11 := Gr.rfl (a := p) (S := S11) (I := U9)
  have H10 := g11.trans H11
  have H9 := g10.trans H10
  have H8 := g9.trans H9
  have H7 := g8.trans H8
  have H6 := g7.trans H7
  have H5 := g6.trans H6
  have H4 := g5.trans H5
  have H3 := g4.trans H4
  have H2 := g3.trans H3
  have H1 := g2.trans H2
  have H0 := g1.trans H1
  refine Vw.vret (de_return_ (B 94 _ rfl)) rfl ⟨rfl, h _ _ _ n11 (H0.nf hN) ⟨(H0.kd (by omega)).trans h0, ?_, ?_, ?_, ?_, ?_, ?_, ?_, ?_, ?_, ?_, ?_, ?_, ?_, ?_, ?_, ?_, ?_, ?_, ?_, ?_, ?_, ?_⟩ (fun k => ?_)⟩
  · exact (by rw [H10.rf (lta n10 (by decide)) (by decide)]; exact rf10)
  · exact (hs.lo hsu (H0.nf hN).1)
  · exact (by rw [H11.rf (lta n11 (by decide)) (by decide)]; exact rf11)
  · exact (hu.lo huw hsu (H0.nf hN).1)
  · exact (by rw [H1.rf (lta n1 (by decide)) (by decide)]; exact rf1)
  · exact (by rw [H1.kd (ltn n1 (by decide)), (sm1 _ (Nat.le_refl _)).1]; exact kp1)
  · exact (by rw [H2.rf (lta n2 (by decide)) (by decide)]; exact rf2)
  · exact (by rw [H2.kd (ltn n2 (by decide))]; exact kd2)
  · exact (by rw [H3.rf (lta n3 (by decide)) (by decide)]; exact rf3)
  · exact (by rw [H3.kd (ltn n3 (by decide))]; exact kd3)
  · exact (by rw [H4.rf (lta n4 (by decide)) (by decide)]; exact rf4)
  · exact (by rw [H4.kd (ltn n4 (by decide))]; exact kd4)
  · exact (by rw [H5.rf (lta n5 (by decide)) (by decide)]; exact rf5)
  · exact (by rw [H5.kd (ltn n5 (by decide))]; exact kd5)
  · exact (by rw [H6.rf (lta n6 (by decide)) (by decide)]; exact rf6)
  · exact (by rw [H6.kd (ltn n6 (by decide))]; exact kd6)
  · exact (by rw [H7.rf (lta n7 (by decide)) (by decide)]; exact rf7)
  · exact (by rw [H7.kd (ltn n7 (by decide))]; exact kd7)
  · exact (by rw [H8.rf (lta n8 (by decide)) (by decide)]; exact rf8)
  · exact (by rw [H8.kd (ltn n8 (by decide))]; exact kd8)
  · exact (by rw [H9.rf (lta n9 (by decide)) (by decide)]; exact rf9)
  · exact ((tw9.of (fun b g1 g2 => sm9 b g1)).up H9 (Nat.lt_add_of_pos_right (by decide)) (Nat.le_of_eq n9.symm))
  · rw [H0.iv (by omega) (by simp)]; exact hz k
theorem c_X1_init {d : Nat} {S : vS} {I : vI} {L : vL} {Q : vS → vI → vL → Prop} {c s u p : Nat} (h0 : S.1 c = (1, 0)) (hN : S.2.2 = c + 1) (hz : ∀ k, I c k = 0) (hs : StateS S s) (hsu : s + 28 ≤ c) (hu : RulesS S u s) (huw : u + 3 ≤ c) (hp : PlanS S p s u) (hpc : p + 32 ≤ c) (h : ∀ S2 I2 M, S2.2.2 = c + 9 → NF c S S2 I I2 → CutS S2 c s u p → Q S2 I2 M) : Vc mX1_init (d + 1) 8 11316 [.ref c, .ref s, .ref u, .ref p] S I L (VvQ Q) := by
  refine Vc.of rfl (Nat.le_of_ble_eq_true rfl) ?_
  have B := bs_X1_init
  show Vw mX1_init (d + 1) 8 11316 8 11316 (VvQ Q) 0 [(0, .ref c), (1, .ref s), (2, .ref u), (3, .ref p)] [] S I L
  have hk : (S.1 c).1 = 1 := by rw [h0]
  refine Vw.aload_n (de_aload_0 (B 0 _ rfl)) 0 rfl (n := 1) rfl ?_
  refine Vw.objInit (de_invokespecial (B 1 _ rfl) (B 2 _ rfl) (B 3 _ rfl)) ml_X1_3 oi_ok (Nat.le_of_ble_eq_true rfl) (n := 4) rfl ?_
  refine Vw.aload_n (de_aload_0 (B 4 _ rfl)) 0 rfl (n := 5) rfl ?_
  refine Vw.sipush (v := 128) (de_sipush (B 5 _ rfl) (B 6 _ rfl) (B 7 _ rfl)) rfl (n := 8) rfl ?_
  refine Vw.naI (len := 128) (cr := 7) (sr := 11188) (de_newarray_int (B 8 _ rfl) (B 9 _ rfl)) ⟨by decide, by decide, by decide⟩ (n := 10) rfl (fun X1 U1 M1 w1 => ?_)
  have kx1 : (X1.1 c).1 = 1 := by rw [(w1.2.2.1 c (lta hN (by decide))).1]; exact hk
  refine Vw.putR (de_putfield (B 10 _ rfl) (B 11 _ rfl) (B 12 _ rfl)) fl_X1_9 kx1 rfl (Or.inr ⟨rfl, rfl, rfl⟩) (n := 13) rfl ?_
  have q1 := Gr.arr (a := c) (k := 3) w1 (lta hN (by decide))
  rw [hN] at q1 ⊢
  generalize sUp X1 c 3 (some (c + 1)) = S1 at q1 ⊢
  obtain ⟨g1, n1, kd1, rf1, z1, o1⟩ := q1
  have n1 : S1.2.2 = c + 2 := n1
  have k1 : (S1.1 c).1 = 1 := by rw [g1.kd (lta hN (by decide))]; exact hk
  refine Vw.aload_n (de_aload_0 (B 13 _ rfl)) 0 rfl (n := 14) rfl ?_
  refine Vw.sipush (v := 128) (de_sipush (B 14 _ rfl) (B 15 _ rfl) (B 16 _ rfl)) rfl (n := 17) rfl ?_
  refine Vw.naI (len := 128) (cr := 6) (sr := 11060) (de_newarray_int (B 17 _ rfl) (B 18 _ rfl)) ⟨by decide, by decide, by decide⟩ (n := 19) rfl (fun X2 U2 M2 w2 => ?_)
  have kx2 : (X2.1 c).1 = 1 := by rw [(w2.2.2.1 c (lta n1 (by decide))).1]; exact k1
  refine Vw.putR (de_putfield (B 19 _ rfl) (B 20 _ rfl) (B 21 _ rfl)) fl_X1_15 kx2 rfl (Or.inr ⟨rfl, rfl, rfl⟩) (n := 22) rfl ?_
  have q2 := Gr.arr (a := c) (k := 4) w2 (lta n1 (by decide))
  rw [n1] at q2 ⊢
  generalize sUp X2 c 4 (some (c + 2)) = S2 at q2 ⊢
  obtain ⟨g2, n2, kd2, rf2, z2, o2⟩ := q2
  have n2 : S2.2.2 = c + 3 := n2
  have k2 : (S2.1 c).1 = 1 := by rw [g2.kd (lta n1 (by decide))]; exact k1
  refine Vw.aload_n (de_aload_0 (B 22 _ rfl)) 0 rfl (n := 23) rfl ?_
  refine Vw.sipush (v := 9000) (de_sipush (B 23 _ rfl) (B 24 _ rfl) (B 25 _ rfl)) rfl (n := 26) rfl ?_
  refine Vw.naI (len := 9000) (cr := 5) (sr := 2060) (de_newarray_int (B 26 _ rfl) (B 27 _ rfl)) ⟨by decide, by decide, by decide⟩ (n := 28) rfl (fun X3 U3 M3 w3 => ?_)
  have kx3 : (X3.1 c).1 = 1 := by rw [(w3.2.2.1 c (lta n2 (by decide))).1]; exact k2
  refine Vw.putR (de_putfield (B 28 _ rfl) (B 29 _ rfl) (B 30 _ rfl)) fl_X1_18 kx3 rfl (Or.inr ⟨rfl, rfl, rfl⟩) (n := 31) rfl ?_
  have q3 := Gr.arr (a := c) (k := 5) w3 (lta n2 (by decide))
  rw [n2] at q3 ⊢
  generalize sUp X3 c 5 (some (c + 3)) = S3 at q3 ⊢
  obtain ⟨g3, n3, kd3, rf3, z3, o3⟩ := q3
  have n3 : S3.2.2 = c + 4 := n3
  have k3 : (S3.1 c).1 = 1 := by rw [g3.kd (lta n2 (by decide))]; exact k2
  refine Vw.aload_n (de_aload_0 (B 31 _ rfl)) 0 rfl (n := 32) rfl ?_
  refine Vw.sipush (v := 1000) (de_sipush (B 32 _ rfl) (B 33 _ rfl) (B 34 _ rfl)) rfl (n := 35) rfl ?_
  refine Vw.naI (len := 1000) (cr := 4) (sr := 1060) (de_newarray_int (B 35 _ rfl) (B 36 _ rfl)) ⟨by decide, by decide, by decide⟩ (n := 37) rfl (fun X4 U4 M4 w4 => ?_)
  have kx4 : (X4.1 c).1 = 1 := by rw [(w4.2.2.1 c (lta n3 (by decide))).1]; exact k3
  refine Vw.putR (de_putfield (B 37 _ rfl) (B 38 _ rfl) (B 39 _ rfl)) fl_X1_21 kx4 rfl (Or.inr ⟨rfl, rfl, rfl⟩) (n := 40) rfl ?_
  have q4 := Gr.arr (a := c) (k := 6) w4 (lta n3 (by decide))
  rw [n3] at q4 ⊢
  generalize sUp X4 c 6 (some (c + 4)) = S4 at q4 ⊢
  obtain ⟨g4, n4, kd4, rf4, z4, o4⟩ := q4
  have n4 : S4.2.2 = c + 5 := n4
  have k4 : (S4.1 c).1 = 1 := by rw [g4.kd (lta n3 (by decide))]; exact k3
  refine Vw.aload_n (de_aload_0 (B 40 _ rfl)) 0 rfl (n := 41) rfl ?_
  refine Vw.sipush (v := 1000) (de_sipush (B 41 _ rfl) (B 42 _ rfl) (B 43 _ rfl)) rfl (n := 44) rfl ?_
  refine Vw.naI (len := 1000) (cr := 3) (sr := 60) (de_newarray_int (B 44 _ rfl) (B 45 _ rfl)) ⟨by decide, by decide, by decide⟩ (n := 46) rfl (fun X5 U5 M5 w5 => ?_)
  have kx5 : (X5.1 c).1 = 1 := by rw [(w5.2.2.1 c (lta n4 (by decide))).1]; exact k4
  refine Vw.putR (de_putfield (B 46 _ rfl) (B 47 _ rfl) (B 48 _ rfl)) fl_X1_24 kx5 rfl (Or.inr ⟨rfl, rfl, rfl⟩) (n := 49) rfl ?_
  have q5 := Gr.arr (a := c) (k := 7) w5 (lta n4 (by decide))
  rw [n4] at q5 ⊢
  generalize sUp X5 c 7 (some (c + 5)) = S5 at q5 ⊢
  obtain ⟨g5, n5, kd5, rf5, z5, o5⟩ := q5
  have n5 : S5.2.2 = c + 6 := n5
  have k5 : (S5.1 c).1 = 1 := by rw [g5.kd (lta n4 (by decide))]; exact k4
  refine Vw.aload_n (de_aload_0 (B 49 _ rfl)) 0 rfl (n := 50) rfl ?_
  refine Vw.bipush (v := 8) (de_bipush (B 50 _ rfl) (B 51 _ rfl)) rfl (n := 52) rfl ?_
  refine Vw.naI (len := 8) (cr := 2) (sr := 52) (de_newarray_int (B 52 _ rfl) (B 53 _ rfl)) ⟨by decide, by decide, by decide⟩ (n := 54) rfl (fun X6 U6 M6 w6 => ?_)
  have kx6 : (X6.1 c).1 = 1 := by rw [(w6.2.2.1 c (lta n5 (by decide))).1]; exact k5
  refine Vw.putR (de_putfield (B 54 _ rfl) (B 55 _ rfl) (B 56 _ rfl)) fl_X1_27 kx6 rfl (Or.inr ⟨rfl, rfl, rfl⟩) (n := 57) rfl ?_
  have q6 := Gr.arr (a := c) (k := 9) w6 (lta n5 (by decide))
  rw [n5] at q6 ⊢
  generalize sUp X6 c 9 (some (c + 6)) = S6 at q6 ⊢
  obtain ⟨g6, n6, kd6, rf6, z6, o6⟩ := q6
  have n6 : S6.2.2 = c + 7 := n6
  have k6 : (S6.1 c).1 = 1 := by rw [g6.kd (lta n5 (by decide))]; exact k5
  refine Vw.aload_n (de_aload_0 (B 57 _ rfl)) 0 rfl (n := 58) rfl ?_
  refine Vw.bipush (v := 26) (de_bipush (B 58 _ rfl) (B 59 _ rfl)) rfl (n := 60) rfl ?_
  refine Vw.naI (len := 26) (cr := 1) (sr := 26) (de_newarray_int (B 60 _ rfl) (B 61 _ rfl)) ⟨by decide, by decide, by decide⟩ (n := 62) rfl (fun X7 U7 M7 w7 => ?_)
  have kx7 : (X7.1 c).1 = 1 := by rw [(w7.2.2.1 c (lta n6 (by decide))).1]; exact k6
  refine Vw.putR (de_putfield (B 62 _ rfl) (B 63 _ rfl) (B 64 _ rfl)) fl_X1_30 kx7 rfl (Or.inr ⟨rfl, rfl, rfl⟩) (n := 65) rfl ?_
  have q7 := Gr.arr (a := c) (k := 12) w7 (lta n6 (by decide))
  rw [n6] at q7 ⊢
  generalize sUp X7 c 12 (some (c + 7)) = S7 at q7 ⊢
  obtain ⟨g7, n7, kd7, rf7, z7, o7⟩ := q7
  have n7 : S7.2.2 = c + 8 := n7
  have k7 : (S7.1 c).1 = 1 := by rw [g7.kd (lta n6 (by decide))]; exact k6
  refine Vw.aload_n (de_aload_0 (B 65 _ rfl)) 0 rfl (n := 66) rfl ?_
  refine Vw.bipush (v := 26) (de_bipush (B 66 _ rfl) (B 67 _ rfl)) rfl (n := 68) rfl ?_
  refine Vw.naI (len := 26) (cr := 0) (sr := 0) (de_newarray_int (B 68 _ rfl) (B 69 _ rfl)) ⟨by decide, by decide, by decide⟩ (n := 70) rfl (fun X8 U8 M8 w8 => ?_)
  have kx8 : (X8.1 c).1 = 1 := by rw [(w8.2.2.1 c (lta n7 (by decide))).1]; exact k7
  refine Vw.putR (de_putfield (B 70 _ rfl) (B 71 _ rfl) (B 72 _ rfl)) fl_X1_33 kx8 rfl (Or.inr ⟨rfl, rfl, rfl⟩) (n := 73) rfl ?_
  have q8 := Gr.arr (a := c) (k := 13) w8 (lta n7 (by decide))
  rw [n7] at q8 ⊢
  generalize sUp X8 c 13 (some (c + 8)) = S8 at q8 ⊢
  obtain ⟨g8, n8, kd8, rf8, z8, o8⟩ := q8
  have n8 : S8.2.2 = c + 9 := n8
  have k8 : (S8.1 c).1 = 1 := by rw [g8.kd (lta n7 (by decide))]; exact k7
  refine Vw.aload_n (de_aload_0 (B 73 _ rfl)) 0 rfl (n := 74) rfl ?_
  refine Vw.aload_n (de_aload_1 (B 74 _ rfl)) 1 rfl (n := 75) rfl ?_
  refine Vw.putR (de_putfield (B 75 _ rfl) (B 76 _ rfl) (B 77 _ rfl)) fl_X1_36 k8 rfl (Or.inr ⟨rfl, rfl, rfl⟩) (n := 78) rfl ?_
  have q9 := Gr.ref (S := S8) (I := U8) (a := c) (k := 0) (v := s)
  generalize sUp S8 c 0 (some s) = S9 at q9 ⊢
  obtain ⟨g9, n9, rf9⟩ := q9
  have n9 : S9.2.2 = c + 9 := n9.trans n8
  have k9 : (S9.1 c).1 = 1 := by rw [g9.kd (lta n8 (by decide))]; exact k8
  refine Vw.aload_n (de_aload_0 (B 78 _ rfl)) 0 rfl (n := 79) rfl ?_
  refine Vw.aload_n (de_aload_2 (B 79 _ rfl)) 2 rfl (n := 80) rfl ?_
  refine Vw.putR (de_putfield (B 80 _ rfl) (B 81 _ rfl) (B 82 _ rfl)) fl_X1_40 k9 rfl (Or.inr ⟨rfl, rfl, rfl⟩) (n := 83) rfl ?_
  have q10 := Gr.ref (S := S9) (I := U8) (a := c) (k := 1) (v := u)
  generalize sUp S9 c 1 (some u) = S10 at q10 ⊢
  obtain ⟨g10, n10, rf10⟩ := q10
  have n10 : S10.2.2 = c + 9 := n10.trans n9
  have k10 : (S10.1 c).1 = 1 := by rw [g10.kd (lta n9 (by decide))]; exact k9
  refine Vw.aload_n (de_aload_0 (B 83 _ rfl)) 0 rfl (n := 84) rfl ?_
  refine Vw.aload_n (de_aload_3 (B 84 _ rfl)) 3 rfl (n := 85) rfl ?_
  refine Vw.putR (de_putfield (B 85 _ rfl) (B 86 _ rfl) (B 87 _ rfl)) fl_X1_44 k10 rfl (Or.inr ⟨rfl, rfl, rfl⟩) (n := 88) rfl ?_
  have q11 := Gr.ref (S := S10) (I := U8) (a := c) (k := 2) (v := p)
  generalize sUp S10 c 2 (some p) = S11 at q11 ⊢
  obtain ⟨g11, n11, rf11⟩ := q11
  have n11 : S11.2.2 = c + 9 := n11.trans n10
  have k11 : (S11.1 c).1 = 1 := by rw [g11.kd (lta n10 (by decide))]; exact k10
  have H11 := Gr.rfl (a := c) (S := S11) (I := U8)
  have H10 := g11.trans H11
  have H9 := g10.trans H10
  have H8 := g9.trans H9
  have H7 := g8.trans H8
  have H6 := g7.trans H7
  have H5 := g6.trans H6
  have H4 := g5.trans H5
  have H3 := g4.trans H4
  have H2 := g3.trans H3
  have H1 := g2.trans H2
  have H0 := g1.trans H1
  exact Vw.vret (de_return_ (B 88 _ rfl)) rfl ⟨rfl, h _ _ _ n11 (H0.nf hN) ⟨(H0.kd (by omega)).trans h0, (by rw [H9.rf (lta n9 (by decide)) (by decide)]; exact rf9), (hs.lo hsu (H0.nf hN).1), (by rw [H10.rf (lta n10 (by decide)) (by decide)]; exact rf10), (hu.lo huw hsu (H0.nf hN).1), (by rw [H11.rf (lta n11 (by decide)) (by decide)]; exact rf11), (hp.lo hpc huw hsu (H0.nf hN).1), (by rw [H1.rf (lta n1 (by decide)) (by decide)]; exact rf1), (by rw [H1.kd (ltn n1 (by decide))]; exact kd1), (by rw [H2.rf (lta n2 (by decide)) (by decide)]; exact rf2), (by rw [H2.kd (ltn n2 (by decide))]; exact kd2), (by rw [H3.rf (lta n3 (by decide)) (by decide)]; exact rf3), (by rw [H3.kd (ltn n3 (by decide))]; exact kd3), (by rw [H4.rf (lta n4 (by decide)) (by decide)]; exact rf4), (by rw [H4.kd (ltn n4 (by decide))]; exact kd4), (by rw [H5.rf (lta n5 (by decide)) (by decide)]; exact rf5), (by rw [H5.kd (ltn n5 (by decide))]; exact kd5), (by rw [H6.rf (lta n6 (by decide)) (by decide)]; exact rf6), (by rw [H6.kd (ltn n6 (by decide))]; exact kd6), (by rw [H7.rf (lta n7 (by decide)) (by decide)]; exact rf7), (by rw [H7.kd (ltn n7 (by decide))]; exact kd7), (by rw [H8.rf (lta n8 (by decide)) (by decide)]; exact rf8), (by rw [H8.kd (ltn n8 (by decide))]; exact kd8)⟩⟩
theorem c_X5_init {d : Nat} {S : vS} {I : vI} {L : vL} {Q : vS → vI → vL → Prop} {r : Nat} (h0 : S.1 r = (5, 0)) (hN : S.2.2 = r + 1) (h : ∀ S2 I2 M, S2.2.2 = r + 14 → NF r S S2 I I2 → ReadS S2 r → Q S2 I2 M) : Vc mX5_init (d + 2) 13 2084 [.ref r] S I L (VvQ Q) := by
  refine Vc.of rfl (Nat.le_of_ble_eq_true rfl) ?_
  have B := bs_X5_init
  show Vw mX5_init (d + 2) 13 2084 13 2084 (VvQ Q) 0 [(0, .ref r)] [] S I L
  have hk : (S.1 r).1 = 5 := by rw [h0]
  refine Vw.aload_n (de_aload_0 (B 0 _ rfl)) 0 rfl (n := 1) rfl ?_
  refine Vw.objInit (de_invokespecial (B 1 _ rfl) (B 2 _ rfl) (B 3 _ rfl)) ml_X5_3 oi_ok (Nat.le_of_ble_eq_true rfl) (n := 4) rfl ?_
  refine Vw.aload_n (de_aload_0 (B 4 _ rfl)) 0 rfl (n := 5) rfl ?_
  refine Vw.newQ (c := 7) (cr := 12) (sr := 2076) (de_new (B 5 _ rfl) (B 6 _ rfl) (B 7 _ rfl)) (by decide) cl_X5_9 (n := 8) rfl (fun X1 Y1 Z1 w1 => ?_)
  rw [hN]
  have wa1 := w1.at hN
  refine Vw.dup (de_dup (B 8 _ rfl)) rfl (n := 9) rfl ?_
  have kx1 : (X1.1 r).1 = 5 := by rw [(w1.2.2.1 r (lta hN (by decide))).1]; exact hk
  refine Vw.bipush (v := 12) (de_bipush (B 9 _ rfl) (B 10 _ rfl)) rfl (n := 11) rfl ?_
  refine Vw.sipush (v := 400) (de_sipush (B 11 _ rfl) (B 12 _ rfl) (B 13 _ rfl)) rfl (n := 14) rfl ?_
  refine Vw.iiv2 (mi' := mX7_init) (cr := 5) (sr := 1604) (mc' := 7) (ms' := 472) (de_invokespecial (B 14 _ rfl) (B 15 _ rfl) (B 16 _ rfl)) (Or.inl ml_X5_11) mi_X7_init (Nat.le_of_ble_eq_true rfl) (n := 17) rfl (c_X7_init (d := d) (n := 12) (m := 400) wa1.1 wa1.2.1 (by decide) (by decide) (fun V1 U1 M1 nn1 lo1 ka1 sc1 fi1 => ?_))
  have nf1 : NF (r + 1) X1 V1 Y1 U1 := ⟨lo1, ka1, fi1⟩
  have kv1 : (V1.1 r).1 = 5 := by rw [(nf1.1 r (Nat.lt_add_of_pos_right (by decide))).1]; exact kx1
  refine Vw.putR (de_putfield (B 17 _ rfl) (B 18 _ rfl) (B 19 _ rfl)) fl_X5_14 kv1 rfl (Or.inr ⟨rfl, rfl, rfl⟩) (n := 20) rfl ?_
  have q1 := Gr.obj (a := r) (k := 0) (m := 8) w1 (by rw [hN]; exact nf1) (by rw [hN, nn1]) (lta hN (by decide))
  rw [hN] at q1
  generalize sUp V1 r 0 (some (r + 1)) = S1 at q1 ⊢
  obtain ⟨g1, n1, rf1, sm1⟩ := q1
  have n1 : S1.2.2 = r + 9 := n1
  have k1 : (S1.1 r).1 = 5 := by rw [g1.kd (lta hN (by decide))]; exact hk
  refine Vw.aload_n (de_aload_0 (B 20 _ rfl)) 0 rfl (n := 21) rfl ?_
  refine Vw.sipush (v := 401) (de_sipush (B 21 _ rfl) (B 22 _ rfl) (B 23 _ rfl)) rfl (n := 24) rfl ?_
  refine Vw.naI (len := 401) (cr := 4) (sr := 1203) (de_newarray_int (B 24 _ rfl) (B 25 _ rfl)) ⟨by decide, by decide, by decide⟩ (n := 26) rfl (fun X2 U2 M2 w2 => ?_)
  have kx2 : (X2.1 r).1 = 5 := by rw [(w2.2.2.1 r (lta n1 (by decide))).1]; exact k1
  refine Vw.putR (de_putfield (B 26 _ rfl) (B 27 _ rfl) (B 28 _ rfl)) fl_X5_20 kx2 rfl (Or.inr ⟨rfl, rfl, rfl⟩) (n := 29) rfl ?_
  have q2 := Gr.arr (a := r) (k := 1) w2 (lta n1 (by decide))
  rw [n1] at q2 ⊢
  generalize sUp X2 r 1 (some (r + 9)) = S2 at q2 ⊢
  obtain ⟨g2, n2, kd2, rf2, z2, o2⟩ := q2
  have n2 : S2.2.2 = r + 10 := n2
  have k2 : (S2.1 r).1 = 5 := by rw [g2.kd (lta n1 (by decide))]; exact k1
  refine Vw.aload_n (de_aload_0 (B 29 _ rfl)) 0 rfl (n := 30) rfl ?_
  refine Vw.sipush (v := 401) (de_sipush (B 30 _ rfl) (B 31 _ rfl) (B 32 _ rfl)) rfl (n := 33) rfl ?_
  refine Vw.naI (len := 401) (cr := 3) (sr := 802) (de_newarray_int (B 33 _ rfl) (B 34 _ rfl)) ⟨by decide, by decide, by decide⟩ (n := 35) rfl (fun X3 U3 M3 w3 => ?_)
  have kx3 : (X3.1 r).1 = 5 := by rw [(w3.2.2.1 r (lta n2 (by decide))).1]; exact k2
  refine Vw.putR (de_putfield (B 35 _ rfl) (B 36 _ rfl) (B 37 _ rfl)) fl_X5_24 kx3 rfl (Or.inr ⟨rfl, rfl, rfl⟩) (n := 38) rfl ?_
  have q3 := Gr.arr (a := r) (k := 2) w3 (lta n2 (by decide))
  rw [n2] at q3 ⊢
  generalize sUp X3 r 2 (some (r + 10)) = S3 at q3 ⊢
  obtain ⟨g3, n3, kd3, rf3, z3, o3⟩ := q3
  have n3 : S3.2.2 = r + 11 := n3
  have k3 : (S3.1 r).1 = 5 := by rw [g3.kd (lta n2 (by decide))]; exact k2
  refine Vw.aload_n (de_aload_0 (B 38 _ rfl)) 0 rfl (n := 39) rfl ?_
  refine Vw.sipush (v := 401) (de_sipush (B 39 _ rfl) (B 40 _ rfl) (B 41 _ rfl)) rfl (n := 42) rfl ?_
  refine Vw.naI (len := 401) (cr := 2) (sr := 401) (de_newarray_int (B 42 _ rfl) (B 43 _ rfl)) ⟨by decide, by decide, by decide⟩ (n := 44) rfl (fun X4 U4 M4 w4 => ?_)
  have kx4 : (X4.1 r).1 = 5 := by rw [(w4.2.2.1 r (lta n3 (by decide))).1]; exact k3
  refine Vw.putR (de_putfield (B 44 _ rfl) (B 45 _ rfl) (B 46 _ rfl)) fl_X5_27 kx4 rfl (Or.inr ⟨rfl, rfl, rfl⟩) (n := 47) rfl ?_
  have q4 := Gr.arr (a := r) (k := 3) w4 (lta n3 (by decide))
  rw [n3] at q4 ⊢
  generalize sUp X4 r 3 (some (r + 11)) = S4 at q4 ⊢
  obtain ⟨g4, n4, kd4, rf4, z4, o4⟩ := q4
  have n4 : S4.2.2 = r + 12 := n4
  have k4 : (S4.1 r).1 = 5 := by rw [g4.kd (lta n3 (by decide))]; exact k3
  refine Vw.aload_n (de_aload_0 (B 47 _ rfl)) 0 rfl (n := 48) rfl ?_
  refine Vw.sipush (v := 401) (de_sipush (B 48 _ rfl) (B 49 _ rfl) (B 50 _ rfl)) rfl (n := 51) rfl ?_
  refine Vw.naI (len := 401) (cr := 1) (sr := 0) (de_newarray_int (B 51 _ rfl) (B 52 _ rfl)) ⟨by decide, by decide, by decide⟩ (n := 53) rfl (fun X5 U5 M5 w5 => ?_)
  have kx5 : (X5.1 r).1 = 5 := by rw [(w5.2.2.1 r (lta n4 (by decide))).1]; exact k4
  refine Vw.putR (de_putfield (B 53 _ rfl) (B 54 _ rfl) (B 55 _ rfl)) fl_X5_30 kx5 rfl (Or.inr ⟨rfl, rfl, rfl⟩) (n := 56) rfl ?_
  have q5 := Gr.arr (a := r) (k := 4) w5 (lta n4 (by decide))
  rw [n4] at q5 ⊢
  generalize sUp X5 r 4 (some (r + 12)) = S5 at q5 ⊢
  obtain ⟨g5, n5, kd5, rf5, z5, o5⟩ := q5
  have n5 : S5.2.2 = r + 13 := n5
  have k5 : (S5.1 r).1 = 5 := by rw [g5.kd (lta n4 (by decide))]; exact k4
  refine Vw.aload_n (de_aload_0 (B 56 _ rfl)) 0 rfl (n := 57) rfl ?_
  refine Vw.iconst (v := 0) (de_iconst_0 (B 57 _ rfl)) rfl (n := 58) rfl ?_
  refine Vw.naI (len := 0) (cr := 0) (sr := 0) (de_newarray_int (B 58 _ rfl) (B 59 _ rfl)) ⟨by decide, by decide, by decide⟩ (n := 60) rfl (fun X6 U6 M6 w6 => ?_)
  have kx6 : (X6.1 r).1 = 5 := by rw [(w6.2.2.1 r (lta n5 (by decide))).1]; exact k5
  refine Vw.putR (de_putfield (B 60 _ rfl) (B 61 _ rfl) (B 62 _ rfl)) fl_X5_33 kx6 rfl (Or.inl rfl) (n := 63) rfl ?_
  have q6 := Gr.arr (a := r) (k := 5) w6 (lta n5 (by decide))
  rw [n5] at q6 ⊢
  generalize sUp X6 r 5 (some (r + 13)) = S6 at q6 ⊢
  obtain ⟨g6, n6, kd6, rf6, z6, o6⟩ := q6
  have n6 : S6.2.2 = r + 14 := n6
  have k6 : (S6.1 r).1 = 5 := by rw [g6.kd (lta n5 (by decide))]; exact k5
  refine Vw.aload_n (de_aload_0 (B 63 _ rfl)) 0 rfl (n := 64) rfl ?_
  refine Vw.iconst (v := -1) (de_iconst_m1 (B 64 _ rfl)) rfl (n := 65) rfl ?_
  refine Vw.putI (de_putfield (B 65 _ rfl) (B 66 _ rfl) (B 67 _ rfl)) fl_X5_36 k6 rfl rfl (n := 68) rfl ?_
  have q7 := Gr.int (S := S6) (I := U6) (a := r) (k := 11) (v := -1)
  generalize up2 U6 r 11 (-1) = U7 at q7 ⊢
  obtain ⟨g7, v7⟩ := q7
  have H7 := Gr.rfl (a := r) (S := S6) (I := U7)
  have H6 := g7.trans H7
  have H5 := g6.trans H6
  have H4 := g5.trans H5
  have H3 := g4.trans H4
  have H2 := g3.trans H3
  have H1 := g2.trans H2
  have H0 := g1.trans H1
  exact Vw.vret (de_return_ (B 68 _ rfl)) rfl ⟨rfl, h _ _ _ n6 (H0.nf hN) ⟨(H0.kd (by omega)).trans h0, (by rw [H1.rf (lta n1 (by decide)) (by decide)]; exact rf1), ((sc1.rg (fun b g1 g2 => sm1 b g1)).up H1 (Nat.lt_add_of_pos_right (by decide)) (Nat.le_of_eq n1.symm)), (by rw [H2.rf (lta n2 (by decide)) (by decide)]; exact rf2), (by rw [H2.kd (ltn n2 (by decide))]; exact kd2), (by rw [H3.rf (lta n3 (by decide)) (by decide)]; exact rf3), (by rw [H3.kd (ltn n3 (by decide))]; exact kd3), (by rw [H4.rf (lta n4 (by decide)) (by decide)]; exact rf4), (by rw [H4.kd (ltn n4 (by decide))]; exact kd4), (by rw [H5.rf (lta n5 (by decide)) (by decide)]; exact rf5), (by rw [H5.kd (ltn n5 (by decide))]; exact kd5)⟩⟩
theorem X2_l {d : Nat} {S : vS} {I : vI} {Q : vS → vI → vL → Prop} {a mc ms R T : Nat} (hk : (S.1 a).1 = 2) (hf : S.2.1 a 0 = some (a + 1)) (hA : S.1 (a + 1) = (119, 16)) (k : ∀ S2 I2 L2, LpE a 1 3 23 16 TownS S S2 I I2 → Vw mX2_init (d + 3) mc ms R T (VvQ Q) 48 [(0, .ref a), (1, .int (nI 16))] [] S2 I2 L2) : ∀ j i S2 I2 L2, i + j = 16 → LpE a 1 3 23 i TownS S S2 I I2 → Vw mX2_init (d + 3) mc ms (R + 23 * j) (T + 145 * j) (VvQ Q) 23 [(0, .ref a), (1, .int (nI i))] [] S2 I2 L2 := by
  have B := bs_X2_init
  intro j
  induction j with
  | zero =>
    intro i S2 I2 L2 hi h
    obtain rfl : i = 16 := by omega
    refine Vw.iload_n (de_iload_1 (B 23 _ rfl)) 1 rfl (n := 24) rfl ?_
    refine Vw.bipush (v := 16) (de_bipush (B 24 _ rfl) (B 25 _ rfl)) rfl (n := 26) rfl ?_
    refine Vw.icmp_ge (tgt := 48) (n := 29) (de_icmp_ge (B 26 _ rfl) (B 27 _ rfl) (B 28 _ rfl)) rfl rfl (fun c_26 => ?_) (fun c_26 => ?_)
    · exact k S2 I2 L2 h
    exact absurd (by decide) c_26
  | succ j ih =>
    intro i S2 I2 L2 hi h
    have hk2 : (S2.1 a).1 = 2 := by rw [(h.2.1 a (by omega)).1]; exact hk
    have hf2 : S2.2.1 a 0 = some (a + 1) := by rw [(h.2.1 a (by omega)).2.1 (by omega)]; exact hf
    have hA2 : S2.1 (a + 1) = (119, 16) := by rw [(h.2.1 _ (by omega)).1]; exact hA
    refine Vw.less (cr2 := R + 23 * j + 22 + 1) (sr2 := T + 145 * j + 138 + 7) (by omega) (by omega) ?_
    refine Vw.iload_n (de_iload_1 (B 23 _ rfl)) 1 rfl (n := 24) rfl ?_
    refine Vw.bipush (v := 16) (de_bipush (B 24 _ rfl) (B 25 _ rfl)) rfl (n := 26) rfl ?_
    refine Vw.icmp_ge (tgt := 48) (n := 29) (de_icmp_ge (B 26 _ rfl) (B 27 _ rfl) (B 28 _ rfl)) rfl rfl (fun c_26 => ?_) (fun c_26 => ?_)
    · exact absurd (i32_le.mp c_26) (by rw [nI_ti (by omega)]; show ¬ (16 : Int) ≤ _; omega)
    refine Vw.aload_n (de_aload_0 (B 29 _ rfl)) 0 rfl (n := 30) rfl ?_
    refine Vw.getR (de_getfield (B 30 _ rfl) (B 31 _ rfl) (B 32 _ rfl)) fl_X2_11 rfl hk2 hf2 (n := 33) rfl ?_
    refine Vw.iload_n (de_iload_1 (B 33 _ rfl)) 1 rfl (n := 34) rfl ?_
    refine Vw.newQ (c := 9) (cr := R + 23 * j + 22) (sr := T + 145 * j + 138) (de_new (B 34 _ rfl) (B 35 _ rfl) (B 36 _ rfl)) (by decide) cl_X2_9 (n := 37) rfl (fun S3 I3 L3 w3 => ?_)
    refine Vw.dup (de_dup (B 37 _ rfl)) rfl (n := 38) rfl ?_
    refine Vw.iiv0 (mi' := mX9_init) (cr := R + 23 * j) (sr := T + 145 * j) (mc' := 22) (ms' := 138) (de_invokespecial (B 38 _ rfl) (B 39 _ rfl) (B 40 _ rfl)) (Or.inl ml_X2_21) mi_X9_init (Nat.le_of_ble_eq_true rfl) (n := 41) rfl (c_X9_init (d := d) w3.2.1 w3.1 w3.2.2.2.2.1 (fun S4 I4 L4 n4 f4 e4 _ _ _ => ?_))
    have hA4 : S4.1 (a + 1) = (119, 16) := by rw [(f4.1 _ (by rw [h.1]; omega)).1, (w3.2.2.1 _ (by rw [h.1]; omega)).1]; exact hA2
    refine Vw.aast9 (de_aastore (B 41 _ rfl)) hA4 (vIx_n (k := i) rfl (by omega)) (by rw [f4.2.1, w3.2.1]) (n := 42) rfl ?_
    refine Vw.iinc (v := nI (i + 1)) (lv2 := [(0, _), (1, _)]) (de_iinc (B 42 _ rfl) (B 43 _ rfl) (B 44 _ rfl)) 1 rfl (nI_1 i) (by decide) [1, 0] rfl (n := 45) rfl ?_
    refine Vw.goto_ (n := 23) (de_goto_ (B 45 _ rfl) (B 46 _ rfl) (B 47 _ rfl)) rfl ?_
    exact ih (i + 1) _ I4 L4 (by omega) (LpE.step E_town (by omega) h w3 f4 n4 e4)
theorem c_X2_init {d : Nat} {S : vS} {I : vI} {L : vL} {Q : vS → vI → vL → Prop} {a : Nat} (h0 : S.1 a = (2, 0)) (hN : S.2.2 = a + 1) (hz : ∀ k, I a k = 0) (h : ∀ S2 I2 M, S2.2.2 = a + 371 → NF a S S2 I I2 → HistS S2 a → (∀ k, I2 a k = 0) → Q S2 I2 M) : Vc mX2_init (d + 3) 370 2352 [.ref a] S I L (VvQ Q) := by
  refine Vc.of rfl (Nat.le_of_ble_eq_true rfl) ?_
  have B := bs_X2_init
  show Vw mX2_init (d + 3) 370 2352 370 2352 (VvQ Q) 0 [(0, .ref a)] [] S I L
  have hk : (S.1 a).1 = 2 := by rw [h0]
  refine Vw.aload_n (de_aload_0 (B 0 _ rfl)) 0 rfl (n := 1) rfl ?_
  refine Vw.objInit (de_invokespecial (B 1 _ rfl) (B 2 _ rfl) (B 3 _ rfl)) ml_X2_3 oi_ok (Nat.le_of_ble_eq_true rfl) (n := 4) rfl ?_
  refine Vw.aload_n (de_aload_0 (B 4 _ rfl)) 0 rfl (n := 5) rfl ?_
  refine Vw.bipush (v := 16) (de_bipush (B 5 _ rfl) (B 6 _ rfl)) rfl (n := 7) rfl ?_
  refine Vw.na9 (len := 16) (cr := 369) (sr := 2336) (de_anewarray (B 7 _ rfl) (B 8 _ rfl) (B 9 _ rfl)) cl_X2_9.1 ⟨by decide, by decide, by decide⟩ (n := 10) rfl (fun X1 U1 M1 w1 => ?_)
  have kx1 : (X1.1 a).1 = 2 := by rw [(w1.2.2.1 a (lta hN (by decide))).1]; exact hk
  refine Vw.putR (de_putfield (B 10 _ rfl) (B 11 _ rfl) (B 12 _ rfl)) fl_X2_11 kx1 rfl (Or.inr ⟨rfl, rfl, rfl⟩) (n := 13) rfl ?_
  have q1 := Gr.arr (a := a) (k := 0) w1 (lta hN (by decide))
  rw [hN] at q1 ⊢
  generalize sUp X1 a 0 (some (a + 1)) = S1 at q1 ⊢
  obtain ⟨g1, n1, kd1, rf1, z1, o1⟩ := q1
  have n1 : S1.2.2 = a + 2 := n1
  have k1 : (S1.1 a).1 = 2 := by rw [g1.kd (lta hN (by decide))]; exact hk
  refine Vw.aload_n (de_aload_0 (B 13 _ rfl)) 0 rfl (n := 14) rfl ?_
  refine Vw.bipush (v := 16) (de_bipush (B 14 _ rfl) (B 15 _ rfl)) rfl (n := 16) rfl ?_
  refine Vw.naI (len := 16) (cr := 368) (sr := 2320) (de_newarray_int (B 16 _ rfl) (B 17 _ rfl)) ⟨by decide, by decide, by decide⟩ (n := 18) rfl (fun X2 U2 M2 w2 => ?_)
  have kx2 : (X2.1 a).1 = 2 := by rw [(w2.2.2.1 a (lta n1 (by decide))).1]; exact k1
  refine Vw.putR (de_putfield (B 18 _ rfl) (B 19 _ rfl) (B 20 _ rfl)) fl_X2_17 kx2 rfl (Or.inr ⟨rfl, rfl, rfl⟩) (n := 21) rfl ?_
  have q2 := Gr.arr (a := a) (k := 1) w2 (lta n1 (by decide))
  rw [n1] at q2 ⊢
  generalize sUp X2 a 1 (some (a + 2)) = S2 at q2 ⊢
  obtain ⟨g2, n2, kd2, rf2, z2, o2⟩ := q2
  have n2 : S2.2.2 = a + 3 := n2
  have k2 : (S2.1 a).1 = 2 := by rw [g2.kd (lta n1 (by decide))]; exact k1
  refine Vw.iconst (v := 0) (de_iconst_0 (B 21 _ rfl)) rfl (n := 22) rfl ?_
  refine Vw.istore_n (lv2 := [(0, _), (1, _)]) (de_istore_1 (B 22 _ rfl)) rfl (by decide) [1, 0] rfl (n := 23) rfl ?_
  have P0 : S2.2.1 a 0 = some (a + 1) := by rw [g2.rf (by omega) (by decide)]; exact rf1
  have Q1 : S2.1 (a + 1) = (119, 16) := by rw [g2.kd (by omega)]; exact kd1
  refine Vw.less (cr2 := 0 + 23 * 16) (sr2 := 0 + 145 * 16) (by omega) (by omega) ?_
  refine X2_l (d := d) k2 P0 Q1 (fun S5 I5 L5 l5 => ?_) 16 0 S2 U2 M2 rfl (LpE.zero n2)
  have H2 := Gr.rfl (a := a) (S := S2) (I := U2)
  have H1 := g2.trans H2
  have H0 := g1.trans H1
  have nf : NF a S S5 I I5 := ⟨fun b hb => ⟨(l5.2.1 b (by omega)).1.trans (H0.kd (by omega)), ((l5.2.1 b (by omega)).2.1 (by omega)).trans (H0.row (by omega) (by omega))⟩, (l5.2.1 a (by omega)).1.trans (H0.kd (by omega)), fun b hb => (l5.2.1 b (by omega)).2.2.trans (H0.ir (by omega) (by omega))⟩
  refine Vw.vret (de_return_ (B 48 _ rfl)) rfl ⟨rfl, h S5 I5 L5 (by rw [l5.1]) nf ⟨nf.2.1.trans h0, ?_, ?_, ?_, ?_, fun i hi => l5.2.2 i hi⟩ (fun k => ?_)⟩
  · rw [(l5.2.1 a (by omega)).2.1 (by omega)]; exact P0
  · rw [(l5.2.1 _ (by omega)).1]; exact Q1
  · rw [(l5.2.1 a (by omega)).2.1 (by omega)]; exact rf2
  · rw [(l5.2.1 _ (by omega)).1]; exact kd2
  · rw [(l5.2.1 a (by omega)).2.2, H0.iv (by omega) (by simp)]; exact hz k
