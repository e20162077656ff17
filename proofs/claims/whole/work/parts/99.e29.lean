/-! The class is made -/
section BTW
variable {S S2 : vS} {I I2 : vI} {a c q s u p t d w x n k : Nat} {ks js : List Nat}
theorem xlt (h : 0 < k) : x < x + k := by omega
theorem xle (n : S.2.2 = x + p) (h : k ≤ p) : x + k ≤ S.2.2 := by omega
theorem TownS.btw (h : TownS S t) (h1 : c < t) (h2 : t + 23 ≤ q) (lo : ∀ b, c < b → b < q → S2.1 b = S.1 b ∧ S2.2.1 b = S.2.1 b) : TownS S2 t := h.of (fun b g1 g2 => lo b (by omega) (by omega))
theorem StateS.btw (h : StateS S s) (h1 : c < s) (h2 : s + 28 ≤ q) (lo : ∀ b, c < b → b < q → S2.1 b = S.1 b ∧ S2.2.1 b = S.2.1 b) : StateS S2 s := h.of (fun b g1 g2 => ⟨(lo b (by omega) (by omega)).1, fun _ => (lo b (by omega) (by omega)).2⟩)
theorem RulesS.btw (h : RulesS S u s) (h1 : c < s) (h2 : s + 28 ≤ q) (h3 : c < u) (h4 : u + 3 ≤ q) (lo : ∀ b, c < b → b < q → S2.1 b = S.1 b ∧ S2.2.1 b = S.2.1 b) : RulesS S2 u s := h.of (h.p0.btw h1 h2 lo) (fun b g1 g2 => lo b (by omega) (by omega))
theorem WorksS.btw (h : WorksS S w s u) (h1 : c < s) (h2 : s + 28 ≤ q) (h3 : c < u) (h4 : u + 3 ≤ q) (h5 : c < w) (h6 : w + 2 ≤ q) (lo : ∀ b, c < b → b < q → S2.1 b = S.1 b ∧ S2.2.1 b = S.2.1 b) : WorksS S2 w s u := h.of (h.p0.btw h1 h2 lo) (h.p1.btw h1 h2 h3 h4 lo) (fun b g1 g2 => lo b (by omega) (by omega))
theorem PlanS.btw (h : PlanS S p s u) (h1 : c < s) (h2 : s + 28 ≤ q) (h3 : c < u) (h4 : u + 3 ≤ q) (h5 : c < p) (h6 : p + 32 ≤ q) (lo : ∀ b, c < b → b < q → S2.1 b = S.1 b ∧ S2.2.1 b = S.2.1 b) : PlanS S2 p s u := h.of (h.p0.btw h1 h2 lo) (h.p1.btw h1 h2 h3 h4 lo) (fun b g1 g2 => lo b (by omega) (by omega))
theorem CutS.btw (h : CutS S t s u p) (h1 : c < s) (h2 : s + 28 ≤ q) (h3 : c < u) (h4 : u + 3 ≤ q) (h5 : c < p) (h6 : p + 32 ≤ q) (h7 : c < t) (h8 : t + 9 ≤ q) (lo : ∀ b, c < b → b < q → S2.1 b = S.1 b ∧ S2.2.1 b = S.2.1 b) : CutS S2 t s u p := h.of (h.p0.btw h1 h2 lo) (h.p1.btw h1 h2 h3 h4 lo) (h.p2.btw h1 h2 h3 h4 h5 h6 lo) (fun b g1 g2 => lo b (by omega) (by omega))
theorem ReadS.btw (h : ReadS S d) (h1 : c < d) (h2 : d + 13 ≤ q) (lo : ∀ b, c < b → b < q → S2.1 b = S.1 b ∧ S2.2.1 b = S.2.1 b) : ReadS S2 d := h.of (fun b g1 g2 => ⟨(lo b (by omega) (by omega)).1, fun k _ => by rw [(lo b (by omega) (by omega)).2]⟩)
theorem HistS.btw (h : HistS S a) (h1 : c < a) (h2 : a + 371 ≤ q) (lo : ∀ b, c < b → b < q → S2.1 b = S.1 b ∧ S2.2.1 b = S.2.1 b) : HistS S2 a := h.of (fun b g1 g2 => lo b (by omega) (by omega))
theorem Gr.bt (g : Gr a ks js S S2 I I2) (h : S.2.2 = q) : ∀ b, a < b → b < q → S2.1 b = S.1 b ∧ S2.2.1 b = S.2.1 b := fun b g1 g2 => ⟨g.kd (by omega), g.row (by omega) (by omega)⟩
theorem Gr.ib (g : Gr a ks js S S2 I I2) (h : S.2.2 = q) : ∀ b, a < b → b < q → I2 b = I b := fun b g1 g2 => g.ir (by omega) (by omega)
theorem Nw.bt {S1 : vS} {I1 : vI} (g : Nw d 0 S S1 I I1) (h : S.2.2 = q) : ∀ b, c < b → b < q → S1.1 b = S.1 b ∧ S1.2.1 b = S.2.1 b := fun b g1 g2 => g.2.2.1 b (by omega)
end BTW
theorem X11_l {d : Nat} {S : vS} {I : vI} {Q : vS → vI → vL → Prop} {a mc ms R T : Nat} (hk : (S.1 a).1 = 11) (hf : S.2.1 a 9 = some (a + 854)) (hA : S.1 (a + 854) = (118, 2)) (k : ∀ S2 I2 L2, LpE a 854 858 28 2 (fun S e => StateS S e ∧ ∀ q, S.2.1 (e + 24) q = none) S S2 I I2 → Vw mX11_init (d + 4) mc ms R T (VvQ Q) 203 [(0, .ref a), (1, .int (nI 2))] [] S2 I2 L2) : ∀ j i S2 I2 L2, i + j = 2 → LpE a 854 858 28 i (fun S e => StateS S e ∧ ∀ q, S.2.1 (e + 24) q = none) S S2 I I2 → Vw mX11_init (d + 4) mc ms (R + 28 * j) (T + 179 * j) (VvQ Q) 179 [(0, .ref a), (1, .int (nI i))] [] S2 I2 L2 := by
  have B := bs_X11_init
  intro j
  induction j with
  | zero =>
    intro i S2 I2 L2 hi h
    obtain rfl : i = 2 := by omega
    refine Vw.iload_n (de_iload_1 (B 179 _ rfl)) 1 rfl (n := 180) rfl ?_
    refine Vw.iconst (v := 2) (de_iconst_2 (B 180 _ rfl)) rfl (n := 181) rfl ?_
    refine Vw.icmp_ge (tgt := 203) (n := 184) (de_icmp_ge (B 181 _ rfl) (B 182 _ rfl) (B 183 _ rfl)) rfl rfl (fun c_181 => ?_) (fun c_181 => ?_)
    · exact k S2 I2 L2 h
    exact absurd (by decide) c_181
  | succ j ih =>
    intro i S2 I2 L2 hi h
    have hk2 : (S2.1 a).1 = 11 := by rw [(h.2.1 a (by omega)).1]; exact hk
    have hf2 : S2.2.1 a 9 = some (a + 854) := by rw [(h.2.1 a (by omega)).2.1 (by omega)]; exact hf
    have hA2 : S2.1 (a + 854) = (118, 2) := by rw [(h.2.1 _ (by omega)).1]; exact hA
    refine Vw.less (cr2 := R + 28 * j + 27 + 1) (sr2 := T + 179 * j + 169 + 10) (by omega) (by omega) ?_
    refine Vw.iload_n (de_iload_1 (B 179 _ rfl)) 1 rfl (n := 180) rfl ?_
    refine Vw.iconst (v := 2) (de_iconst_2 (B 180 _ rfl)) rfl (n := 181) rfl ?_
    refine Vw.icmp_ge (tgt := 203) (n := 184) (de_icmp_ge (B 181 _ rfl) (B 182 _ rfl) (B 183 _ rfl)) rfl rfl (fun c_181 => ?_) (fun c_181 => ?_)
    · exact absurd (i32_le.mp c_181) (by rw [nI_ti (by omega)]; show ¬ (2 : Int) ≤ _; omega)
    refine Vw.aload_n (de_aload_0 (B 184 _ rfl)) 0 rfl (n := 185) rfl ?_
    refine Vw.getR (de_getfield (B 185 _ rfl) (B 186 _ rfl) (B 187 _ rfl)) fl_X11_74 rfl hk2 hf2 (n := 188) rfl ?_
    refine Vw.iload_n (de_iload_1 (B 188 _ rfl)) 1 rfl (n := 189) rfl ?_
    refine Vw.newQ (c := 8) (cr := R + 28 * j + 27) (sr := T + 179 * j + 169) (de_new (B 189 _ rfl) (B 190 _ rfl) (B 191 _ rfl)) (by decide) cl_X11_9 (n := 192) rfl (fun S3 I3 L3 w3 => ?_)
    refine Vw.dup (de_dup (B 192 _ rfl)) rfl (n := 193) rfl ?_
    refine Vw.iiv0 (mi' := mX8_init) (cr := R + 28 * j) (sr := T + 179 * j) (mc' := 27) (ms' := 169) (de_invokespecial (B 193 _ rfl) (B 194 _ rfl) (B 195 _ rfl)) (Or.inr (by decide)) mi_X8_init (Nat.le_of_ble_eq_true rfl) (n := 196) rfl (c_X8_init (d := d) w3.2.1 w3.1 w3.2.2.2.2.1 (fun S4 I4 L4 n4 f4 e4 _ o4 => ?_))
    have hA4 : S4.1 (a + 854) = (118, 2) := by rw [(f4.1 _ (by rw [h.1]; omega)).1, (w3.2.2.1 _ (by rw [h.1]; omega)).1]; exact hA2
    refine Vw.aast8 (de_aastore (B 196 _ rfl)) hA4 (vIx_n (k := i) rfl (by omega)) (by rw [f4.2.1, w3.2.1]) (n := 197) rfl ?_
    refine Vw.iinc (v := nI (i + 1)) (lv2 := [(0, _), (1, _)]) (de_iinc (B 197 _ rfl) (B 198 _ rfl) (B 199 _ rfl)) 1 rfl (nI_1 i) (by decide) [1, 0] rfl (n := 200) rfl ?_
    refine Vw.goto_ (n := 179) (de_goto_ (B 200 _ rfl) (B 201 _ rfl) (B 202 _ rfl)) rfl ?_
    exact ih (i + 1) _ I4 L4 (by omega) (LpE.step E_state (by omega) h w3 f4 n4 ⟨e4, o4⟩)
theorem c_X11_init {d : Nat} {S : vS} {I : vI} {L : vL} {Q : vS → vI → vL → Prop} {x : Nat} (h0 : S.1 x = (11, 0)) (hN : S.2.2 = x + 1) (hz : ∀ k, I x k = 0) (h : ∀ S2 I2 M, S2.2.2 = x + 914 → NF x S S2 I I2 → ClsS S2 x → (∀ q, S2.2.1 (x + 25) q = none) → (∀ q, S2.2.1 (x + 858 + 24) q = none) → (∀ q, S2.2.1 (x + 886 + 24) q = none) → STZ I2 (x + 1) → (∀ k, I2 (x + 34) k = 0) → (∀ k, I2 (x + 89) k = 0) → (∀ k, I2 (x + 460) k = 0) → (∀ k, I2 (x + 855) k = 0) → (∀ k, I2 (x + 856) k = 0) → (∀ k, I2 (x + 857) k = 0) → I2 x 14 = -1 → I2 x 15 = -1 → (∀ k, k ≠ 14 → k ≠ 15 → I2 x k = 0) → Q S2 I2 M) : Vc mX11_init (d + 4) 913 20135 [.ref x] S I L (VvQ Q) := by
  refine Vc.of rfl (Nat.le_of_ble_eq_true rfl) ?_
  have B := bs_X11_init
  show Vw mX11_init (d + 4) 913 20135 913 20135 (VvQ Q) 0 [(0, .ref x)] [] S I L
  have hk : (S.1 x).1 = 11 := by rw [h0]
  refine Vw.aload_n (de_aload_0 (B 0 _ rfl)) 0 rfl (n := 1) rfl ?_
  refine Vw.objInit (de_invokespecial (B 1 _ rfl) (B 2 _ rfl) (B 3 _ rfl)) ml_X11_3 oi_ok (Nat.le_of_ble_eq_true rfl) (n := 4) rfl ?_
  refine Vw.aload_n (de_aload_0 (B 4 _ rfl)) 0 rfl (n := 5) rfl ?_
  refine Vw.newQ (c := 8) (cr := 912) (sr := 20125) (de_new (B 5 _ rfl) (B 6 _ rfl) (B 7 _ rfl)) (by decide) cl_X11_9 (n := 8) rfl (fun X1 Y1 Z1 w1 => ?_)
  rw [hN]
  have wa1 := w1.at hN
  refine Vw.dup (de_dup (B 8 _ rfl)) rfl (n := 9) rfl ?_
  have kx1 : (X1.1 x).1 = 11 := by rw [(w1.2.2.1 x (lta hN (by decide))).1]; exact hk
  refine Vw.iiv0 (mi' := mX8_init) (cr := 885) (sr := 19956) (mc' := 27) (ms' := 169) (de_invokespecial (B 9 _ rfl) (B 10 _ rfl) (B 11 _ rfl)) (Or.inr (by decide)) mi_X8_init (Nat.le_of_ble_eq_true rfl) (n := 12) rfl (c_X8_init (d := d) wa1.1 wa1.2.1 wa1.2.2 (fun V1 U1 M1 nn1 nf1 so1 sz1 ln1 => ?_))
  have kv1 : (V1.1 x).1 = 11 := by rw [(nf1.1 x (Nat.lt_add_of_pos_right (by decide))).1]; exact kx1
  refine Vw.putR (de_putfield (B 12 _ rfl) (B 13 _ rfl) (B 14 _ rfl)) fl_X11_12 kv1 rfl (Or.inr ⟨rfl, rfl, rfl⟩) (n := 15) rfl ?_
  have q1 := Gr.obj (a := x) (k := 0) (m := 28) w1 (by rw [hN]; exact nf1) (by rw [hN, nn1]) (lta hN (by decide))
  rw [hN] at q1
  have sx1 : ∀ b, x < b → (sUp V1 x 0 (some (x + 1))).1 b = V1.1 b ∧ (sUp V1 x 0 (some (x + 1))).2.1 b = V1.2.1 b := fun b hb => ⟨rfl, sUp_o (Nat.ne_of_gt hb)⟩
  generalize sUp V1 x 0 (some (x + 1)) = S1 at q1 sx1 ⊢
  obtain ⟨g1, n1, rf1, sm1⟩ := q1
  have n1 : S1.2.2 = x + 29 := n1
  have k1 : (S1.1 x).1 = 11 := by rw [g1.kd (lta hN (by decide))]; exact hk
  have st1 : StateS S1 (x + 1) := (so1.btw (xlt (by decide)) (show x + 29 ≤ x + 29 by omega) (fun b g1 _ => sx1 b g1))
  refine Vw.aload_n (de_aload_0 (B 15 _ rfl)) 0 rfl (n := 16) rfl ?_
  refine Vw.newQ (c := 6) (cr := 884) (sr := 19949) (de_new (B 16 _ rfl) (B 17 _ rfl) (B 18 _ rfl)) (by decide) cl_X11_16 (n := 19) rfl (fun X2 Y2 Z2 w2 => ?_)
  rw [n1]
  have wa2 := w2.at n1
  refine Vw.dup (de_dup (B 19 _ rfl)) rfl (n := 20) rfl ?_
  have kx2 : (X2.1 x).1 = 11 := by rw [(w2.2.2.1 x (lta n1 (by decide))).1]; exact k1
  refine Vw.aload_n (de_aload_0 (B 20 _ rfl)) 0 rfl (n := 21) rfl ?_
  refine Vw.getR (de_getfield (B 21 _ rfl) (B 22 _ rfl) (B 23 _ rfl)) fl_X11_12 rfl kx2 (show X2.2.1 x 0 = some (x + 1) from by rw [(w2.2.2.1 x (lta n1 (by decide))).2]; exact rf1) (n := 24) rfl ?_
  refine Vw.iiv1 (mi' := mX6_init) (cr := 882) (sr := 19901) (mc' := 2) (ms' := 48) (de_invokespecial (B 24 _ rfl) (B 25 _ rfl) (B 26 _ rfl)) (Or.inl ml_X11_18) mi_X6_init (Nat.le_of_ble_eq_true rfl) (n := 27) rfl (c_X6_init (d := d + 2) (u := x + 29) (s := x + 1) wa2.1 wa2.2.1 wa2.2.2 (st1.btw (xlt (by decide)) (show x + 29 ≤ x + 29 by omega) (w2.bt n1)) (show x + 29 ≤ x + 29 from Nat.le_refl _) (fun V2 U2 M2 nn2 nf2 so2 => ?_))
  have kv2 : (V2.1 x).1 = 11 := by rw [(nf2.1 x (Nat.lt_add_of_pos_right (by decide))).1]; exact kx2
  refine Vw.putR (de_putfield (B 27 _ rfl) (B 28 _ rfl) (B 29 _ rfl)) fl_X11_21 kv2 rfl (Or.inr ⟨rfl, rfl, rfl⟩) (n := 30) rfl ?_
  have q2 := Gr.obj (a := x) (k := 1) (m := 3) w2 (by rw [n1]; exact nf2) (by rw [n1, nn2]) (lta n1 (by decide))
  rw [n1] at q2
  have sx2 : ∀ b, x < b → (sUp V2 x 1 (some (x + 29))).1 b = V2.1 b ∧ (sUp V2 x 1 (some (x + 29))).2.1 b = V2.2.1 b := fun b hb => ⟨rfl, sUp_o (Nat.ne_of_gt hb)⟩
  generalize sUp V2 x 1 (some (x + 29)) = S2 at q2 sx2 ⊢
  obtain ⟨g2, n2, rf2, sm2⟩ := q2
  have n2 : S2.2.2 = x + 32 := n2
  have k2 : (S2.1 x).1 = 11 := by rw [g2.kd (lta n1 (by decide))]; exact k1
  have rc2_0 : S2.2.1 x 0 = some (x + 1) := by rw [g2.rf (lta n1 (by decide)) (by decide)]; exact rf1
  have ru2 : RulesS S2 (x + 29) (x + 1) := (so2.btw (xlt (by decide)) (show x + 29 ≤ x + 32 by omega) (xlt (by decide)) (show x + 32 ≤ x + 32 by omega) (fun b g1 _ => sx2 b g1))
  have st2 : StateS S2 (x + 1) := (st1.btw (xlt (by decide)) (show x + 29 ≤ x + 29 by omega) (g2.bt n1))
  refine Vw.aload_n (de_aload_0 (B 30 _ rfl)) 0 rfl (n := 31) rfl ?_
  refine Vw.newQ (c := 10) (cr := 881) (sr := 19894) (de_new (B 31 _ rfl) (B 32 _ rfl) (B 33 _ rfl)) (by decide) cl_X11_25 (n := 34) rfl (fun X3 Y3 Z3 w3 => ?_)
  rw [n2]
  have wa3 := w3.at n2
  refine Vw.dup (de_dup (B 34 _ rfl)) rfl (n := 35) rfl ?_
  have kx3 : (X3.1 x).1 = 11 := by rw [(w3.2.2.1 x (lta n2 (by decide))).1]; exact k2
  refine Vw.aload_n (de_aload_0 (B 35 _ rfl)) 0 rfl (n := 36) rfl ?_
  refine Vw.getR (de_getfield (B 36 _ rfl) (B 37 _ rfl) (B 38 _ rfl)) fl_X11_12 rfl kx3 (show X3.2.1 x 0 = some (x + 1) from by rw [(w3.2.2.1 x (lta n2 (by decide))).2]; exact rc2_0) (n := 39) rfl ?_
  refine Vw.aload_n (de_aload_0 (B 39 _ rfl)) 0 rfl (n := 40) rfl ?_
  refine Vw.getR (de_getfield (B 40 _ rfl) (B 41 _ rfl) (B 42 _ rfl)) fl_X11_21 rfl kx3 (show X3.2.1 x 1 = some (x + 29) from by rw [(w3.2.2.1 x (lta n2 (by decide))).2]; exact rf2) (n := 43) rfl ?_
  refine Vw.iiv2 (mi' := mX10_init) (cr := 880) (sr := 19875) (mc' := 1) (ms' := 19) (de_invokespecial (B 43 _ rfl) (B 44 _ rfl) (B 45 _ rfl)) (Or.inl ml_X11_27) mi_X10_init (Nat.le_of_ble_eq_true rfl) (n := 46) rfl (c_X10_init (d := d + 2) (w := x + 32) (s := x + 1) (u := x + 29) wa3.1 wa3.2.1 wa3.2.2 (st2.btw (xlt (by decide)) (show x + 29 ≤ x + 32 by omega) (w3.bt n2)) (show x + 29 ≤ x + 32 by omega) (ru2.btw (xlt (by decide)) (show x + 29 ≤ x + 32 by omega) (xlt (by decide)) (show x + 32 ≤ x + 32 by omega) (w3.bt n2)) (show x + 32 ≤ x + 32 by omega) (fun V3 U3 M3 nn3 nf3 so3 => ?_))
  have kv3 : (V3.1 x).1 = 11 := by rw [(nf3.1 x (Nat.lt_add_of_pos_right (by decide))).1]; exact kx3
  refine Vw.putR (de_putfield (B 46 _ rfl) (B 47 _ rfl) (B 48 _ rfl)) fl_X11_30 kv3 rfl (Or.inr ⟨rfl, rfl, rfl⟩) (n := 49) rfl ?_
  have q3 := Gr.obj (a := x) (k := 2) (m := 2) w3 (by rw [n2]; exact nf3) (by rw [n2, nn3]) (lta n2 (by decide))
  rw [n2] at q3
  have sx3 : ∀ b, x < b → (sUp V3 x 2 (some (x + 32))).1 b = V3.1 b ∧ (sUp V3 x 2 (some (x + 32))).2.1 b = V3.2.1 b := fun b hb => ⟨rfl, sUp_o (Nat.ne_of_gt hb)⟩
  generalize sUp V3 x 2 (some (x + 32)) = S3 at q3 sx3 ⊢
  obtain ⟨g3, n3, rf3, sm3⟩ := q3
  have n3 : S3.2.2 = x + 34 := n3
  have k3 : (S3.1 x).1 = 11 := by rw [g3.kd (lta n2 (by decide))]; exact k2
  have rc3_0 : S3.2.1 x 0 = some (x + 1) := by rw [g3.rf (lta n2 (by decide)) (by decide)]; exact rc2_0
  have rc3_1 : S3.2.1 x 1 = some (x + 29) := by rw [g3.rf (lta n2 (by decide)) (by decide)]; exact rf2
  have wo3 : WorksS S3 (x + 32) (x + 1) (x + 29) := (so3.btw (xlt (by decide)) (show x + 29 ≤ x + 34 by omega) (xlt (by decide)) (show x + 32 ≤ x + 34 by omega) (xlt (by decide)) (show x + 34 ≤ x + 34 by omega) (fun b g1 _ => sx3 b g1))
  have st3 : StateS S3 (x + 1) := (st2.btw (xlt (by decide)) (show x + 29 ≤ x + 32 by omega) (g3.bt n2))
  have ru3 : RulesS S3 (x + 29) (x + 1) := (ru2.btw (xlt (by decide)) (show x + 29 ≤ x + 32 by omega) (xlt (by decide)) (show x + 32 ≤ x + 32 by omega) (g3.bt n2))
  refine Vw.aload_n (de_aload_0 (B 49 _ rfl)) 0 rfl (n := 50) rfl ?_
  refine Vw.newQ (c := 4) (cr := 879) (sr := 19862) (de_new (B 50 _ rfl) (B 51 _ rfl) (B 52 _ rfl)) (by decide) cl_X11_34 (n := 53) rfl (fun X4 Y4 Z4 w4 => ?_)
  rw [n3]
  have wa4 := w4.at n3
  refine Vw.dup (de_dup (B 53 _ rfl)) rfl (n := 54) rfl ?_
  have kx4 : (X4.1 x).1 = 11 := by rw [(w4.2.2.1 x (lta n3 (by decide))).1]; exact k3
  refine Vw.aload_n (de_aload_0 (B 54 _ rfl)) 0 rfl (n := 55) rfl ?_
  refine Vw.getR (de_getfield (B 55 _ rfl) (B 56 _ rfl) (B 57 _ rfl)) fl_X11_12 rfl kx4 (show X4.2.1 x 0 = some (x + 1) from by rw [(w4.2.2.1 x (lta n3 (by decide))).2]; exact rc3_0) (n := 58) rfl ?_
  refine Vw.aload_n (de_aload_0 (B 58 _ rfl)) 0 rfl (n := 59) rfl ?_
  refine Vw.getR (de_getfield (B 59 _ rfl) (B 60 _ rfl) (B 61 _ rfl)) fl_X11_21 rfl kx4 (show X4.2.1 x 1 = some (x + 29) from by rw [(w4.2.2.1 x (lta n3 (by decide))).2]; exact rc3_1) (n := 62) rfl ?_
  refine Vw.iiv2 (mi' := mX4_init) (cr := 848) (sr := 19052) (mc' := 31) (ms' := 810) (de_invokespecial (B 62 _ rfl) (B 63 _ rfl) (B 64 _ rfl)) (Or.inl ml_X11_36) mi_X4_init (Nat.le_of_ble_eq_true rfl) (n := 65) rfl (c_X4_init (d := d) (p := x + 34) (s := x + 1) (u := x + 29) wa4.1 wa4.2.1 wa4.2.2 (st3.btw (xlt (by decide)) (show x + 29 ≤ x + 34 by omega) (w4.bt n3)) (show x + 29 ≤ x + 34 by omega) (ru3.btw (xlt (by decide)) (show x + 29 ≤ x + 34 by omega) (xlt (by decide)) (show x + 32 ≤ x + 34 by omega) (w4.bt n3)) (show x + 32 ≤ x + 34 by omega) (fun V4 U4 M4 nn4 nf4 so4 pz4 => ?_))
  have kv4 : (V4.1 x).1 = 11 := by rw [(nf4.1 x (Nat.lt_add_of_pos_right (by decide))).1]; exact kx4
  refine Vw.putR (de_putfield (B 65 _ rfl) (B 66 _ rfl) (B 67 _ rfl)) fl_X11_37 kv4 rfl (Or.inr ⟨rfl, rfl, rfl⟩) (n := 68) rfl ?_
  have q4 := Gr.obj (a := x) (k := 3) (m := 32) w4 (by rw [n3]; exact nf4) (by rw [n3, nn4]) (lta n3 (by decide))
  rw [n3] at q4
  have sx4 : ∀ b, x < b → (sUp V4 x 3 (some (x + 34))).1 b = V4.1 b ∧ (sUp V4 x 3 (some (x + 34))).2.1 b = V4.2.1 b := fun b hb => ⟨rfl, sUp_o (Nat.ne_of_gt hb)⟩
  generalize sUp V4 x 3 (some (x + 34)) = S4 at q4 sx4 ⊢
  obtain ⟨g4, n4, rf4, sm4⟩ := q4
  have n4 : S4.2.2 = x + 66 := n4
  have k4 : (S4.1 x).1 = 11 := by rw [g4.kd (lta n3 (by decide))]; exact k3
  have rc4_0 : S4.2.1 x 0 = some (x + 1) := by rw [g4.rf (lta n3 (by decide)) (by decide)]; exact rc3_0
  have rc4_1 : S4.2.1 x 1 = some (x + 29) := by rw [g4.rf (lta n3 (by decide)) (by decide)]; exact rc3_1
  have pl4 : PlanS S4 (x + 34) (x + 1) (x + 29) := (so4.btw (xlt (by decide)) (show x + 29 ≤ x + 66 by omega) (xlt (by decide)) (show x + 32 ≤ x + 66 by omega) (xlt (by decide)) (show x + 66 ≤ x + 66 by omega) (fun b g1 _ => sx4 b g1))
  have st4 : StateS S4 (x + 1) := (st3.btw (xlt (by decide)) (show x + 29 ≤ x + 34 by omega) (g4.bt n3))
  have ru4 : RulesS S4 (x + 29) (x + 1) := (ru3.btw (xlt (by decide)) (show x + 29 ≤ x + 34 by omega) (xlt (by decide)) (show x + 32 ≤ x + 34 by omega) (g4.bt n3))
  refine Vw.aload_n (de_aload_0 (B 68 _ rfl)) 0 rfl (n := 69) rfl ?_
  refine Vw.newQ (c := 1) (cr := 847) (sr := 19038) (de_new (B 69 _ rfl) (B 70 _ rfl) (B 71 _ rfl)) (by decide) cl_X11_41 (n := 72) rfl (fun X5 Y5 Z5 w5 => ?_)
  rw [n4]
  have wa5 := w5.at n4
  refine Vw.dup (de_dup (B 72 _ rfl)) rfl (n := 73) rfl ?_
  have kx5 : (X5.1 x).1 = 11 := by rw [(w5.2.2.1 x (lta n4 (by decide))).1]; exact k4
  refine Vw.aload_n (de_aload_0 (B 73 _ rfl)) 0 rfl (n := 74) rfl ?_
  refine Vw.getR (de_getfield (B 74 _ rfl) (B 75 _ rfl) (B 76 _ rfl)) fl_X11_12 rfl kx5 (show X5.2.1 x 0 = some (x + 1) from by rw [(w5.2.2.1 x (lta n4 (by decide))).2]; exact rc4_0) (n := 77) rfl ?_
  refine Vw.aload_n (de_aload_0 (B 77 _ rfl)) 0 rfl (n := 78) rfl ?_
  refine Vw.getR (de_getfield (B 78 _ rfl) (B 79 _ rfl) (B 80 _ rfl)) fl_X11_21 rfl kx5 (show X5.2.1 x 1 = some (x + 29) from by rw [(w5.2.2.1 x (lta n4 (by decide))).2]; exact rc4_1) (n := 81) rfl ?_
  refine Vw.aload_n (de_aload_0 (B 81 _ rfl)) 0 rfl (n := 82) rfl ?_
  refine Vw.getR (de_getfield (B 82 _ rfl) (B 83 _ rfl) (B 84 _ rfl)) fl_X11_37 rfl kx5 (show X5.2.1 x 3 = some (x + 34) from by rw [(w5.2.2.1 x (lta n4 (by decide))).2]; exact rf4) (n := 85) rfl ?_
  refine Vw.iiv3 (mi' := mX1_init) (cr := 839) (sr := 7722) (mc' := 8) (ms' := 11316) (de_invokespecial (B 85 _ rfl) (B 86 _ rfl) (B 87 _ rfl)) (Or.inl ml_X11_43) mi_X1_init (Nat.le_of_ble_eq_true rfl) (n := 88) rfl (c_X1_init (d := d + 2) (c := x + 66) (s := x + 1) (u := x + 29) (p := x + 34) wa5.1 wa5.2.1 wa5.2.2 (st4.btw (xlt (by decide)) (show x + 29 ≤ x + 66 by omega) (w5.bt n4)) (show x + 29 ≤ x + 66 by omega) (ru4.btw (xlt (by decide)) (show x + 29 ≤ x + 66 by omega) (xlt (by decide)) (show x + 32 ≤ x + 66 by omega) (w5.bt n4)) (show x + 32 ≤ x + 66 by omega) (pl4.btw (xlt (by decide)) (show x + 29 ≤ x + 66 by omega) (xlt (by decide)) (show x + 32 ≤ x + 66 by omega) (xlt (by decide)) (show x + 66 ≤ x + 66 by omega) (w5.bt n4)) (show x + 66 ≤ x + 66 by omega) (fun V5 U5 M5 nn5 nf5 so5 => ?_))
  have kv5 : (V5.1 x).1 = 11 := by rw [(nf5.1 x (Nat.lt_add_of_pos_right (by decide))).1]; exact kx5
  refine Vw.putR (de_putfield (B 88 _ rfl) (B 89 _ rfl) (B 90 _ rfl)) fl_X11_46 kv5 rfl (Or.inr ⟨rfl, rfl, rfl⟩) (n := 91) rfl ?_
  have q5 := Gr.obj (a := x) (k := 4) (m := 9) w5 (by rw [n4]; exact nf5) (by rw [n4, nn5]) (lta n4 (by decide))
  rw [n4] at q5
  have sx5 : ∀ b, x < b → (sUp V5 x 4 (some (x + 66))).1 b = V5.1 b ∧ (sUp V5 x 4 (some (x + 66))).2.1 b = V5.2.1 b := fun b hb => ⟨rfl, sUp_o (Nat.ne_of_gt hb)⟩
  generalize sUp V5 x 4 (some (x + 66)) = S5 at q5 sx5 ⊢
  obtain ⟨g5, n5, rf5, sm5⟩ := q5
  have n5 : S5.2.2 = x + 75 := n5
  have k5 : (S5.1 x).1 = 11 := by rw [g5.kd (lta n4 (by decide))]; exact k4
  have rc5_0 : S5.2.1 x 0 = some (x + 1) := by rw [g5.rf (lta n4 (by decide)) (by decide)]; exact rc4_0
  have rc5_1 : S5.2.1 x 1 = some (x + 29) := by rw [g5.rf (lta n4 (by decide)) (by decide)]; exact rc4_1
  have rc5_3 : S5.2.1 x 3 = some (x + 34) := by rw [g5.rf (lta n4 (by decide)) (by decide)]; exact rf4
  have cu5 : CutS S5 (x + 66) (x + 1) (x + 29) (x + 34) := (so5.btw (xlt (by decide)) (show x + 29 ≤ x + 75 by omega) (xlt (by decide)) (show x + 32 ≤ x + 75 by omega) (xlt (by decide)) (show x + 66 ≤ x + 75 by omega) (xlt (by decide)) (show x + 75 ≤ x + 75 by omega) (fun b g1 _ => sx5 b g1))
  refine Vw.aload_n (de_aload_0 (B 91 _ rfl)) 0 rfl (n := 92) rfl ?_
  refine Vw.newQ (c := 5) (cr := 838) (sr := 7710) (de_new (B 92 _ rfl) (B 93 _ rfl) (B 94 _ rfl)) (by decide) cl_X11_50 (n := 95) rfl (fun X6 Y6 Z6 w6 => ?_)
  rw [n5]
  have wa6 := w6.at n5
  refine Vw.dup (de_dup (B 95 _ rfl)) rfl (n := 96) rfl ?_
  have kx6 : (X6.1 x).1 = 11 := by rw [(w6.2.2.1 x (lta n5 (by decide))).1]; exact k5
  refine Vw.iiv0 (mi' := mX5_init) (cr := 825) (sr := 5626) (mc' := 13) (ms' := 2084) (de_invokespecial (B 96 _ rfl) (B 97 _ rfl) (B 98 _ rfl)) (Or.inr (by decide)) mi_X5_init (Nat.le_of_ble_eq_true rfl) (n := 99) rfl (c_X5_init (d := d + 1) wa6.1 wa6.2.1 (fun V6 U6 M6 nn6 nf6 so6 => ?_))
  have kv6 : (V6.1 x).1 = 11 := by rw [(nf6.1 x (Nat.lt_add_of_pos_right (by decide))).1]; exact kx6
  refine Vw.putR (de_putfield (B 99 _ rfl) (B 100 _ rfl) (B 101 _ rfl)) fl_X11_53 kv6 rfl (Or.inr ⟨rfl, rfl, rfl⟩) (n := 102) rfl ?_
  have q6 := Gr.obj (a := x) (k := 5) (m := 14) w6 (by rw [n5]; exact nf6) (by rw [n5, nn6]) (lta n5 (by decide))
  rw [n5] at q6
  have sx6 : ∀ b, x < b → (sUp V6 x 5 (some (x + 75))).1 b = V6.1 b ∧ (sUp V6 x 5 (some (x + 75))).2.1 b = V6.2.1 b := fun b hb => ⟨rfl, sUp_o (Nat.ne_of_gt hb)⟩
  generalize sUp V6 x 5 (some (x + 75)) = S6 at q6 sx6 ⊢
  obtain ⟨g6, n6, rf6, sm6⟩ := q6
  have n6 : S6.2.2 = x + 89 := n6
  have k6 : (S6.1 x).1 = 11 := by rw [g6.kd (lta n5 (by decide))]; exact k5
  have re6 : ReadS S6 (x + 75) := so6.btw (xlt (by decide)) (show x + 88 ≤ x + 89 by omega) (fun b g1 _ => sx6 b g1)
  refine Vw.aload_n (de_aload_0 (B 102 _ rfl)) 0 rfl (n := 103) rfl ?_
  refine Vw.newQ (c := 2) (cr := 824) (sr := 5622) (de_new (B 103 _ rfl) (B 104 _ rfl) (B 105 _ rfl)) (by decide) cl_X11_57 (n := 106) rfl (fun X7 Y7 Z7 w7 => ?_)
  rw [n6]
  have wa7 := w7.at n6
  refine Vw.dup (de_dup (B 106 _ rfl)) rfl (n := 107) rfl ?_
  have kx7 : (X7.1 x).1 = 11 := by rw [(w7.2.2.1 x (lta n6 (by decide))).1]; exact k6
  refine Vw.iiv0 (mi' := mX2_init) (cr := 454) (sr := 3270) (mc' := 370) (ms' := 2352) (de_invokespecial (B 107 _ rfl) (B 108 _ rfl) (B 109 _ rfl)) (Or.inl ml_X11_59) mi_X2_init (Nat.le_of_ble_eq_true rfl) (n := 110) rfl (c_X2_init (d := d) wa7.1 wa7.2.1 wa7.2.2 (fun V7 U7 M7 nn7 nf7 so7 hz7 => ?_))
  have kv7 : (V7.1 x).1 = 11 := by rw [(nf7.1 x (Nat.lt_add_of_pos_right (by decide))).1]; exact kx7
  refine Vw.putR (de_putfield (B 110 _ rfl) (B 111 _ rfl) (B 112 _ rfl)) fl_X11_60 kv7 rfl (Or.inr ⟨rfl, rfl, rfl⟩) (n := 113) rfl ?_
  have q7 := Gr.obj (a := x) (k := 6) (m := 371) w7 (by rw [n6]; exact nf7) (by rw [n6, nn7]) (lta n6 (by decide))
  rw [n6] at q7
  have sx7 : ∀ b, x < b → (sUp V7 x 6 (some (x + 89))).1 b = V7.1 b ∧ (sUp V7 x 6 (some (x + 89))).2.1 b = V7.2.1 b := fun b hb => ⟨rfl, sUp_o (Nat.ne_of_gt hb)⟩
  generalize sUp V7 x 6 (some (x + 89)) = S7 at q7 sx7 ⊢
  obtain ⟨g7, n7, rf7, sm7⟩ := q7
  have n7 : S7.2.2 = x + 460 := n7
  have k7 : (S7.1 x).1 = 11 := by rw [g7.kd (lta n6 (by decide))]; exact k6
  have pa7 : HistS S7 (x + 89) := so7.btw (xlt (by decide)) (show x + 460 ≤ x + 460 by omega) (fun b g1 _ => sx7 b g1)
  refine Vw.aload_n (de_aload_0 (B 113 _ rfl)) 0 rfl (n := 114) rfl ?_
  refine Vw.newQ (c := 2) (cr := 453) (sr := 3266) (de_new (B 114 _ rfl) (B 115 _ rfl) (B 116 _ rfl)) (by decide) cl_X11_57 (n := 117) rfl (fun X8 Y8 Z8 w8 => ?_)
  rw [n7]
  have wa8 := w8.at n7
  refine Vw.dup (de_dup (B 117 _ rfl)) rfl (n := 118) rfl ?_
  have kx8 : (X8.1 x).1 = 11 := by rw [(w8.2.2.1 x (lta n7 (by decide))).1]; exact k7
  refine Vw.iiv0 (mi' := mX2_init) (cr := 83) (sr := 914) (mc' := 370) (ms' := 2352) (de_invokespecial (B 118 _ rfl) (B 119 _ rfl) (B 120 _ rfl)) (Or.inl ml_X11_59) mi_X2_init (Nat.le_of_ble_eq_true rfl) (n := 121) rfl (c_X2_init (d := d) wa8.1 wa8.2.1 wa8.2.2 (fun V8 U8 M8 nn8 nf8 so8 hz8 => ?_))
  have kv8 : (V8.1 x).1 = 11 := by rw [(nf8.1 x (Nat.lt_add_of_pos_right (by decide))).1]; exact kx8
  refine Vw.putR (de_putfield (B 121 _ rfl) (B 122 _ rfl) (B 123 _ rfl)) fl_X11_64 kv8 rfl (Or.inr ⟨rfl, rfl, rfl⟩) (n := 124) rfl ?_
  have q8 := Gr.obj (a := x) (k := 7) (m := 371) w8 (by rw [n7]; exact nf8) (by rw [n7, nn8]) (lta n7 (by decide))
  rw [n7] at q8
  have sx8 : ∀ b, x < b → (sUp V8 x 7 (some (x + 460))).1 b = V8.1 b ∧ (sUp V8 x 7 (some (x + 460))).2.1 b = V8.2.1 b := fun b hb => ⟨rfl, sUp_o (Nat.ne_of_gt hb)⟩
  generalize sUp V8 x 7 (some (x + 460)) = S8 at q8 sx8 ⊢
  obtain ⟨g8, n8, rf8, sm8⟩ := q8
  have n8 : S8.2.2 = x + 831 := n8
  have k8 : (S8.1 x).1 = 11 := by rw [g8.kd (lta n7 (by decide))]; exact k7
  have tr8 : HistS S8 (x + 460) := so8.btw (xlt (by decide)) (show x + 831 ≤ x + 831 by omega) (fun b g1 _ => sx8 b g1)
  refine Vw.aload_n (de_aload_0 (B 124 _ rfl)) 0 rfl (n := 125) rfl ?_
  refine Vw.newQ (c := 9) (cr := 82) (sr := 907) (de_new (B 125 _ rfl) (B 126 _ rfl) (B 127 _ rfl)) (by decide) cl_X11_67 (n := 128) rfl (fun X9 Y9 Z9 w9 => ?_)
  rw [n8]
  have wa9 := w9.at n8
  refine Vw.dup (de_dup (B 128 _ rfl)) rfl (n := 129) rfl ?_
  have kx9 : (X9.1 x).1 = 11 := by rw [(w9.2.2.1 x (lta n8 (by decide))).1]; exact k8
  refine Vw.iiv0 (mi' := mX9_init) (cr := 60) (sr := 769) (mc' := 22) (ms' := 138) (de_invokespecial (B 129 _ rfl) (B 130 _ rfl) (B 131 _ rfl)) (Or.inl ml_X11_69) mi_X9_init (Nat.le_of_ble_eq_true rfl) (n := 132) rfl (c_X9_init (d := d + 1) wa9.1 wa9.2.1 wa9.2.2 (fun V9 U9 M9 nn9 nf9 so9 _ _ _ => ?_))
  have kv9 : (V9.1 x).1 = 11 := by rw [(nf9.1 x (Nat.lt_add_of_pos_right (by decide))).1]; exact kx9
  refine Vw.putR (de_putfield (B 132 _ rfl) (B 133 _ rfl) (B 134 _ rfl)) fl_X11_70 kv9 rfl (Or.inr ⟨rfl, rfl, rfl⟩) (n := 135) rfl ?_
  have q9 := Gr.obj (a := x) (k := 8) (m := 23) w9 (by rw [n8]; exact nf9) (by rw [n8, nn9]) (lta n8 (by decide))
  rw [n8] at q9
  have sx9 : ∀ b, x < b → (sUp V9 x 8 (some (x + 831))).1 b = V9.1 b ∧ (sUp V9 x 8 (some (x + 831))).2.1 b = V9.2.1 b := fun b hb => ⟨rfl, sUp_o (Nat.ne_of_gt hb)⟩
  generalize sUp V9 x 8 (some (x + 831)) = S9 at q9 sx9 ⊢
  obtain ⟨g9, n9, rf9, sm9⟩ := q9
  have n9 : S9.2.2 = x + 854 := n9
  have k9 : (S9.1 x).1 = 11 := by rw [g9.kd (lta n8 (by decide))]; exact k8
  have tb9 : TownS S9 (x + 831) := so9.btw (xlt (by decide)) (show x + 854 ≤ x + 854 by omega) (fun b g1 _ => sx9 b g1)
  refine Vw.aload_n (de_aload_0 (B 135 _ rfl)) 0 rfl (n := 136) rfl ?_
  refine Vw.iconst (v := 2) (de_iconst_2 (B 136 _ rfl)) rfl (n := 137) rfl ?_
  refine Vw.na8 (len := 2) (cr := 59) (sr := 767) (de_anewarray (B 137 _ rfl) (B 138 _ rfl) (B 139 _ rfl)) cl_X11_9.1 ⟨by decide, by decide, by decide⟩ (n := 140) rfl (fun X10 U10 M10 w10 => ?_)
  have kx10 : (X10.1 x).1 = 11 := by rw [(w10.2.2.1 x (lta n9 (by decide))).1]; exact k9
  refine Vw.putR (de_putfield (B 140 _ rfl) (B 141 _ rfl) (B 142 _ rfl)) fl_X11_74 kx10 rfl (Or.inr ⟨rfl, rfl, rfl⟩) (n := 143) rfl ?_
  have q10 := Gr.arr (a := x) (k := 9) w10 (lta n9 (by decide))
  rw [n9] at q10 ⊢
  generalize sUp X10 x 9 (some (x + 854)) = S10 at q10 ⊢
  obtain ⟨g10, n10, kd10, rf10, z10, o10⟩ := q10
  have n10 : S10.2.2 = x + 855 := n10
  have k10 : (S10.1 x).1 = 11 := by rw [g10.kd (lta n9 (by decide))]; exact k9
  refine Vw.aload_n (de_aload_0 (B 143 _ rfl)) 0 rfl (n := 144) rfl ?_
  refine Vw.iconst (v := 2) (de_iconst_2 (B 144 _ rfl)) rfl (n := 145) rfl ?_
  refine Vw.naZ (len := 2) (cr := 58) (sr := 765) (de_newarray_boolean (B 145 _ rfl) (B 146 _ rfl)) ⟨by decide, by decide, by decide⟩ (n := 147) rfl (fun X11 U11 M11 w11 => ?_)
  have kx11 : (X11.1 x).1 = 11 := by rw [(w11.2.2.1 x (lta n10 (by decide))).1]; exact k10
  refine Vw.putR (de_putfield (B 147 _ rfl) (B 148 _ rfl) (B 149 _ rfl)) fl_X11_78 kx11 rfl (Or.inr ⟨rfl, rfl, rfl⟩) (n := 150) rfl ?_
  have q11 := Gr.arr (a := x) (k := 10) w11 (lta n10 (by decide))
  rw [n10] at q11 ⊢
  generalize sUp X11 x 10 (some (x + 855)) = S11 at q11 ⊢
  obtain ⟨g11, n11, kd11, rf11, z11, o11⟩ := q11
  have n11 : S11.2.2 = x + 856 := n11
  have k11 : (S11.1 x).1 = 11 := by rw [g11.kd (lta n10 (by decide))]; exact k10
  refine Vw.aload_n (de_aload_0 (B 150 _ rfl)) 0 rfl (n := 151) rfl ?_
  refine Vw.sipush (v := 400) (de_sipush (B 151 _ rfl) (B 152 _ rfl) (B 153 _ rfl)) rfl (n := 154) rfl ?_
  refine Vw.naI (len := 400) (cr := 57) (sr := 365) (de_newarray_int (B 154 _ rfl) (B 155 _ rfl)) ⟨by decide, by decide, by decide⟩ (n := 156) rfl (fun X12 U12 M12 w12 => ?_)
  have kx12 : (X12.1 x).1 = 11 := by rw [(w12.2.2.1 x (lta n11 (by decide))).1]; exact k11
  refine Vw.putR (de_putfield (B 156 _ rfl) (B 157 _ rfl) (B 158 _ rfl)) fl_X11_82 kx12 rfl (Or.inr ⟨rfl, rfl, rfl⟩) (n := 159) rfl ?_
  have q12 := Gr.arr (a := x) (k := 11) w12 (lta n11 (by decide))
  rw [n11] at q12 ⊢
  generalize sUp X12 x 11 (some (x + 856)) = S12 at q12 ⊢
  obtain ⟨g12, n12, kd12, rf12, z12, o12⟩ := q12
  have n12 : S12.2.2 = x + 857 := n12
  have k12 : (S12.1 x).1 = 11 := by rw [g12.kd (lta n11 (by decide))]; exact k11
  refine Vw.aload_n (de_aload_0 (B 159 _ rfl)) 0 rfl (n := 160) rfl ?_
  refine Vw.iconst (v := -1) (de_iconst_m1 (B 160 _ rfl)) rfl (n := 161) rfl ?_
  refine Vw.putI (de_putfield (B 161 _ rfl) (B 162 _ rfl) (B 163 _ rfl)) fl_X11_86 k12 rfl rfl (n := 164) rfl ?_
  have q13 := Gr.int (S := S12) (I := U12) (a := x) (k := 14) (v := -1)
  generalize up2 U12 x 14 (-1) = U13 at q13 ⊢
  obtain ⟨g13, v13⟩ := q13
  refine Vw.aload_n (de_aload_0 (B 164 _ rfl)) 0 rfl (n := 165) rfl ?_
  refine Vw.iconst (v := -1) (de_iconst_m1 (B 165 _ rfl)) rfl (n := 166) rfl ?_
  refine Vw.putI (de_putfield (B 166 _ rfl) (B 167 _ rfl) (B 168 _ rfl)) fl_X11_90 k12 rfl rfl (n := 169) rfl ?_
  have q14 := Gr.int (S := S12) (I := U13) (a := x) (k := 15) (v := -1)
  generalize up2 U13 x 15 (-1) = U14 at q14 ⊢
  obtain ⟨g14, v14⟩ := q14
  refine Vw.aload_n (de_aload_0 (B 169 _ rfl)) 0 rfl (n := 170) rfl ?_
  refine Vw.bipush (v := 7) (de_bipush (B 170 _ rfl) (B 171 _ rfl)) rfl (n := 172) rfl ?_
  refine Vw.naI (len := 7) (cr := 56) (sr := 358) (de_newarray_int (B 172 _ rfl) (B 173 _ rfl)) ⟨by decide, by decide, by decide⟩ (n := 174) rfl (fun X15 U15 M15 w15 => ?_)
  have kx15 : (X15.1 x).1 = 11 := by rw [(w15.2.2.1 x (lta n12 (by decide))).1]; exact k12
  refine Vw.putR (de_putfield (B 174 _ rfl) (B 175 _ rfl) (B 176 _ rfl)) fl_X11_93 kx15 rfl (Or.inr ⟨rfl, rfl, rfl⟩) (n := 177) rfl ?_
  have q15 := Gr.arr (a := x) (k := 17) w15 (lta n12 (by decide))
  rw [n12] at q15 ⊢
  generalize sUp X15 x 17 (some (x + 857)) = S15 at q15 ⊢
  obtain ⟨g15, n15, kd15, rf15, z15, o15⟩ := q15
  have n15 : S15.2.2 = x + 858 := n15
  have k15 : (S15.1 x).1 = 11 := by rw [g15.kd (lta n12 (by decide))]; exact k12
  refine Vw.iconst (v := 0) (de_iconst_0 (B 177 _ rfl)) rfl (n := 178) rfl ?_
  refine Vw.istore_n (lv2 := [(0, _), (1, _)]) (de_istore_1 (B 178 _ rfl)) rfl (by decide) [1, 0] rfl (n := 179) rfl ?_
  have H15 := Gr.rfl (a := x) (S := S15) (I := U15)
  have H14 := g15.trans H15
  have H13 := g14.trans H14
  have H12 := g13.trans H13
  have H11 := g12.trans H12
  have H10 := g11.trans H11
  have H9 := g10.trans H10
  have H8 := g9.trans H9
  have H7 := g8.trans H8
  have H6 := g7.trans H7
  have H5 := g6.trans H6
  have H4 := g5.trans H5
  have H3 := g4.trans H4
  have H2 := g3.trans H3
  have H1 := g2.trans H2
  have H0 := g1.trans H1
  have P9 : S15.2.1 x 9 = some (x + 854) := by rw [H10.rf (lta n10 (by decide)) (by decide)]; exact rf10
  have Q9 : S15.1 (x + 854) = (118, 2) := by rw [H10.kd (ltn n10 (by decide))]; exact kd10
  refine Vw.less (cr2 := 0 + 28 * 2) (sr2 := 0 + 179 * 2) (by decide) (by decide) ?_
  refine X11_l (d := d) k15 P9 Q9 (fun T J Y l5 => ?_) 2 0 S15 U15 M15 rfl (LpE.zero n15)
  have lo : ∀ b, x < b → b < x + 854 → T.1 b = S15.1 b ∧ T.2.1 b = S15.2.1 b := fun b g1 g2 => ⟨(l5.2.1 b (Nat.lt_of_lt_of_le g2 (Nat.add_le_add_left (by decide) x))).1, (l5.2.1 b (Nat.lt_of_lt_of_le g2 (Nat.add_le_add_left (by decide) x))).2.1 (Nat.ne_of_lt g2)⟩
  have lr : T.2.1 x = S15.2.1 x := (l5.2.1 x (xlt (by decide))).2.1 (Nat.ne_of_lt (xlt (by decide)))
  have lk : ∀ k, k < 858 → T.1 (x + k) = S15.1 (x + k) := fun k hk => (l5.2.1 _ (Nat.add_lt_add_left hk x)).1
  have li : ∀ k, k < 858 → J (x + k) = U15 (x + k) := fun k hk => (l5.2.1 _ (Nat.add_lt_add_left hk x)).2.2
  have nf : NF x S T I J := ⟨fun b hb => ⟨(l5.2.1 b (Nat.lt_trans hb (xlt (by decide)))).1.trans ((H0.nf hN).1 b hb).1, ((l5.2.1 b (Nat.lt_trans hb (xlt (by decide)))).2.1 (Nat.ne_of_lt (Nat.lt_trans hb (xlt (by decide))))).trans ((H0.nf hN).1 b hb).2⟩, (l5.2.1 x (xlt (by decide))).1.trans (H0.nf hN).2.1, fun b hb => (l5.2.1 b (Nat.lt_trans hb (xlt (by decide)))).2.2.trans ((H0.nf hN).2.2 b hb)⟩
  have cls : ClsS T x := by
    refine ⟨nf.2.1.trans h0, ?_, ?_, ?_, ?_, ?_, ?_, ?_, ?_, ?_, ?_, ?_, ?_, ?_, ?_, ?_, ?_, ?_, ?_, ?_, ?_, ?_, ?_, ?_, ?_, ?_, ?_, ?_, ?_, ?_, ?_⟩
    · exact (by rw [lr, H1.rf (lta n1 (by decide)) (by decide)]; exact rf1)
    · exact ((st1.btw (xlt (by decide)) (show x + 29 ≤ x + 29 by omega) (H1.bt n1)).btw (xlt (by decide)) (show x + 29 ≤ x + 854 by omega) (lo))
    · exact (by rw [lr, H2.rf (lta n2 (by decide)) (by decide)]; exact rf2)
    · exact ((ru2.btw (xlt (by decide)) (show x + 29 ≤ x + 32 by omega) (xlt (by decide)) (show x + 32 ≤ x + 32 by omega) (H2.bt n2)).btw (xlt (by decide)) (show x + 29 ≤ x + 854 by omega) (xlt (by decide)) (show x + 32 ≤ x + 854 by omega) (lo))
    · exact (by rw [lr, H3.rf (lta n3 (by decide)) (by decide)]; exact rf3)
    · exact ((wo3.btw (xlt (by decide)) (show x + 29 ≤ x + 34 by omega) (xlt (by decide)) (show x + 32 ≤ x + 34 by omega) (xlt (by decide)) (show x + 34 ≤ x + 34 by omega) (H3.bt n3)).btw (xlt (by decide)) (show x + 29 ≤ x + 854 by omega) (xlt (by decide)) (show x + 32 ≤ x + 854 by omega) (xlt (by decide)) (show x + 34 ≤ x + 854 by omega) (lo))
    · exact (by rw [lr, H4.rf (lta n4 (by decide)) (by decide)]; exact rf4)
    · exact ((pl4.btw (xlt (by decide)) (show x + 29 ≤ x + 66 by omega) (xlt (by decide)) (show x + 32 ≤ x + 66 by omega) (xlt (by decide)) (show x + 66 ≤ x + 66 by omega) (H4.bt n4)).btw (xlt (by decide)) (show x + 29 ≤ x + 854 by omega) (xlt (by decide)) (show x + 32 ≤ x + 854 by omega) (xlt (by decide)) (show x + 66 ≤ x + 854 by omega) (lo))
    · exact (by rw [lr, H5.rf (lta n5 (by decide)) (by decide)]; exact rf5)
    · exact ((cu5.btw (xlt (by decide)) (show x + 29 ≤ x + 75 by omega) (xlt (by decide)) (show x + 32 ≤ x + 75 by omega) (xlt (by decide)) (show x + 66 ≤ x + 75 by omega) (xlt (by decide)) (show x + 75 ≤ x + 75 by omega) (H5.bt n5)).btw (xlt (by decide)) (show x + 29 ≤ x + 854 by omega) (xlt (by decide)) (show x + 32 ≤ x + 854 by omega) (xlt (by decide)) (show x + 66 ≤ x + 854 by omega) (xlt (by decide)) (show x + 75 ≤ x + 854 by omega) (lo))
    · exact (by rw [lr, H6.rf (lta n6 (by decide)) (by decide)]; exact rf6)
    · exact ((re6.btw (xlt (by decide)) (show x + 88 ≤ x + 89 by omega) (H6.bt n6)).btw (xlt (by decide)) (show x + 88 ≤ x + 854 by omega) lo)
    · exact (by rw [lr, H7.rf (lta n7 (by decide)) (by decide)]; exact rf7)
    · exact ((pa7.btw (xlt (by decide)) (show x + 460 ≤ x + 460 by omega) (H7.bt n7)).btw (xlt (by decide)) (show x + 460 ≤ x + 854 by omega) lo)
    · exact (by rw [lr, H8.rf (lta n8 (by decide)) (by decide)]; exact rf8)
    · exact ((tr8.btw (xlt (by decide)) (show x + 831 ≤ x + 831 by omega) (H8.bt n8)).btw (xlt (by decide)) (show x + 831 ≤ x + 854 by omega) lo)
    · exact (by rw [lr, H9.rf (lta n9 (by decide)) (by decide)]; exact rf9)
    · exact ((tb9.btw (xlt (by decide)) (show x + 854 ≤ x + 854 by omega) (H9.bt n9)).btw (xlt (by decide)) (show x + 854 ≤ x + 854 by omega) lo)
    · exact (by rw [lr]; exact P9)
    · exact (by rw [lk 854 (by decide)]; exact Q9)
    · exact (by rw [lr, H11.rf (lta n11 (by decide)) (by decide)]; exact rf11)
    · exact (by rw [lk 855 (by decide), H11.kd (ltn n11 (by decide))]; exact kd11)
    · exact (by rw [lr, H12.rf (lta n12 (by decide)) (by decide)]; exact rf12)
    · exact (by rw [lk 856 (by decide), H12.kd (ltn n12 (by decide))]; exact kd12)
    · exact (by rw [lr, H15.rf (lta n15 (by decide)) (by decide)]; exact rf15)
    · exact (by rw [lk 857 (by decide), H15.kd (ltn n15 (by decide))]; exact kd15)
    · exact (l5.2.2 0 (by decide)).1
    · exact (l5.2.2 0 (by decide)).2.1
    · exact (l5.2.2 1 (by decide)).1
    · exact (l5.2.2 1 (by decide)).2.1
  have i1 : ∀ b, x < b → b < x + 29 → J b = U1 b := fun b g1 g2 => (l5.2.1 b (Nat.lt_of_lt_of_le g2 (Nat.add_le_add_left (by decide) x))).2.2.trans (H1.ib n1 b g1 g2)
  refine Vw.vret (de_return_ (B 203 _ rfl)) rfl ⟨rfl, h T J Y l5.1 nf cls (fun q => ?_) (fun q => (l5.2.2 0 (by decide)).2.2 q) (fun q => (l5.2.2 1 (by decide)).2.2 q) (sz1.of (fun b g1 g2 => i1 b g1 (Nat.lt_succ_of_le g2))) (fun q => ?_) (fun q => ?_) (fun q => ?_) (fun q => ?_) (fun q => ?_) (fun q => ?_) ?_ ?_ (fun k q1 q2 => ?_)⟩
  · rw [(lo (x + 25) (xlt (by decide)) (Nat.add_lt_add_left (by decide) x)).2, (H1.bt n1 (x + 25) (xlt (by decide)) (Nat.add_lt_add_left (by decide) x)).2, (sx1 (x + 25) (xlt (by decide))).2]; exact ln1 q
  · rw [li 34 (by decide), H4.ib n4 (x + 34) (xlt (by decide)) (Nat.add_lt_add_left (by decide) x)]; exact pz4 q
  · rw [li 89 (by decide), H7.ib n7 (x + 89) (xlt (by decide)) (Nat.add_lt_add_left (by decide) x)]; exact hz7 q
  · rw [li 460 (by decide), H8.ib n8 (x + 460) (xlt (by decide)) (Nat.add_lt_add_left (by decide) x)]; exact hz8 q
  · rw [li 855 (by decide), H11.ib n11 (x + 855) (xlt (by decide)) (Nat.add_lt_add_left (by decide) x)]; exact z11 q
  · rw [li 856 (by decide), H12.ib n12 (x + 856) (xlt (by decide)) (Nat.add_lt_add_left (by decide) x)]; exact z12 q
  · rw [li 857 (by decide), H15.ib n15 (x + 857) (xlt (by decide)) (Nat.add_lt_add_left (by decide) x)]; exact z15 q
  · rw [(l5.2.1 x (xlt (by decide))).2.2, H13.iv (lta n12 (by decide)) (by decide)]; exact v13
  · rw [(l5.2.1 x (xlt (by decide))).2.2, H14.iv (lta n12 (by decide)) (by decide)]; exact v14
  · rw [(l5.2.1 x (xlt (by decide))).2.2, H0.iv (lta hN (by decide)) (by simp [q1, q2])]; exact hz k
