/-! State.copyFrom, image, back -/
theorem TR.kx {I : vI} {t np nc : Nat} {K G : Nat → Int32} (h : TR I t K np nc) (h8 : np ≤ 8) (h10 : nc ≤ 10) (e : ∀ y, y < 122 → G y = K y) : TR I t G np nc := by
  obtain ⟨a1, a2, a3, a4, a5, a6⟩ := h
  exact ⟨a1, a2, by rw [e _ (by omega)]; exact a3, fun q k hq hk => by rw [e _ (by omega)]; exact a4 q k hq hk, fun c k hc hk => by rw [e _ (by omega)]; exact a5 c k hc hk, fun j hj => by rw [e _ (by omega), e _ (by omega)]; exact a6 j hj⟩
theorem STR.kx {S : vS} {I : vI} {s lb np nc ns nl : Nat} {K G : Nat → Int32} (h : STR S I s lb K np nc ns nl) (e : SameK K G) : STR S I s lb G np nc ns nl := by
  have lo : ∀ y, y < 146 → G y = K y := fun y hy => e y (by unfold scrK; omega)
  exact h.town (h.tr.kx h.tn.1 h.tn.2.1 (fun y hy => lo y (by omega))) (h.tn.of (fun y q1 q2 => lo y (by omega))) (h.kb.of h.tn.1 h.tn.2.1 (fun y hy => lo y (by omega))) (fun y _ _ hy => e y hy) rfl (fun _ _ _ => rfl) (fun _ _ => rfl)
theorem STR.copy {S S2 : vS} {I J : vI} {o s lb np nc ns nl : Nat} {K : Nat → Int32} (h : STR S I o lb K np nc ns nl) (hT : TR J (s + 1) K np nc) (e2 : J s 2 = I o 2) (e3 : J s 3 = I o 3) (e4 : J s 4 = I o 4) (e5 : J s 5 = I o 5) (e9 : J s 9 = I o 9) (e25 : ∀ i, i < 6 → J (s + 25) i = I (o + 25) i) (e26 : ∀ i, i < 6 → J (s + 26) i = I (o + 26) i) (e27 : ∀ i, i < 6 → J (s + 27) i = I (o + 27) i) (el : ∀ t, t < 6 → S2.2.1 (s + 24) t = S.2.1 (o + 24) t) (f : ∀ a cs m, lb ≤ a → ScS S a cs m → ScS S2 a cs m) (g : ∀ b, lb ≤ b → J b = I b) : STR S2 J s lb K np nc ns nl := by
  obtain ⟨h1, h2, h3, ⟨s1, s2, s3⟩, h5, h6, ⟨l1, l2, l3, l4⟩, h8, h9, h10, h11, h12⟩ := h
  refine ⟨hT, h2, h3, ⟨e9.trans s1, s2, fun i hi => ?_⟩, h5, h6, ⟨l1, e2.trans l2, l3, fun t ht => ?_⟩, e3.trans h8, h9, e4.trans h10, e5.trans h11, h12⟩
  · rw [e25 i (by omega), e26 i (by omega), e27 i (by omega)]; exact s3 i hi
  · obtain ⟨a, cs, m, a1, a2, a3, a4, a5⟩ := l4 t ht
    exact ⟨a, cs, m, a1, (el t (by omega)).trans a2, f _ _ _ a1 a3, a4.of (fun k _ => g _ (by omega)), a5⟩
theorem LWS.is {S : vS} {lb s t : Nat} (h : LWS S lb s) (ht : t < 6) : S.2.1 (s + 24) t = none ∨ ∃ a, S.2.1 (s + 24) t = some a ∧ (S.1 a).1 = 7 := by
  rcases h t ht with z | ⟨a, -, -, z1, z2⟩
  · exact Or.inl z
  · exact Or.inr ⟨a, z1, z2⟩
theorem sUp_1 {S : vS} {a j : Nat} {w : Option Nat} : (sUp S a j w).1 = S.1 := rfl
theorem sUp_2 {S : vS} {a j : Nat} {w : Option Nat} : (sUp S a j w).2.2 = S.2.2 := rfl
theorem sUp_o {S : vS} {a j b : Nat} {w : Option Nat} (h : b ≠ a) : (sUp S a j w).2.1 b = S.2.1 b := up2_row h
theorem sUp_k {S : vS} {a j k : Nat} {w : Option Nat} (h : k ≠ j) : (sUp S a j w).2.1 a k = S.2.1 a k := up2_k h
theorem sUp_s {S : vS} {a j : Nat} {w : Option Nat} : (sUp S a j w).2.1 a j = w := up2_s _ _ _ _
theorem cpf_1 {d s o : Nat} {S : vS} {I : vI} {L : vL} {Q : vS → vI → vL → Prop} {i : Nat} (hS : StateS S s) (hO : StateS S o) (hi : i < 6) (hl : S.2.1 (o + 24) i = none ∨ ∃ a, S.2.1 (o + 24) i = some a ∧ (S.1 a).1 = 7) (k : ∀ w, w = S.2.1 (o + 24) i → Vw mX8_copyFrom (d + 3) 0 0 0 0 (VvQ Q) 21 [(0, .ref s), (1, .ref o), (2, .int (nI (i + 1)))] [] (sUp S (s + 24) i w) I L) : Vw mX8_copyFrom (d + 3) 0 0 0 0 (VvQ Q) 21 [(0, .ref s), (1, .ref o), (2, .int (nI i))] [] S I L := by
  have B := bs_X8_copyFrom
  refine Vw.iload_n (de_iload_2 (B 21 _ rfl)) 2 rfl (n := 22) rfl ?_
  refine Vw.bipush (v := 6) (de_bipush (B 22 _ rfl) (B 23 _ rfl)) rfl (n := 24) rfl ?_
  refine Vw.icmp_ge (tgt := 45) (n := 27) (de_icmp_ge (B 24 _ rfl) (B 25 _ rfl) (B 26 _ rfl)) rfl rfl (fun c_24 => ?_) (fun c_24 => ?_)
  · exact absurd (i32_le.mp c_24) (by rw [nI_ti (by omega)]; show ¬ (6 : Int) ≤ _; omega)
  refine Vw.aload_n (de_aload_0 (B 27 _ rfl)) 0 rfl (n := 28) rfl ?_
  refine Vw.getR (de_getfield (B 28 _ rfl) (B 29 _ rfl) (B 30 _ rfl)) fl_X8_20 rfl hS.k hS.f1 (n := 31) rfl ?_
  refine Vw.iload_n (de_iload_2 (B 31 _ rfl)) 2 rfl (n := 32) rfl ?_
  refine Vw.aload_n (de_aload_1 (B 32 _ rfl)) 1 rfl (n := 33) rfl ?_
  refine Vw.getR (de_getfield (B 33 _ rfl) (B 34 _ rfl) (B 35 _ rfl)) fl_X8_20 rfl hO.k hO.f1 (n := 36) rfl ?_
  refine Vw.iload_n (de_iload_2 (B 36 _ rfl)) 2 rfl (n := 37) rfl ?_
  rcases hl with hl | ⟨a, hl, ha⟩
  · refine Vw.aald7 (b := 0) (v := .null) (de_aaload (B 37 _ rfl)) hO.r1 (vIx_n (k := i) rfl (by omega)) (by rw [hl]; rfl) (n := 38) rfl ?_
    refine Vw.aast7N (de_aastore (B 38 _ rfl)) hS.r1 (vIx_n (k := i) rfl (by omega)) (n := 39) rfl ?_
    refine Vw.iinc (v := nI (i + 1)) (lv2 := [(0, _), (1, _), (2, _)]) (de_iinc (B 39 _ rfl) (B 40 _ rfl) (B 41 _ rfl)) 2 rfl (nI_1 i) (by decide) [1, 2, 0] rfl (n := 42) rfl ?_
    refine Vw.goto_ (n := 21) (de_goto_ (B 42 _ rfl) (B 43 _ rfl) (B 44 _ rfl)) rfl ?_
    exact k _ hl.symm
  · refine Vw.aald7 (b := 0) (v := .ref a) (de_aaload (B 37 _ rfl)) hO.r1 (vIx_n (k := i) rfl (by omega)) (by rw [hl]; rfl) (n := 38) rfl ?_
    refine Vw.aast7 (de_aastore (B 38 _ rfl)) hS.r1 (vIx_n (k := i) rfl (by omega)) ha (n := 39) rfl ?_
    refine Vw.iinc (v := nI (i + 1)) (lv2 := [(0, _), (1, _), (2, _)]) (de_iinc (B 39 _ rfl) (B 40 _ rfl) (B 41 _ rfl)) 2 rfl (nI_1 i) (by decide) [1, 2, 0] rfl (n := 42) rfl ?_
    refine Vw.goto_ (n := 21) (de_goto_ (B 42 _ rfl) (B 43 _ rfl) (B 44 _ rfl)) rfl ?_
    exact k _ hl.symm
theorem cpf_e {d s o : Nat} {S : vS} {I : vI} {L : vL} {Q : vS → vI → vL → Prop} (k : Vw mX8_copyFrom (d + 3) 0 0 0 0 (VvQ Q) 45 [(0, .ref s), (1, .ref o), (2, .int (nI 6))] [] S I L) : Vw mX8_copyFrom (d + 3) 0 0 0 0 (VvQ Q) 21 [(0, .ref s), (1, .ref o), (2, .int (nI 6))] [] S I L := by
  have B := bs_X8_copyFrom
  refine Vw.iload_n (de_iload_2 (B 21 _ rfl)) 2 rfl (n := 22) rfl ?_
  refine Vw.bipush (v := 6) (de_bipush (B 22 _ rfl) (B 23 _ rfl)) rfl (n := 24) rfl ?_
  refine Vw.icmp_ge (tgt := 45) (n := 27) (de_icmp_ge (B 24 _ rfl) (B 25 _ rfl) (B 26 _ rfl)) rfl rfl (fun c_24 => ?_) (fun c_24 => ?_)
  · exact k
  exact absurd (by decide) c_24
def CpS (s o i : Nat) (S S2 : vS) : Prop := S2.1 = S.1 ∧ S2.2.2 = S.2.2 ∧ (∀ b, b ≠ s + 24 → S2.2.1 b = S.2.1 b) ∧ ∀ t, t < i → S2.2.1 (s + 24) t = S.2.1 (o + 24) t
theorem cpf_l {d s o : Nat} {S : vS} {I : vI} {L : vL} {Q : vS → vI → vL → Prop} (hS : StateS S s) (hO : StateS S o) (ho : o + 27 < s ∨ s + 27 < o) (hl : ∀ t, t < 6 → S.2.1 (o + 24) t = none ∨ ∃ a, S.2.1 (o + 24) t = some a ∧ (S.1 a).1 = 7) (k : ∀ S2, CpS s o 6 S S2 → Vw mX8_copyFrom (d + 3) 0 0 0 0 (VvQ Q) 45 [(0, .ref s), (1, .ref o), (2, .int (nI 6))] [] S2 I L) : ∀ m i S2, i + m = 6 → CpS s o i S S2 → Vw mX8_copyFrom (d + 3) 0 0 0 0 (VvQ Q) 21 [(0, .ref s), (1, .ref o), (2, .int (nI i))] [] S2 I L := by
  intro m
  induction m with
  | zero =>
    intro i S2 hi c
    obtain rfl : i = 6 := by omega
    exact cpf_e (k S2 c)
  | succ m ih =>
    intro i S2 hi c
    have eO := c.2.2.1 (o + 24) (by omega)
    have hS2 : StateS S2 s := hS.of (fun b _ _ => ⟨by rw [c.1], fun q => c.2.2.1 b q⟩)
    have hO2 : StateS S2 o := hO.of (fun b g1 g2 => ⟨by rw [c.1], fun q => c.2.2.1 b (by omega)⟩)
    refine cpf_1 hS2 hO2 (by omega) (by rw [eO, c.1]; exact hl i (by omega)) (fun w hw => ih (i + 1) _ (by omega) ⟨c.1, c.2.1, fun b hb => (sUp_o hb).trans (c.2.2.1 b hb), fun t ht => ?_⟩)
    by_cases z : t = i
    · subst z; rw [sUp_s, hw, eO]
    · rw [sUp_k z]; exact c.2.2.2 t (by omega)
theorem CpS.sc {s o i lb : Nat} {S S2 : vS} (c : CpS s o i S S2) (h : s + 24 < lb) : ∀ a cs m, lb ≤ a → ScS S a cs m → ScS S2 a cs m := fun a cs m ha q => q.rg (fun b g1 g2 => ⟨by rw [c.1], c.2.2.1 b (by omega)⟩)
theorem c_X8_copyFrom {d : Nat} {S : vS} {I : vI} {L : vL} {Q : vS → vI → vL → Prop} {s o lb np nc ns nl : Nat} {K : Nat → Int32} (hS : StateS S s) (hO : StateS S o) (ho : o + 27 < s ∨ s + 27 < o) (hs : s + 28 ≤ lb) (hol : o + 28 ≤ lb) (hl : LWS S lb o) (hK : STR S I o lb K np nc ns nl) (h : ∀ S2 I2, CpS s o 6 S S2 → (∀ b, ¬ (s ≤ b ∧ b ≤ s + 27) → I2 b = I b) → STR S2 I2 s lb K np nc ns nl → Q S2 I2 L) : Vc mX8_copyFrom (d + 3) 0 0 [.ref s, .ref o] S I L (VvQ Q) := by
  refine Vc.of rfl (Nat.le_of_ble_eq_true rfl) ?_
  have B := bs_X8_copyFrom
  show Vw mX8_copyFrom (d + 3) 0 0 0 0 (VvQ Q) 0 [(0, .ref s), (1, .ref o)] [] S I L
  refine Vw.aload_n (de_aload_0 (B 0 _ rfl)) 0 rfl (n := 1) rfl ?_
  refine Vw.getR (de_getfield (B 1 _ rfl) (B 2 _ rfl) (B 3 _ rfl)) fl_X8_12 rfl hS.k hS.f0 (n := 4) rfl ?_
  refine Vw.aload_n (de_aload_1 (B 4 _ rfl)) 1 rfl (n := 5) rfl ?_
  refine Vw.getR (de_getfield (B 5 _ rfl) (B 6 _ rfl) (B 7 _ rfl)) fl_X8_12 rfl hO.k hO.f0 (n := 8) rfl ?_
  refine Vw.ivv1 (mi' := mX9_copyFrom) (de_invokevirtual (B 8 _ rfl) (B 9 _ rfl) (B 10 _ rfl)) ml_X8_41 mv_X9_copyFrom hS.p0.k (Nat.le_of_ble_eq_true rfl) (n := 11) rfl (c_X9_copyFrom hS.p0 hO.p0 hK.tr hK.tn.1 hK.tn.2.1 (by omega) (fun I1 f1 t1 => ?_))
  refine Vw.aload_n (de_aload_0 (B 11 _ rfl)) 0 rfl (n := 12) rfl ?_
  refine Vw.aload_n (de_aload_1 (B 12 _ rfl)) 1 rfl (n := 13) rfl ?_
  refine Vw.getI (de_getfield (B 13 _ rfl) (B 14 _ rfl) (B 15 _ rfl)) fl_X8_45 rfl hO.k (n := 16) rfl ?_
  refine Vw.putI (de_putfield (B 16 _ rfl) (B 17 _ rfl) (B 18 _ rfl)) fl_X8_45 hS.k rfl rfl (n := 19) rfl ?_
  refine Vw.iconst (v := 0) (de_iconst_0 (B 19 _ rfl)) rfl (n := 20) rfl ?_
  refine Vw.istore_n (lv2 := [(0, _), (1, _), (2, _)]) (de_istore_2 (B 20 _ rfl)) rfl (by decide) [1, 2, 0] rfl (n := 21) rfl ?_
  refine cpf_l hS hO ho (fun t ht => hl.is ht) (fun S2 c => ?_) 6 0 S rfl ⟨rfl, rfl, fun _ _ => rfl, fun t ht => absurd ht (by omega)⟩
  have fr : ∀ b, b ≠ s → ¬ (s + 1 ≤ b ∧ b ≤ s + 23) → up2 I1 s 2 (I1 o 2) b = I b := fun b q1 q2 => by rw [up2_row q1, f1 b (by omega)]
  have fo := fr o (by omega) (by omega)
  have hS2 := hS
  have hO2 := hO
  have hS : StateS S2 s := hS2.of (fun b _ _ => ⟨by rw [c.1], fun q => c.2.2.1 b q⟩)
  have hO : StateS S2 o := hO2.of (fun b g1 g2 => ⟨by rw [c.1], fun q => c.2.2.1 b (by omega)⟩)
  refine Vw.aload_n (de_aload_0 (B 45 _ rfl)) 0 rfl (n := 46) rfl ?_
  refine Vw.aload_n (de_aload_1 (B 46 _ rfl)) 1 rfl (n := 47) rfl ?_
  refine Vw.getI (de_getfield (B 47 _ rfl) (B 48 _ rfl) (B 49 _ rfl)) fl_X8_24 rfl hO.k (n := 50) rfl ?_
  refine Vw.putI (de_putfield (B 50 _ rfl) (B 51 _ rfl) (B 52 _ rfl)) fl_X8_24 hS.k rfl rfl (n := 53) rfl ?_
  refine Vw.aload_n (de_aload_0 (B 53 _ rfl)) 0 rfl (n := 54) rfl ?_
  refine Vw.aload_n (de_aload_1 (B 54 _ rfl)) 1 rfl (n := 55) rfl ?_
  refine Vw.getI (de_getfield (B 55 _ rfl) (B 56 _ rfl) (B 57 _ rfl)) fl_X8_28 rfl hO.k (n := 58) rfl ?_
  refine Vw.putI (de_putfield (B 58 _ rfl) (B 59 _ rfl) (B 60 _ rfl)) fl_X8_28 hS.k rfl rfl (n := 61) rfl ?_
  refine Vw.aload_n (de_aload_0 (B 61 _ rfl)) 0 rfl (n := 62) rfl ?_
  refine Vw.aload_n (de_aload_1 (B 62 _ rfl)) 1 rfl (n := 63) rfl ?_
  refine Vw.getI (de_getfield (B 63 _ rfl) (B 64 _ rfl) (B 65 _ rfl)) fl_X8_48 rfl hO.k (n := 66) rfl ?_
  refine Vw.putI (de_putfield (B 66 _ rfl) (B 67 _ rfl) (B 68 _ rfl)) fl_X8_48 hS.k rfl rfl (n := 69) rfl ?_
  refine Vw.aload_n (de_aload_1 (B 69 _ rfl)) 1 rfl (n := 70) rfl ?_
  refine Vw.getR (de_getfield (B 70 _ rfl) (B 71 _ rfl) (B 72 _ rfl)) fl_X8_31 rfl hO.k hO.f6 (n := 73) rfl ?_
  refine Vw.iconst (v := 0) (de_iconst_0 (B 73 _ rfl)) rfl (n := 74) rfl ?_
  refine Vw.aload_n (de_aload_0 (B 74 _ rfl)) 0 rfl (n := 75) rfl ?_
  refine Vw.getR (de_getfield (B 75 _ rfl) (B 76 _ rfl) (B 77 _ rfl)) fl_X8_31 rfl hS.k hS.f6 (n := 78) rfl ?_
  refine Vw.iconst (v := 0) (de_iconst_0 (B 78 _ rfl)) rfl (n := 79) rfl ?_
  refine Vw.bipush (v := 6) (de_bipush (B 79 _ rfl) (B 80 _ rfl)) rfl (n := 81) rfl ?_
  refine Vw.copyI (de_invokestatic (B 81 _ rfl) (B 82 _ rfl) (B 83 _ rfl)) ml_X8_51 hO.r6 hS.r6 (sj := 0) (dj := 0) (nj := 6) rfl rfl rfl (by decide) (by decide) (by decide) (by decide) (n := 84) rfl ?_
  refine Vw.aload_n (de_aload_1 (B 84 _ rfl)) 1 rfl (n := 85) rfl ?_
  refine Vw.getR (de_getfield (B 85 _ rfl) (B 86 _ rfl) (B 87 _ rfl)) fl_X8_35 rfl hO.k hO.f7 (n := 88) rfl ?_
  refine Vw.iconst (v := 0) (de_iconst_0 (B 88 _ rfl)) rfl (n := 89) rfl ?_
  refine Vw.aload_n (de_aload_0 (B 89 _ rfl)) 0 rfl (n := 90) rfl ?_
  refine Vw.getR (de_getfield (B 90 _ rfl) (B 91 _ rfl) (B 92 _ rfl)) fl_X8_35 rfl hS.k hS.f7 (n := 93) rfl ?_
  refine Vw.iconst (v := 0) (de_iconst_0 (B 93 _ rfl)) rfl (n := 94) rfl ?_
  refine Vw.bipush (v := 6) (de_bipush (B 94 _ rfl) (B 95 _ rfl)) rfl (n := 96) rfl ?_
  refine Vw.copyI (de_invokestatic (B 96 _ rfl) (B 97 _ rfl) (B 98 _ rfl)) ml_X8_51 hO.r7 hS.r7 (sj := 0) (dj := 0) (nj := 6) rfl rfl rfl (by decide) (by decide) (by decide) (by decide) (n := 99) rfl ?_
  refine Vw.aload_n (de_aload_1 (B 99 _ rfl)) 1 rfl (n := 100) rfl ?_
  refine Vw.getR (de_getfield (B 100 _ rfl) (B 101 _ rfl) (B 102 _ rfl)) fl_X8_38 rfl hO.k hO.f8 (n := 103) rfl ?_
  refine Vw.iconst (v := 0) (de_iconst_0 (B 103 _ rfl)) rfl (n := 104) rfl ?_
  refine Vw.aload_n (de_aload_0 (B 104 _ rfl)) 0 rfl (n := 105) rfl ?_
  refine Vw.getR (de_getfield (B 105 _ rfl) (B 106 _ rfl) (B 107 _ rfl)) fl_X8_38 rfl hS.k hS.f8 (n := 108) rfl ?_
  refine Vw.iconst (v := 0) (de_iconst_0 (B 108 _ rfl)) rfl (n := 109) rfl ?_
  refine Vw.bipush (v := 6) (de_bipush (B 109 _ rfl) (B 110 _ rfl)) rfl (n := 111) rfl ?_
  refine Vw.copyI (de_invokestatic (B 111 _ rfl) (B 112 _ rfl) (B 113 _ rfl)) ml_X8_51 hO.r8 hS.r8 (sj := 0) (dj := 0) (nj := 6) rfl rfl rfl (by decide) (by decide) (by decide) (by decide) (n := 114) rfl ?_
  refine Vw.aload_n (de_aload_0 (B 114 _ rfl)) 0 rfl (n := 115) rfl ?_
  refine Vw.aload_n (de_aload_1 (B 115 _ rfl)) 1 rfl (n := 116) rfl ?_
  refine Vw.getI (de_getfield (B 116 _ rfl) (B 117 _ rfl) (B 118 _ rfl)) fl_X8_57 rfl hO.k (n := 119) rfl ?_
  refine Vw.putI (de_putfield (B 119 _ rfl) (B 120 _ rfl) (B 121 _ rfl)) fl_X8_57 hS.k rfl rfl (n := 122) rfl ?_
  refine Vw.vret (de_return_ (B 122 _ rfl)) rfl ⟨rfl, ?_⟩
  refine h S2 _ c (fun b hb => funext fun k => ?_) (hK.copy ?_ ?_ ?_ ?_ ?_ ?_ (fun i hi => ?_) (fun i hi => ?_) (fun i hi => ?_) c.2.2.2 (c.sc (by omega)) (fun b hb => funext fun k => ?_))
  · rw [up2_a (by omega), cpR_o (by omega), cpR_o (by omega), cpR_o (by omega), up2_a (by omega), up2_a (by omega), up2_a (by omega)]; exact congrFun (fr b (by omega) (by omega)) k
  · refine t1.of (fun b q1 q2 => funext fun k => ?_) hK.tn.1 hK.tn.2.1
    rw [up2_a (by omega), cpR_o (by omega), cpR_o (by omega), cpR_o (by omega), up2_a (by omega), up2_a (by omega), up2_a (by omega), up2_a (by omega)]
  · rw [up2_k (by decide), cpR_o (by omega), cpR_o (by omega), cpR_o (by omega), up2_k (by decide), up2_k (by decide), up2_k (by decide), up2_s, f1 o (by omega)]
  · rw [up2_k (by decide), cpR_o (by omega), cpR_o (by omega), cpR_o (by omega), up2_k (by decide), up2_k (by decide), up2_s, fo]
  · rw [up2_k (by decide), cpR_o (by omega), cpR_o (by omega), cpR_o (by omega), up2_k (by decide), up2_s, up2_row (by omega), fo]
  · rw [up2_k (by decide), cpR_o (by omega), cpR_o (by omega), cpR_o (by omega), up2_s, up2_row (by omega), up2_row (by omega), fo]
  · rw [up2_s, cpR_o (by omega), cpR_o (by omega), cpR_o (by omega), up2_row (by omega), up2_row (by omega), up2_row (by omega), fo]
  · rw [up2_a (by omega), cpR_o (by omega), cpR_o (by omega), cpR_i (by omega) (by omega), up2_row (by omega), up2_row (by omega), up2_row (by omega), fr (o + 25) (by omega) (by omega)]; congr 1; omega
  · rw [up2_a (by omega), cpR_o (by omega), cpR_i (by omega) (by omega), cpR_o (by omega), up2_row (by omega), up2_row (by omega), up2_row (by omega), fr (o + 26) (by omega) (by omega)]; congr 1; omega
  · rw [up2_a (by omega), cpR_i (by omega) (by omega), cpR_o (by omega), cpR_o (by omega), up2_row (by omega), up2_row (by omega), up2_row (by omega), fr (o + 27) (by omega) (by omega)]; congr 1; omega
  · rw [up2_a (by omega), cpR_o (by omega), cpR_o (by omega), cpR_o (by omega), up2_a (by omega), up2_a (by omega), up2_a (by omega)]; exact congrFun (fr b (by omega) (by omega)) k
theorem ClsS.ik {S : vS} {x k : Nat} (h : ClsS S x) (hk : k ≤ 1) : StateS S (x + 858 + 28 * k) ∧ va_rf (S.2.1 (x + 854) k) = .ref (x + 858 + 28 * k) := by
  obtain ⟨a, b, c, e⟩ := h.im
  rcases (show k = 0 ∨ k = 1 by omega) with rfl | rfl
  · exact ⟨b, by rw [a]; rfl⟩
  · exact ⟨e, by rw [c]; rfl⟩
theorem CpS.sk {x s o N : Nat} {S S2 : vS} (c : CpS s o 6 S S2) (h : s = x + 1 ∨ s = x + 858 ∨ s = x + 886) : SK x N S S2 := ⟨fun b _ => by rw [c.1], fun b k _ h1 h2 h3 _ => by rw [c.2.2.1 b (by omega)]⟩
theorem k_image {d : Nat} {S : vS} {I : vI} {L : vL} {Q : Int32 → vS → vI → vL → Prop} {x lb np nc ns nl : Nat} {K : Nat → Int32} {l : List tH} {v : Int32} (hC : ClsS S x) (hs : STR S I (x + 1) lb K np nc ns nl) (hH : HC I (x + 89) l np) (hlb : x + 942 ≤ lb) (hlw : LWS S lb (x + 1)) (h1 : zLie v 0 1 = 0 → Q (-1) S (cRef I x (-1) 1) L) (h : ∀ k, k ≤ 1 → v = nI k → ∀ S2 I2, CpS (x + 858 + 28 * k) (x + 1) 6 S S2 → (∀ b, ¬ (x + 858 + 28 * k ≤ b ∧ b ≤ x + 858 + 28 * k + 27) → I2 b = I b) → STR S2 I2 (x + 858 + 28 * k) lb K np nc ns nl → Q 0 S2 (cAcc (up2 I2 (x + 855) k 1) x) L) : Vc mX11_image (d + 80) 0 0 [.ref x, .int v] S I L (ViQ Q) := by
  refine Vc.of rfl (Nat.le_of_ble_eq_true rfl) ?_
  have B := bs_X11_image
  show Vw mX11_image (d + 80) 0 0 0 0 (ViQ Q) 0 [(0, .ref x), (1, .int v)] [] S I L
  have hT := hC.p0.p0
  have hN := hs.tn
  have h8 := hN.1
  have h10 := hN.2.1
  have hK := hs.tr
  have hold : ∃ old, old < 16 ∧ I (x + 89) 2 = nI old := by obtain ⟨_, _, old, o1, o2, _⟩ := hH; exact ⟨old, o1, o2⟩
  refine Vw.iload_n (de_iload_1 (B 0 _ rfl)) 1 rfl (n := 1) rfl ?_
  refine Vw.iconst (v := 0) (de_iconst_0 (B 1 _ rfl)) rfl (n := 2) rfl ?_
  refine Vw.iconst (v := 1) (de_iconst_1 (B 2 _ rfl)) rfl (n := 3) rfl ?_
  refine Vw.isi3 (mi' := mX11_isWithin) (de_invokestatic (B 3 _ rfl) (B 4 _ rfl) (B 5 _ rfl)) ml_X11_165 ms_X11_isWithin (Nat.le_of_ble_eq_true rfl) (n := 6) rfl (c_X11_isWithin ?_)
  refine Vw.if_ne (tgt := 15) (n := 9) (de_if_ne (B 6 _ rfl) (B 7 _ rfl) (B 8 _ rfl)) rfl rfl (fun c_6 => ?_) (fun c_6 => ?_)
  · obtain ⟨k, hk, rfl⟩ := lie_n (N := 1) (by decide) c_6
    have hik := hC.ik hk
    refine Vw.aload_n (de_aload_0 (B 15 _ rfl)) 0 rfl (n := 16) rfl ?_
    refine Vw.getR (de_getfield (B 16 _ rfl) (B 17 _ rfl) (B 18 _ rfl)) fl_X11_74 rfl hC.k hC.f9 (n := 19) rfl ?_
    refine Vw.iload_n (de_iload_1 (B 19 _ rfl)) 1 rfl (n := 20) rfl ?_
    refine Vw.aald8 (b := 0) (de_aaload (B 20 _ rfl)) hC.r9 (vIx_n (k := k) rfl (by omega)) hik.2 (n := 21) rfl ?_
    refine Vw.aload_n (de_aload_0 (B 21 _ rfl)) 0 rfl (n := 22) rfl ?_
    refine Vw.getR (de_getfield (B 22 _ rfl) (B 23 _ rfl) (B 24 _ rfl)) fl_X11_12 rfl hC.k hC.f0 (n := 25) rfl ?_
    refine Vw.ivv1 (mi' := mX8_copyFrom) (de_invokevirtual (B 25 _ rfl) (B 26 _ rfl) (B 27 _ rfl)) ml_X11_408 mv_X8_copyFrom hik.1.k (Nat.le_of_ble_eq_true rfl) (n := 28) rfl (c_X8_copyFrom (s := x + 858 + 28 * k) (o := x + 1) (d := d + 76) hik.1 hC.p0 (by omega) (by omega) (by omega) hlw hs (fun S2 I2 c2 f2 s2 => ?_))
    have hC2 := hC
    have hC : ClsS S2 x := hC2.sk (N := x + 942) (c2.sk (by omega)) (Nat.le_refl _)
    refine Vw.aload_n (de_aload_0 (B 28 _ rfl)) 0 rfl (n := 29) rfl ?_
    refine Vw.getR (de_getfield (B 29 _ rfl) (B 30 _ rfl) (B 31 _ rfl)) fl_X11_78 rfl hC.k hC.f10 (n := 32) rfl ?_
    refine Vw.iload_n (de_iload_1 (B 32 _ rfl)) 1 rfl (n := 33) rfl ?_
    refine Vw.iconst (v := 1) (de_iconst_1 (B 33 _ rfl)) rfl (n := 34) rfl ?_
    refine Vw.zast (de_bastore (B 34 _ rfl)) hC.r10 (vIx_n (k := k) rfl (by omega)) rfl (n := 35) rfl ?_
    refine Vw.aload_n (de_aload_0 (B 35 _ rfl)) 0 rfl (n := 36) rfl ?_
    refine Vw.iconst (v := 0) (de_iconst_0 (B 36 _ rfl)) rfl (n := 37) rfl ?_
    refine Vw.ivi1 (mi' := mX11_accept) (de_invokevirtual (B 37 _ rfl) (B 38 _ rfl) (B 39 _ rfl)) ml_X11_117 mv_X11_accept hC.k (Nat.le_of_ble_eq_true rfl) (n := 40) rfl (c_X11_accept hC ?_)
    exact Vw.iret (de_ireturn (B 40 _ rfl)) rfl ⟨_, rfl, (h k hk rfl S2 I2 c2 f2 s2)⟩
  refine Vw.aload_n (de_aload_0 (B 9 _ rfl)) 0 rfl (n := 10) rfl ?_
  refine Vw.iconst (v := -1) (de_iconst_m1 (B 10 _ rfl)) rfl (n := 11) rfl ?_
  refine Vw.ivi1 (mi' := mX11_refuse) (de_invokevirtual (B 11 _ rfl) (B 12 _ rfl) (B 13 _ rfl)) ml_X11_100 mv_X11_refuse hC.k (Nat.le_of_ble_eq_true rfl) (n := 14) rfl (c_X11_refuse (j := 1) hC rfl (by decide) ?_)
  exact Vw.iret (de_ireturn (B 14 _ rfl)) rfl ⟨_, rfl, (h1 c_6)⟩
theorem k_back {d : Nat} {S : vS} {I : vI} {L : vL} {Q : Int32 → vS → vI → vL → Prop} {x lb np nc ns nl : Nat} {K : Nat → Int32} {l : List tH} {v : Int32} (hC : ClsS S x) (hs : STR S I (x + 1) lb K np nc ns nl) (hH : HC I (x + 89) l np) (hlb : x + 942 ≤ lb) (G : Nat → Nat → Int32) (hlw : ∀ k, k ≤ 1 → LWS S lb (x + 858 + 28 * k)) (him : ∀ k, k ≤ 1 → ¬ I (x + 855) k = 0 → ∃ a b c e, STR S I (x + 858 + 28 * k) lb (G k) a b c e) (h1 : zLie v 0 1 = 0 → Q (-1) S (cRef I x (-1) 1) L) (h2 : ∀ k, k ≤ 1 → v = nI k → I (x + 855) k = 0 → Q (-2) S (cRef I x (-2) 2) L) (h : ∀ k, k ≤ 1 → v = nI k → ¬ I (x + 855) k = 0 → ∀ S2 I2 np2 nc2 ns2 nl2, CpS (x + 1) (x + 858 + 28 * k) 6 S S2 → (∀ b, ¬ (x + 1 ≤ b ∧ b ≤ x + 28) → b ≠ x + 89 → I2 b = I b) → STR S2 I2 (x + 1) lb (G k) np2 nc2 ns2 nl2 → HC I2 (x + 89) [] np2 → Q 0 S2 (cAcc I2 x) L) : Vc mX11_back (d + 80) 0 0 [.ref x, .int v] S I L (ViQ Q) := by
  refine Vc.of rfl (Nat.le_of_ble_eq_true rfl) ?_
  have B := bs_X11_back
  show Vw mX11_back (d + 80) 0 0 0 0 (ViQ Q) 0 [(0, .ref x), (1, .int v)] [] S I L
  have hT := hC.p0.p0
  have hN := hs.tn
  have h8 := hN.1
  have h10 := hN.2.1
  have hK := hs.tr
  have hold : ∃ old, old < 16 ∧ I (x + 89) 2 = nI old := by obtain ⟨_, _, old, o1, o2, _⟩ := hH; exact ⟨old, o1, o2⟩
  refine Vw.iload_n (de_iload_1 (B 0 _ rfl)) 1 rfl (n := 1) rfl ?_
  refine Vw.iconst (v := 0) (de_iconst_0 (B 1 _ rfl)) rfl (n := 2) rfl ?_
  refine Vw.iconst (v := 1) (de_iconst_1 (B 2 _ rfl)) rfl (n := 3) rfl ?_
  refine Vw.isi3 (mi' := mX11_isWithin) (de_invokestatic (B 3 _ rfl) (B 4 _ rfl) (B 5 _ rfl)) ml_X11_165 ms_X11_isWithin (Nat.le_of_ble_eq_true rfl) (n := 6) rfl (c_X11_isWithin ?_)
  refine Vw.if_ne (tgt := 15) (n := 9) (de_if_ne (B 6 _ rfl) (B 7 _ rfl) (B 8 _ rfl)) rfl rfl (fun c_6 => ?_) (fun c_6 => ?_)
  · obtain ⟨k, hk, rfl⟩ := lie_n (N := 1) (by decide) c_6
    have hik := hC.ik hk
    refine Vw.aload_n (de_aload_0 (B 15 _ rfl)) 0 rfl (n := 16) rfl ?_
    refine Vw.getR (de_getfield (B 16 _ rfl) (B 17 _ rfl) (B 18 _ rfl)) fl_X11_78 rfl hC.k hC.f10 (n := 19) rfl ?_
    refine Vw.iload_n (de_iload_1 (B 19 _ rfl)) 1 rfl (n := 20) rfl ?_
    refine Vw.zald (de_baload (B 20 _ rfl)) hC.r10 (vIx_n (k := k) rfl (by omega)) (n := 21) rfl ?_
    refine Vw.if_ne (tgt := 31) (n := 24) (de_if_ne (B 21 _ rfl) (B 22 _ rfl) (B 23 _ rfl)) rfl rfl (fun c_21 => ?_) (fun c_21 => ?_)
    · obtain ⟨np2, nc2, ns2, nl2, sk⟩ := him k hk c_21
      refine Vw.aload_n (de_aload_0 (B 31 _ rfl)) 0 rfl (n := 32) rfl ?_
      refine Vw.getR (de_getfield (B 32 _ rfl) (B 33 _ rfl) (B 34 _ rfl)) fl_X11_12 rfl hC.k hC.f0 (n := 35) rfl ?_
      refine Vw.aload_n (de_aload_0 (B 35 _ rfl)) 0 rfl (n := 36) rfl ?_
      refine Vw.getR (de_getfield (B 36 _ rfl) (B 37 _ rfl) (B 38 _ rfl)) fl_X11_74 rfl hC.k hC.f9 (n := 39) rfl ?_
      refine Vw.iload_n (de_iload_1 (B 39 _ rfl)) 1 rfl (n := 40) rfl ?_
      refine Vw.aald8 (b := 0) (de_aaload (B 40 _ rfl)) hC.r9 (vIx_n (k := k) rfl (by omega)) hik.2 (n := 41) rfl ?_
      refine Vw.ivv1 (mi' := mX8_copyFrom) (de_invokevirtual (B 41 _ rfl) (B 42 _ rfl) (B 43 _ rfl)) ml_X11_408 mv_X8_copyFrom hC.p0.k (Nat.le_of_ble_eq_true rfl) (n := 44) rfl (c_X8_copyFrom (s := x + 1) (o := x + 858 + 28 * k) (d := d + 76) hC.p0 hik.1 (by omega) (by omega) (by omega) (hlw k hk) sk (fun S2 I2 c2 f2 s2 => ?_))
      have hC2 := hC
      have hC : ClsS S2 x := hC2.sk (N := x + 942) (c2.sk (by omega)) (Nat.le_refl _)
      refine Vw.aload_n (de_aload_0 (B 44 _ rfl)) 0 rfl (n := 45) rfl ?_
      refine Vw.getR (de_getfield (B 45 _ rfl) (B 46 _ rfl) (B 47 _ rfl)) fl_X11_60 rfl hC.k hC.f6 (n := 48) rfl ?_
      refine Vw.ivv0 (mi' := mX2_clear) (de_invokevirtual (B 48 _ rfl) (B 49 _ rfl) (B 50 _ rfl)) ml_X11_110 mv_X2_clear hC.p6.k (Nat.le_of_ble_eq_true rfl) (n := 51) rfl (c_X2_clear (np := np2) hC.p6 (by rw [f2 _ (by omega)]; exact hold) (fun I3 f3 f3k h3 => ?_))
      refine Vw.aload_n (de_aload_0 (B 51 _ rfl)) 0 rfl (n := 52) rfl ?_
      refine Vw.iconst (v := 0) (de_iconst_0 (B 52 _ rfl)) rfl (n := 53) rfl ?_
      refine Vw.ivi1 (mi' := mX11_accept) (de_invokevirtual (B 53 _ rfl) (B 54 _ rfl) (B 55 _ rfl)) ml_X11_117 mv_X11_accept hC.k (Nat.le_of_ble_eq_true rfl) (n := 56) rfl (c_X11_accept hC ?_)
      exact Vw.iret (de_ireturn (B 56 _ rfl)) rfl ⟨_, rfl, (h k hk rfl c_21 S2 I3 np2 nc2 ns2 nl2 c2 (fun b q1 q2 => (f3 b q2).trans (f2 b (by omega))) (s2.of (fun b g1 g2 => f3 b (by omega)) (fun b hb => f3 b (by omega))) h3)⟩
    refine Vw.aload_n (de_aload_0 (B 24 _ rfl)) 0 rfl (n := 25) rfl ?_
    refine Vw.bipush (v := -2) (de_bipush (B 25 _ rfl) (B 26 _ rfl)) rfl (n := 27) rfl ?_
    refine Vw.ivi1 (mi' := mX11_refuse) (de_invokevirtual (B 27 _ rfl) (B 28 _ rfl) (B 29 _ rfl)) ml_X11_100 mv_X11_refuse hC.k (Nat.le_of_ble_eq_true rfl) (n := 30) rfl (c_X11_refuse (j := 2) hC rfl (by decide) ?_)
    exact Vw.iret (de_ireturn (B 30 _ rfl)) rfl ⟨_, rfl, (h2 k hk rfl c_21)⟩
  refine Vw.aload_n (de_aload_0 (B 9 _ rfl)) 0 rfl (n := 10) rfl ?_
  refine Vw.iconst (v := -1) (de_iconst_m1 (B 10 _ rfl)) rfl (n := 11) rfl ?_
  refine Vw.ivi1 (mi' := mX11_refuse) (de_invokevirtual (B 11 _ rfl) (B 12 _ rfl) (B 13 _ rfl)) ml_X11_100 mv_X11_refuse hC.k (Nat.le_of_ble_eq_true rfl) (n := 14) rfl (c_X11_refuse (j := 1) hC rfl (by decide) ?_)
  exact Vw.iret (de_ireturn (B 14 _ rfl)) rfl ⟨_, rfl, (h1 c_6)⟩
theorem SPx.sk {S S2 : vS} {x r lb : Nat} (h : SPx S x r lb) (f : SK x S.2.2 S S2) (hn : S.2.2 ≤ S2.2.2) (w0 : LWS S2 lb (x + 1)) (w1 : LWS S2 lb (x + 858)) (w2 : LWS S2 lb (x + 886)) : SPx S2 x r lb := by
  obtain ⟨h1, h2, h3, er, el, h4, -⟩ := h
  refine ⟨h1.sk f (by omega), h2.sk f er (by omega), fun k hk => ?_, er, el, by omega, w0, w1, w2⟩
  obtain ⟨z, b, z1, z2, z3, z4⟩ := h3 k hk
  exact ⟨z, b, z1, z2, by rw [f.1 z (by omega)]; exact z3, by rw [f.1 b (by omega)]; exact z4⟩
theorem LWS.of {S S2 : vS} {lb s : Nat} (h : LWS S lb s) (e : ∀ t, t < 6 → S2.2.1 (s + 24) t = S.2.1 (s + 24) t) (hn : S.2.2 ≤ S2.2.2) (ek : ∀ b, b < S.2.2 → S2.1 b = S.1 b) : LWS S2 lb s := fun t ht => by
  rcases h t ht with z | ⟨a, a1, a2, a3, a4⟩
  · exact Or.inl ((e t ht).trans z)
  · exact Or.inr ⟨a, a1, by omega, (e t ht).trans a3, by rw [ek a (by omega)]; exact a4⟩
theorem LWS.cp {S S2 : vS} {lb s o : Nat} (h : LWS S lb o) (c : CpS s o 6 S S2) : LWS S2 lb s := fun t ht => by
  rw [c.1, c.2.1, c.2.2.2 t ht]; exact h t ht
/-- a changed shape -/
theorem REL.upS {S S2 : vS} {I J : vI} {x r lb np nc ns nl np2 nc2 ns2 nl2 : Nat} {l l2 : List tH} (hR : CP S I x lb (I (r + 2)) l (I (r + 7)) (I r) (I (r + 1)) (I (r + 3)) (I (r + 4)) (I (r + 26)) (I (r + 27)) np nc ns nl) (hW : Wd (I (r + 6)) WL 0) (hP : SPx S2 x r lb)
    (f : ∀ b k, (x + 34 = b ∧ k = 11) ∨ (x + 43 ≤ b ∧ b ≤ x + 65) → J b k = I b k) (g : ∀ b, b = r + 6 ∨ b = r + 26 ∨ b = r + 27 → J b = I b) (g54 : J r 54 = I r 54) (g56 : J r 56 = I r 56)
    (him : ∀ k, k < 2 → J (x + 855) k = J (r + 4) k ∧ (¬ J (r + 4) k = 0 → ∃ np nc ns nl, STR S2 J (x + 858 + 28 * k) lb (fun j => J (r + 3) (5753 * k + j)) np nc ns nl))
    (hS : STR S2 J (x + 1) lb (J (r + 2)) np2 nc2 ns2 nl2) (hH : HC J (x + 89) l2 np2) (hL : LfR (J (r + 14)) l2 np2) (h32 : J r 32 = nI l2.length) (hold : ∃ old, old < 16 ∧ J (x + 460) 2 = nI old) (hn : ∃ n, n ≤ 400 ∧ J r 11 = nI n ∧ J x 12 = nI n) (hu : ∀ j, j < 400 → J (x + 856) j = J (r + 7) j &&& 255 ∧ bt (J (r + 7) j)) (h6 : J x 13 = J r 6) (h12 : J x 14 = J r 12) (h43 : J x 15 = J r 43) (h0 : J x 16 = J r 0) (hrf : ∀ j, j < 7 → J (x + 857) j = J (r + 1) j) : REL S2 J x r lb := by
  obtain ⟨-, -, -, -, -, -, -, -, -, -, -, h12b, nd, h13, h14, h15⟩ := hR
  have row : ∀ b, (x + 43 ≤ b ∧ b ≤ x + 65) → J b = I b := fun b hb => funext fun k => f b k (Or.inr hb)
  refine ⟨l2, np2, nc2, ns2, nl2, ⟨hS, hH, hold, hn, hu, h6, h12, h43, h0, hrf, him, ?_, nd, h13, g54.trans h14, fun q => ?_⟩, hL, h32, by rw [g _ (by omega)]; exact hW, hP⟩
  · rw [f _ _ (Or.inl ⟨rfl, rfl⟩), g56]; exact h12b
  · rw [g56] at q
    obtain ⟨a, b, c⟩ := h15 q
    rw [g (r + 26) (by omega), g (r + 27) (by omega)]
    exact ⟨by rw [row (x + 43) (by omega)]; exact a, fun q hq => by rw [row _ (by omega)]; exact b q hq, fun t ht => by rw [row _ (by omega)]; exact c t ht⟩
theorem lie_1 {a : Nat} (h : a ≤ 1) : ¬ zLie (nI a) 0 1 = 0 := by rw [zLie_iff, nI_ti (by omega)]; show (0 : Int) ≤ _ ∧ _ ≤ (1 : Int); omega
theorem nI_in1 {a b : Nat} (ha : a ≤ 1) (hb : b < 2) (h : nI a = nI b) : b = a := (nI_inj (by omega) (by omega) h).symm
theorem pr_image {S : vS} {I : vI} {L : vL} {x r lb : Nat} {v : Int32} (hR : REL S I x r lb) : PR mX11_image mX12_image 0 0 [.int v] x r lb S I L := by
  intro d Q h
  obtain ⟨l, np, nc, ns, nl, hCP, hL, h32, hWd, hSP⟩ := hR
  have hR : REL S I x r lb := ⟨l, np, nc, ns, nl, hCP, hL, h32, hWd, hSP⟩
  have hs := hCP.1
  have hH := hCP.2.1
  have hN := hs.tn
  obtain ⟨hC, hM, hst, er, el, hl2⟩ := id hSP
  obtain ⟨-, -, hold, ⟨n, n4, zn, xn⟩, hu, h13, h14, h15, h16, hrf, him, hy, nd, nd8, z54, hyr⟩ := id hCP
  have hlw := hSP.2.2.2.2.2.2
  have hTN := hs.tn
  refine k_image hC hs hH (by omega) hlw.1 (fun c1 => h _ S _ L (fun _ _ => rfl) (fun d2 Q2 g => ?_)) (fun k hk ev S2 I2 c2 f2 s2 => h _ S2 _ L (fun b _ => by rw [c2.1]) (fun d2 Q2 g => ?_))
  · exact c_X12_image (d := d2 + 59) hM (fun _ => g _ _ (hR.ref (k := (-1)) (j := 1) (by decide)) (fun b hb => by rw [mRef_o (by omega) (by omega), cRef_o (by omega) (by omega)])) (fun k hk q => absurd (q ▸ c1) (lie_1 (by omega)))
  · subst ev
    have hSP2 := hSP.sk (c2.sk (by omega)) (by rw [c2.2.1]; exact Nat.le_refl _) (hlw.1.of (fun t _ => by rw [c2.2.2.1 _ (by omega)]) (by rw [c2.2.1]; exact Nat.le_refl _) (fun b _ => by rw [c2.1]))
      (by
        by_cases z : k = 0
        · subst z; exact LWS.cp hlw.1 c2
        · exact hlw.2.1.of (fun t _ => by rw [c2.2.2.1 _ (by omega)]) (by rw [c2.2.1]; exact Nat.le_refl _) (fun b _ => by rw [c2.1]))
      (by
        by_cases z : k = 1
        · subst z; exact LWS.cp hlw.1 c2
        · exact hlw.2.2.of (fun t _ => by rw [c2.2.2.1 _ (by omega)]) (by rw [c2.2.1]; exact Nat.le_refl _) (fun b _ => by rw [c2.1]))
    refine c_X12_image (d := d2 + 59) hSP2.2.1 (fun q => absurd q (lie_1 hk)) (fun k2 hk2 ek => ?_)
    obtain rfl := nI_in1 hk hk2 ek
    have row : ∀ b, b ≠ x → b ≠ x + 855 → ¬ (x + 858 + 28 * k2 ≤ b ∧ b ≤ x + 858 + 28 * k2 + 27) → b ≠ r → b ≠ r + 3 → b ≠ r + 4 → mImage (cAcc (up2 I2 (x + 855) k2 1) x) r k2 b = I b := fun b q1 q2 q3 q4 q5 q6 => funext fun j => by
      unfold mImage; rw [mGood_o q4, up2_a q6, cpR_o q5, cAcc_o q1, up2_a q2, f2 b q3]
    have rowi : ∀ b, b ≠ x → b ≠ x + 855 → b ≠ r → b ≠ r + 3 → b ≠ r + 4 → mImage (cAcc (up2 I2 (x + 855) k2 1) x) r k2 b = I2 b := fun b q1 q2 q4 q5 q6 => funext fun j => by
      unfold mImage; rw [mGood_o q4, up2_a q6, cpR_o q5, cAcc_o q1, up2_a q2]
    have rk : ∀ j, j ≠ 0 → mImage (cAcc (up2 I2 (x + 855) k2 1) x) r k2 r j = I r j := fun j hj => by
      unfold mImage; rw [mGood_k hj, up2_a (by omega), cpR_o (by omega), cAcc_o (by omega), up2_a (by omega), f2 r (by omega)]
    have xk : ∀ j, j ≠ 16 → mImage (cAcc (up2 I2 (x + 855) k2 1) x) r k2 x j = I x j := fun j hj => by
      unfold mImage cAcc; rw [mGood_o (by omega), up2_a (by omega), cpR_o (by omega), up2_k hj, up2_a (by omega), f2 x (by omega)]
    have r4 : ∀ j, mImage (cAcc (up2 I2 (x + 855) k2 1) x) r k2 (r + 4) j = if j = k2 then 1 else I (r + 4) j := fun j => by
      unfold mImage; rw [mGood_o (by omega)]
      by_cases z : j = k2
      · rw [if_pos z, z, up2_s]
      · rw [if_neg z, up2_k z, cpR_o (by omega), cAcc_o (by omega), up2_a (by omega), f2 _ (by omega)]
    have x855 : ∀ j, mImage (cAcc (up2 I2 (x + 855) k2 1) x) r k2 (x + 855) j = if j = k2 then 1 else I (x + 855) j := fun j => by
      unfold mImage; rw [mGood_o (by omega), up2_a (by omega), cpR_o (by omega), cAcc_o (by omega)]
      by_cases z : j = k2
      · rw [if_pos z, z, up2_s]
      · rw [if_neg z, up2_k z, f2 _ (by omega)]
    have r3 : ∀ j, mImage (cAcc (up2 I2 (x + 855) k2 1) x) r k2 (r + 3) j = if 5753 * k2 ≤ j ∧ j < 5753 * k2 + 5753 then I (r + 2) (j - 5753 * k2) else I (r + 3) j := fun j => by
      unfold mImage; rw [mGood_o (by omega), up2_a (by omega)]
      by_cases z : 5753 * k2 ≤ j ∧ j < 5753 * k2 + 5753
      · rw [if_pos z, cpR_i z.1 z.2, cAcc_o (by omega), up2_a (by omega), f2 _ (by omega), Nat.zero_add]
      · rw [if_neg z, cpR_u (by omega), cAcc_o (by omega), up2_a (by omega), f2 _ (by omega)]
    have sc := c2.sc (lb := lb) (by omega)
    refine g _ _ (REL.upS (np2 := np) (nc2 := nc) (ns2 := ns) (nl2 := nl) (l2 := l) hCP hWd hSP2 (fun b k hb => by rw [row b (by omega) (by omega) (by omega) (by omega) (by omega) (by omega)]) (fun b hb => row b (by omega) (by omega) (by omega) (by omega) (by omega) (by omega)) (rk _ (by decide)) (rk _ (by decide)) (fun k hk3 => ?_) ?_ ?_ ?_ ?_ ?_ ⟨n, n4, ?_, ?_⟩ (fun j hj => ?_) ?_ ?_ ?_ ?_ (fun i hi => ?_)) (fun b hb => row b (by omega) (by omega) (by omega) (by omega) (by omega) (by omega))
    · rw [x855, r4]
      by_cases z : k = k2
      · rw [if_pos z, if_pos z]
        refine ⟨rfl, fun _ => ⟨np, nc, ns, nl, ?_⟩⟩
        subst z
        refine STR.kx (K := I (r + 2)) (s2.of (fun b q1 q2 => rowi b (by omega) (by omega) (by omega) (by omega) (by omega)) (fun b hb => rowi b (by omega) (by omega) (by omega) (by omega) (by omega))) (fun j hj => ?_)
        unfold scrK at hj
        show mImage _ _ _ _ _ = _
        rw [r3, if_pos (by omega)]; congr 1; omega
      · rw [if_neg z, if_neg z]
        refine ⟨(him k hk3).1, fun q => ?_⟩
        obtain ⟨a, b, c, e, st⟩ := (him k hk3).2 q
        refine ⟨a, b, c, e, STR.kx (K := fun j => I (r + 3) (5753 * k + j)) ((st.sk (fun t _ => by rw [c2.2.2.1 _ (by omega)]) sc).of (fun b q1 q2 => row b (by omega) (by omega) (by omega) (by omega) (by omega) (by omega)) (fun b hb => row b (by omega) (by omega) (by omega) (by omega) (by omega) (by omega))) (fun j hj => ?_)⟩
        unfold scrK at hj
        show mImage _ _ _ _ _ = _
        rw [r3, if_neg (by omega)]
    · rw [row (r + 2) (by omega) (by omega) (by omega) (by omega) (by omega) (by omega)]
      exact (hs.sk (fun t _ => by rw [c2.2.2.1 _ (by omega)]) sc).of (fun b q1 q2 => row b (by omega) (by omega) (by omega) (by omega) (by omega) (by omega)) (fun b hb => row b (by omega) (by omega) (by omega) (by omega) (by omega) (by omega))
    · exact hH.of hN.1 (fun b q1 q2 => row b (by omega) (by omega) (by omega) (by omega) (by omega) (by omega))
    · rw [row (r + 14) (by omega) (by omega) (by omega) (by omega) (by omega) (by omega)]; exact hL
    · rw [rk _ (by decide)]; exact h32
    · rw [row (x + 460) (by omega) (by omega) (by omega) (by omega) (by omega) (by omega)]; exact hold
    · rw [rk _ (by decide)]; exact zn
    · rw [xk _ (by decide)]; exact xn
    · rw [row (x + 856) (by omega) (by omega) (by omega) (by omega) (by omega) (by omega), row (r + 7) (by omega) (by omega) (by omega) (by omega) (by omega) (by omega)]; exact hu j hj
    · rw [xk _ (by decide), rk _ (by decide)]; exact h13
    · rw [xk _ (by decide), rk _ (by decide)]; exact h14
    · rw [xk _ (by decide), rk _ (by decide)]; exact h15
    · unfold mImage; rw [mGood_0, mGood_o (by omega), up2_a (by omega), cpR_o (by omega), cAcc_16]
    · rw [row (x + 857) (by omega) (by omega) (by omega) (by omega) (by omega) (by omega), row (r + 1) (by omega) (by omega) (by omega) (by omega) (by omega) (by omega)]; exact hrf i hi
theorem pr_back {S : vS} {I : vI} {L : vL} {x r lb : Nat} {v : Int32} (hR : REL S I x r lb) : PR mX11_back mX12_back 0 0 [.int v] x r lb S I L := by
  intro d Q h
  obtain ⟨l, np, nc, ns, nl, hCP, hL, h32, hWd, hSP⟩ := hR
  have hR : REL S I x r lb := ⟨l, np, nc, ns, nl, hCP, hL, h32, hWd, hSP⟩
  have hs := hCP.1
  have hH := hCP.2.1
  have hN := hs.tn
  obtain ⟨hC, hM, hst, er, el, hl2⟩ := id hSP
  obtain ⟨-, -, hold, ⟨n, n4, zn, xn⟩, hu, h13, h14, h15, h16, hrf, him, hy, nd, nd8, z54, hyr⟩ := id hCP
  have hlw := hSP.2.2.2.2.2.2
  have hTN := hs.tn
  refine k_back hC hs hH (by omega) (fun k j => I (r + 3) (5753 * k + j)) (fun k hk => by rcases (show k = 0 ∨ k = 1 by omega) with rfl | rfl; exact hlw.2.1; exact hlw.2.2) (fun k hk q => (him k (by omega)).2 (by rw [← (him k (by omega)).1]; exact q)) (fun c1 => h _ S _ L (fun _ _ => rfl) (fun d2 Q2 g => ?_)) (fun k hk ev c1 => h _ S _ L (fun _ _ => rfl) (fun d2 Q2 g => ?_)) (fun k hk ev c1 S2 I2 np2 nc2 ns2 nl2 c2 f2 s2 h2 => h _ S2 _ L (fun b _ => by rw [c2.1]) (fun d2 Q2 g => ?_))
  · exact c_X12_back (d := d2 + 58) hM (fun _ => g _ _ (hR.ref (k := (-1)) (j := 1) (by decide)) (fun b hb => by rw [mRef_o (by omega) (by omega), cRef_o (by omega) (by omega)])) (fun k hk q => absurd (q ▸ c1) (lie_1 (by omega))) (fun k hk q => absurd (q ▸ c1) (lie_1 (by omega)))
  · subst ev
    refine c_X12_back (d := d2 + 58) hM (fun q => absurd q (lie_1 hk)) (fun k2 hk2 q _ => g _ _ (hR.ref (k := (-2)) (j := 2) (by decide)) (fun b hb => by rw [mRef_o (by omega) (by omega), cRef_o (by omega) (by omega)])) (fun k2 hk2 q q2 => ?_)
    obtain rfl := nI_in1 hk hk2 q
    rw [cRef_o (by omega) (by omega), ← (him k2 hk2).1] at q2
    exact absurd c1 q2
  · subst ev
    have hSP2 := hSP.sk (c2.sk (by omega)) (by rw [c2.2.1]; exact Nat.le_refl _) (LWS.cp (by rcases (show k = 0 ∨ k = 1 by omega) with rfl | rfl; exact hlw.2.1; exact hlw.2.2) c2) (hlw.2.1.of (fun t _ => by rw [c2.2.2.1 _ (by omega)]) (by rw [c2.2.1]; exact Nat.le_refl _) (fun b _ => by rw [c2.1])) (hlw.2.2.of (fun t _ => by rw [c2.2.2.1 _ (by omega)]) (by rw [c2.2.1]; exact Nat.le_refl _) (fun b _ => by rw [c2.1]))
    have f2r : ∀ b, r ≤ b → cAcc I2 x b = I b := fun b hb => by rw [cAcc_o (by omega), f2 b (by omega) (by omega)]
    refine c_X12_back (d := d2 + 58) hSP2.2.1 (fun q => absurd q (lie_1 hk)) (fun k2 hk2 q q2 => ?_) (fun k2 hk2 q q2 => ?_)
    · obtain rfl := nI_in1 hk hk2 q
      rw [f2r _ (by omega), ← (him k2 hk2).1] at q2
      exact absurd q2 c1
    obtain rfl := nI_in1 hk hk2 q
    have row : ∀ b, b ≠ x → ¬ (x + 1 ≤ b ∧ b ≤ x + 28) → b ≠ x + 89 → b ≠ r → b ≠ r + 2 → mBack (cAcc I2 x) r k2 b = I b := fun b q1 q2 q3 q4 q5 => funext fun j => by
      unfold mBack; rw [mSet_o q4, cpR_o q5, cAcc_o q1, f2 b q2 q3]
    have rowi : ∀ b, b ≠ x → b ≠ r → b ≠ r + 2 → mBack (cAcc I2 x) r k2 b = I2 b := fun b q1 q4 q5 => funext fun j => by
      unfold mBack; rw [mSet_o q4, cpR_o q5, cAcc_o q1]
    have rk : ∀ j, j ≠ 0 → j ≠ 32 → mBack (cAcc I2 x) r k2 r j = I r j := fun j hj hj2 => by
      unfold mBack; rw [mSet_k hj hj2, cpR_o (by omega), f2r r (by omega)]
    have xk : ∀ j, j ≠ 16 → mBack (cAcc I2 x) r k2 x j = I x j := fun j hj => by
      unfold mBack cAcc; rw [mSet_o (by omega), cpR_o (by omega), up2_k hj, f2 x (by omega) (by omega)]
    have sc := c2.sc (lb := lb) (by omega)
    refine g _ _ (REL.upS (np2 := np2) (nc2 := nc2) (ns2 := ns2) (nl2 := nl2) (l2 := []) hCP hWd hSP2 (fun b k hb => by rw [row b (by omega) (by omega) (by omega) (by omega) (by omega)]) (fun b hb => row b (by omega) (by omega) (by omega) (by omega) (by omega)) (rk _ (by decide) (by decide)) (rk _ (by decide) (by decide)) (fun k hk3 => ?_) ?_ ?_ (fun i k c q => by cases q) ?_ ?_ ⟨n, n4, ?_, ?_⟩ (fun j hj => ?_) ?_ ?_ ?_ ?_ (fun i hi => ?_)) (fun b hb => row b (by omega) (by omega) (by omega) (by omega) (by omega))
    · rw [row (x + 855) (by omega) (by omega) (by omega) (by omega) (by omega), row (r + 4) (by omega) (by omega) (by omega) (by omega) (by omega), row (r + 3) (by omega) (by omega) (by omega) (by omega) (by omega)]
      refine ⟨(him k hk3).1, fun q => ?_⟩
      obtain ⟨a, b, c, e, st⟩ := (him k hk3).2 q
      exact ⟨a, b, c, e, (st.sk (fun t _ => by rw [c2.2.2.1 _ (by omega)]) sc).of (fun b q1 q2 => row b (by omega) (by omega) (by omega) (by omega) (by omega)) (fun b hb => row b (by omega) (by omega) (by omega) (by omega) (by omega))⟩
    · refine STR.kx (K := fun j => I (r + 3) (5753 * k2 + j)) (s2.of (fun b q1 q2 => rowi b (by omega) (by omega) (by omega)) (fun b hb => rowi b (by omega) (by omega) (by omega))) (fun j hj => ?_)
      unfold scrK at hj
      unfold mBack; rw [mSet_o (by omega), cpR_i (by omega) (by omega), f2r _ (by omega)]; rfl
    · exact h2.of s2.tn.1 (fun b q1 q2 => rowi b (by omega) (by omega) (by omega))
    · unfold mBack; rw [mSet_32]; rfl
    · rw [row (x + 460) (by omega) (by omega) (by omega) (by omega) (by omega)]; exact hold
    · rw [rk _ (by decide) (by decide)]; exact zn
    · rw [xk _ (by decide)]; exact xn
    · rw [row (x + 856) (by omega) (by omega) (by omega) (by omega) (by omega), row (r + 7) (by omega) (by omega) (by omega) (by omega) (by omega)]; exact hu j hj
    · rw [xk _ (by decide), rk _ (by decide) (by decide)]; exact h13
    · rw [xk _ (by decide), rk _ (by decide) (by decide)]; exact h14
    · rw [xk _ (by decide), rk _ (by decide) (by decide)]; exact h15
    · unfold mBack; rw [mSet_0, mSet_o (by omega), cpR_o (by omega), cAcc_16]
    · rw [row (x + 857) (by omega) (by omega) (by omega) (by omega) (by omega), row (r + 1) (by omega) (by omega) (by omega) (by omega) (by omega)]; exact hrf i hi
