/-! New cells; a script copied; law -/
theorem Vw.less {mi : vM} {d mc ms cr sr cr2 sr2 pc : Nat} {Q : Option Value → vS → vI → vL → Prop} {lv : List (Nat × Value)} {st : List Value} {S : vS} {I : vI} {L : vL} (h1 : cr2 ≤ cr) (h2 : sr2 ≤ sr) (k : Vw mi d mc ms cr2 sr2 Q pc lv st S I L) : Vw mi d mc ms cr sr Q pc lv st S I L := by
  intro l G p e R s m args below meth cd H locs cells slots ls hC hH hS g1 g2 hl
  exact k l G p e R s m args below meth cd H locs cells slots ls hC hH hS (by omega) (by omega) hl
/-- a new cell of kind kd at a -/
def Nw (kd len : Nat) (S S2 : vS) (I I2 : vI) : Prop := S2.2.2 = S.2.2 + 1 ∧ S2.1 S.2.2 = (kd, len) ∧ (∀ b, b < S.2.2 → S2.1 b = S.1 b ∧ S2.2.1 b = S.2.1 b) ∧ (∀ b, b ≠ S.2.2 → I2 b = I b) ∧ (∀ k, I2 S.2.2 k = 0) ∧ ∀ k, S2.2.1 S.2.2 k = none
theorem nw_of (kd len : Nat) (S : vS) (I : vI) : Nw kd len S (sNew S kd len) I (zNew I S.2.2) := by
  refine ⟨rfl, if_pos rfl, fun b hb => ⟨if_neg (by omega), if_neg (by omega)⟩, fun b hb => if_neg hb, fun k => ?_, fun k => ?_⟩
  · show (if _ then _ else _ : Nat → Int32) k = 0; rw [if_pos rfl]
  · show (if _ then _ else _ : Nat → Option Nat) k = none; rw [if_pos rfl]
section NEWQ
variable {mi : vM} {d mc ms cr sr pc n c k idx len a : Nat} {Q : Option Value → vS → vI → vL → Prop} {lv : List (Nat × Value)} {st : List Value} {S : vS} {I : vI} {L : vL} {i : Int32}
theorem Vw.newQ (hd : decode mi.2.1 pc = .ok (.new idx, 3)) (hc : c < 13) (hw : Cond.classLink mi.1.cls idx (vR c) ∈ vTs ∧ Cond.instantiable (vR c) (vN c) ∈ vTs ∧ Cond.initialized (vR c) ∈ vTs) (hn : pc + 3 = n) (kk : ∀ S2 I2 L2, Nw c 0 S S2 I I2 → Vw mi d mc ms cr sr Q n lv (.ref S.2.2 :: st) S2 I2 L2) : Vw mi d mc ms (cr + 1) (sr + vN c) Q pc lv st S I L :=
  Vw.newO hd hc hw hn (kk _ _ _ (nw_of c 0 S I))
theorem Vw.naI (hd : decode mi.2.1 pc = .ok (.newarray .int, 2)) (hi : i.toNatClampNeg = len ∧ ¬ i < 0 ∧ len ≤ 60000) (hn : pc + 2 = n) (kk : ∀ S2 I2 L2, Nw 100 len S S2 I I2 → Vw mi d mc ms cr sr Q n lv (.ref S.2.2 :: st) S2 I2 L2) : Vw mi d mc ms (cr + 1) (sr + len) Q pc lv (.int i :: st) S I L :=
  Vw.newaI hd ac_int hi hn (kk _ _ _ (nw_of 100 len S I))
theorem Vw.naZ (hd : decode mi.2.1 pc = .ok (.newarray .boolean, 2)) (hi : i.toNatClampNeg = len ∧ ¬ i < 0 ∧ len ≤ 60000) (hn : pc + 2 = n) (kk : ∀ S2 I2 L2, Nw 101 len S S2 I I2 → Vw mi d mc ms cr sr Q n lv (.ref S.2.2 :: st) S2 I2 L2) : Vw mi d mc ms (cr + 1) (sr + len) Q pc lv (.int i :: st) S I L :=
  Vw.newaZ hd ac_boolean hi hn (kk _ _ _ (nw_of 101 len S I))
theorem Vw.naB (hd : decode mi.2.1 pc = .ok (.newarray .byte, 2)) (hi : i.toNatClampNeg = len ∧ ¬ i < 0 ∧ len ≤ 60000) (hn : pc + 2 = n) (kk : ∀ S2 I2 L2, Nw 102 len S S2 I I2 → Vw mi d mc ms cr sr Q n lv (.ref S.2.2 :: st) S2 I2 L2) : Vw mi d mc ms (cr + 1) (sr + len) Q pc lv (.int i :: st) S I L :=
  Vw.newaB hd ac_byte hi hn (kk _ _ _ (nw_of 102 len S I))
theorem Vw.naJ (hd : decode mi.2.1 pc = .ok (.newarray .long, 2)) (hi : i.toNatClampNeg = len ∧ ¬ i < 0 ∧ len ≤ 60000) (hn : pc + 2 = n) (kk : ∀ S2 I2 L2, Nw 103 len S S2 I I2 → Vw mi d mc ms cr sr Q n lv (.ref S.2.2 :: st) S2 I2 L2) : Vw mi d mc ms (cr + 1) (sr + len) Q pc lv (.int i :: st) S I L :=
  Vw.newaJ hd ac_long hi hn (kk _ _ _ (nw_of 103 len S I))
theorem Vw.na0 (hd : decode mi.2.1 pc = .ok (.anewarray idx, 3)) (hw : Cond.classLink mi.1.cls idx RX0 ∈ vTs) (hi : i.toNatClampNeg = len ∧ ¬ i < 0 ∧ len ≤ 60000) (hn : pc + 3 = n) (kk : ∀ S2 I2 L2, Nw 110 len S S2 I I2 → Vw mi d mc ms cr sr Q n lv (.ref S.2.2 :: st) S2 I2 L2) : Vw mi d mc ms (cr + 1) (sr + len) Q pc lv (.int i :: st) S I L :=
  Vw.anew0 hd hw hi hn (kk _ _ _ (nw_of 110 len S I))
theorem Vw.na3 (hd : decode mi.2.1 pc = .ok (.anewarray idx, 3)) (hw : Cond.classLink mi.1.cls idx RX3 ∈ vTs) (hi : i.toNatClampNeg = len ∧ ¬ i < 0 ∧ len ≤ 60000) (hn : pc + 3 = n) (kk : ∀ S2 I2 L2, Nw 113 len S S2 I I2 → Vw mi d mc ms cr sr Q n lv (.ref S.2.2 :: st) S2 I2 L2) : Vw mi d mc ms (cr + 1) (sr + len) Q pc lv (.int i :: st) S I L :=
  Vw.anew3 hd hw hi hn (kk _ _ _ (nw_of 113 len S I))
theorem Vw.na7 (hd : decode mi.2.1 pc = .ok (.anewarray idx, 3)) (hw : Cond.classLink mi.1.cls idx RX7 ∈ vTs) (hi : i.toNatClampNeg = len ∧ ¬ i < 0 ∧ len ≤ 60000) (hn : pc + 3 = n) (kk : ∀ S2 I2 L2, Nw 117 len S S2 I I2 → Vw mi d mc ms cr sr Q n lv (.ref S.2.2 :: st) S2 I2 L2) : Vw mi d mc ms (cr + 1) (sr + len) Q pc lv (.int i :: st) S I L :=
  Vw.anew7 hd hw hi hn (kk _ _ _ (nw_of 117 len S I))
theorem Vw.na8 (hd : decode mi.2.1 pc = .ok (.anewarray idx, 3)) (hw : Cond.classLink mi.1.cls idx RX8 ∈ vTs) (hi : i.toNatClampNeg = len ∧ ¬ i < 0 ∧ len ≤ 60000) (hn : pc + 3 = n) (kk : ∀ S2 I2 L2, Nw 118 len S S2 I I2 → Vw mi d mc ms cr sr Q n lv (.ref S.2.2 :: st) S2 I2 L2) : Vw mi d mc ms (cr + 1) (sr + len) Q pc lv (.int i :: st) S I L :=
  Vw.anew8 hd hw hi hn (kk _ _ _ (nw_of 118 len S I))
theorem Vw.na9 (hd : decode mi.2.1 pc = .ok (.anewarray idx, 3)) (hw : Cond.classLink mi.1.cls idx RX9 ∈ vTs) (hi : i.toNatClampNeg = len ∧ ¬ i < 0 ∧ len ≤ 60000) (hn : pc + 3 = n) (kk : ∀ S2 I2 L2, Nw 119 len S S2 I I2 → Vw mi d mc ms cr sr Q n lv (.ref S.2.2 :: st) S2 I2 L2) : Vw mi d mc ms (cr + 1) (sr + len) Q pc lv (.int i :: st) S I L :=
  Vw.anew9 hd hw hi hn (kk _ _ _ (nw_of 119 len S I))
end NEWQ
/-- an object at a whose cells are being laid: S0 I0 before, j cells so far, fs its fields (field, place, kind, length) -/
def ObF (S0 S : vS) (I0 I : vI) (a j : Nat) (fs : List (Nat × Nat × Nat × Nat)) : Prop := S.2.2 = a + j ∧ (∀ q ∈ fs, q.2.1 < j ∧ S.2.1 a q.1 = some (a + q.2.1) ∧ S.1 (a + q.2.1) = q.2.2) ∧ S.1 a = S0.1 a ∧ (∀ b, b < a → S.1 b = S0.1 b ∧ S.2.1 b = S0.2.1 b) ∧ ∀ b, b < a → I b = I0 b
theorem ObF.start {S : vS} {I : vI} {a : Nat} (h : S.2.2 = a + 1) : ObF S S I I a 1 [] := ⟨h, fun q hq => (by cases hq), rfl, fun _ _ => ⟨rfl, rfl⟩, fun _ _ => rfl⟩
theorem ObF.kd {S0 S : vS} {I0 I : vI} {a j c : Nat} {fs : List (Nat × Nat × Nat × Nat)} (h : ObF S0 S I0 I a j fs) (g : (S0.1 a).1 = c) : (S.1 a).1 = c := by rw [h.2.2.1]; exact g
/-- a new row, stored in field k -/
theorem ObF.put {S0 S S2 : vS} {I0 I I2 : vI} {a j k kd len : Nat} {fs : List (Nat × Nat × Nat × Nat)} (h : ObF S0 S I0 I a j fs) (hj : 0 < j) (hk : (fs.map Prod.fst).all (fun y => y != k) = true) (w : Nw kd len S S2 I I2) : ObF S0 (sUp S2 a k (some S.2.2)) I0 I2 a (j + 1) ((k, j, kd, len) :: fs) := by
  obtain ⟨h1, h2, h3, h4, h5⟩ := h
  obtain ⟨w1, w2, w3, w4, w5, w6⟩ := w
  have nk : ∀ q ∈ fs, q.1 ≠ k := fun q hq e => by
    have := List.all_eq_true.mp hk q.1 (List.mem_map_of_mem hq)
    rw [e] at this
    simp at this
  refine ⟨by rw [sUp_2, w1, h1]; omega, fun q hq => ?_, by rw [sUp_1, (w3 a (by omega)).1]; exact h3, fun b hb => ⟨by rw [sUp_1, (w3 b (by omega)).1]; exact (h4 b hb).1, by rw [sUp_o (by omega), (w3 b (by omega)).2]; exact (h4 b hb).2⟩, fun b hb => by rw [w4 b (by omega)]; exact h5 b hb⟩
  rcases List.mem_cons.mp hq with rfl | hq
  · exact ⟨by show j < j + 1; omega, by show (sUp S2 a k _).2.1 a k = _; rw [sUp_s, h1], by rw [sUp_1, ← h1]; exact w2⟩
  · obtain ⟨q1, q2, q3⟩ := h2 q hq
    exact ⟨by omega, by rw [sUp_k (nk q hq), (w3 a (by omega)).2]; exact q2, by rw [sUp_1, (w3 _ (by omega)).1]; exact q3⟩
theorem ObF.at {S0 S : vS} {I0 I : vI} {a j k p : Nat} {kd : Nat × Nat} {fs : List (Nat × Nat × Nat × Nat)} (h : ObF S0 S I0 I a j fs) (hq : (k, p, kd) ∈ fs) : S.2.1 a k = some (a + p) ∧ S.1 (a + p) = kd := (h.2.1 _ hq).2
theorem al_ok {n : Nat} (h : n ≤ 60000) : (nI n).toNatClampNeg = n ∧ ¬ nI n < 0 ∧ n ≤ 60000 := ⟨nI_cl (by omega), fun q => by have := i32_lt.mp q; rw [nI_ti (by omega)] at this; exact absurd this (show ¬ (n : Int) < 0 by omega), h⟩
theorem c_X7_init {d : Nat} {S : vS} {I : vI} {L : vL} {Q : vS → vI → vL → Prop} {a n m : Nat} (hk : S.1 a = (7, 0)) (hN : S.2.2 = a + 1) (hn : n ≤ 60000) (hm : m ≤ 60000) (h : ∀ S2 I2 M, S2.2.2 = a + 8 → (∀ b, b < a → S2.1 b = S.1 b ∧ S2.2.1 b = S.2.1 b) → S2.1 a = S.1 a → ScS S2 a n m → (∀ b, b < a → I2 b = I b) → Q S2 I2 M) : Vc mX7_init (d + 1) 7 (0 + m + n + n + n + n + n + n) [.ref a, .int (nI n), .int (nI m)] S I L (VvQ Q) := by
  refine Vc.of rfl (Nat.le_of_ble_eq_true rfl) ?_
  have B := bs_X7_init
  have ha : (S.1 a).1 = 7 := by rw [hk]
  show Vw mX7_init (d + 1) 7 (0 + m + n + n + n + n + n + n) 7 (0 + m + n + n + n + n + n + n) (VvQ Q) 0 [(0, .ref a), (1, .int (nI n)), (2, .int (nI m))] [] S I L
  refine Vw.aload_n (de_aload_0 (B 0 _ rfl)) 0 rfl (n := 1) rfl ?_
  refine Vw.objInit (de_invokespecial (B 1 _ rfl) (B 2 _ rfl) (B 3 _ rfl)) ml_X7_1 oi_ok (Nat.le_of_ble_eq_true rfl) (n := 4) rfl ?_
  have ho := ObF.start (I := I) hN
  refine Vw.aload_n (de_aload_0 (B 4 _ rfl)) 0 rfl (n := 5) rfl ?_
  refine Vw.iload_n (de_iload_1 (B 5 _ rfl)) 1 rfl (n := 6) rfl ?_
  refine Vw.naI (de_newarray_int (B 6 _ rfl) (B 7 _ rfl)) (al_ok (n := n) (by omega)) (n := 8) rfl (fun S1 I1 L1 w1 => ?_)
  have hf1 : (S1.1 a).1 = 7 := by rw [(w1.2.2.1 a (by rw [ho.1]; omega)).1]; exact ho.kd ha
  refine Vw.putR (de_putfield (B 8 _ rfl) (B 9 _ rfl) (B 10 _ rfl)) fl_X7_7 hf1 rfl (Or.inr ⟨rfl, rfl, rfl⟩) (n := 11) rfl ?_
  have ho := ho.put (k := 1) (by decide) rfl w1
  refine Vw.aload_n (de_aload_0 (B 11 _ rfl)) 0 rfl (n := 12) rfl ?_
  refine Vw.iload_n (de_iload_1 (B 12 _ rfl)) 1 rfl (n := 13) rfl ?_
  refine Vw.naI (de_newarray_int (B 13 _ rfl) (B 14 _ rfl)) (al_ok (n := n) (by omega)) (n := 15) rfl (fun S2 I2 L2 w2 => ?_)
  have hf2 : (S2.1 a).1 = 7 := by rw [(w2.2.2.1 a (by rw [ho.1]; omega)).1]; exact ho.kd ha
  refine Vw.putR (de_putfield (B 15 _ rfl) (B 16 _ rfl) (B 17 _ rfl)) fl_X7_13 hf2 rfl (Or.inr ⟨rfl, rfl, rfl⟩) (n := 18) rfl ?_
  have ho := ho.put (k := 2) (by decide) rfl w2
  refine Vw.aload_n (de_aload_0 (B 18 _ rfl)) 0 rfl (n := 19) rfl ?_
  refine Vw.iload_n (de_iload_1 (B 19 _ rfl)) 1 rfl (n := 20) rfl ?_
  refine Vw.naI (de_newarray_int (B 20 _ rfl) (B 21 _ rfl)) (al_ok (n := n) (by omega)) (n := 22) rfl (fun S3 I3 L3 w3 => ?_)
  have hf3 : (S3.1 a).1 = 7 := by rw [(w3.2.2.1 a (by rw [ho.1]; omega)).1]; exact ho.kd ha
  refine Vw.putR (de_putfield (B 22 _ rfl) (B 23 _ rfl) (B 24 _ rfl)) fl_X7_16 hf3 rfl (Or.inr ⟨rfl, rfl, rfl⟩) (n := 25) rfl ?_
  have ho := ho.put (k := 3) (by decide) rfl w3
  refine Vw.aload_n (de_aload_0 (B 25 _ rfl)) 0 rfl (n := 26) rfl ?_
  refine Vw.iload_n (de_iload_1 (B 26 _ rfl)) 1 rfl (n := 27) rfl ?_
  refine Vw.naI (de_newarray_int (B 27 _ rfl) (B 28 _ rfl)) (al_ok (n := n) (by omega)) (n := 29) rfl (fun S4 I4 L4 w4 => ?_)
  have hf4 : (S4.1 a).1 = 7 := by rw [(w4.2.2.1 a (by rw [ho.1]; omega)).1]; exact ho.kd ha
  refine Vw.putR (de_putfield (B 29 _ rfl) (B 30 _ rfl) (B 31 _ rfl)) fl_X7_19 hf4 rfl (Or.inr ⟨rfl, rfl, rfl⟩) (n := 32) rfl ?_
  have ho := ho.put (k := 4) (by decide) rfl w4
  refine Vw.aload_n (de_aload_0 (B 32 _ rfl)) 0 rfl (n := 33) rfl ?_
  refine Vw.iload_n (de_iload_1 (B 33 _ rfl)) 1 rfl (n := 34) rfl ?_
  refine Vw.naI (de_newarray_int (B 34 _ rfl) (B 35 _ rfl)) (al_ok (n := n) (by omega)) (n := 36) rfl (fun S5 I5 L5 w5 => ?_)
  have hf5 : (S5.1 a).1 = 7 := by rw [(w5.2.2.1 a (by rw [ho.1]; omega)).1]; exact ho.kd ha
  refine Vw.putR (de_putfield (B 36 _ rfl) (B 37 _ rfl) (B 38 _ rfl)) fl_X7_22 hf5 rfl (Or.inr ⟨rfl, rfl, rfl⟩) (n := 39) rfl ?_
  have ho := ho.put (k := 5) (by decide) rfl w5
  refine Vw.aload_n (de_aload_0 (B 39 _ rfl)) 0 rfl (n := 40) rfl ?_
  refine Vw.iload_n (de_iload_1 (B 40 _ rfl)) 1 rfl (n := 41) rfl ?_
  refine Vw.naI (de_newarray_int (B 41 _ rfl) (B 42 _ rfl)) (al_ok (n := n) (by omega)) (n := 43) rfl (fun S6 I6 L6 w6 => ?_)
  have hf6 : (S6.1 a).1 = 7 := by rw [(w6.2.2.1 a (by rw [ho.1]; omega)).1]; exact ho.kd ha
  refine Vw.putR (de_putfield (B 43 _ rfl) (B 44 _ rfl) (B 45 _ rfl)) fl_X7_25 hf6 rfl (Or.inr ⟨rfl, rfl, rfl⟩) (n := 46) rfl ?_
  have ho := ho.put (k := 6) (by decide) rfl w6
  refine Vw.aload_n (de_aload_0 (B 46 _ rfl)) 0 rfl (n := 47) rfl ?_
  refine Vw.iload_n (de_iload_2 (B 47 _ rfl)) 2 rfl (n := 48) rfl ?_
  refine Vw.naI (de_newarray_int (B 48 _ rfl) (B 49 _ rfl)) (al_ok (n := m) (by omega)) (n := 50) rfl (fun S7 I7 L7 w7 => ?_)
  have hf7 : (S7.1 a).1 = 7 := by rw [(w7.2.2.1 a (by rw [ho.1]; omega)).1]; exact ho.kd ha
  refine Vw.putR (de_putfield (B 50 _ rfl) (B 51 _ rfl) (B 52 _ rfl)) fl_X7_28 hf7 rfl (Or.inr ⟨rfl, rfl, rfl⟩) (n := 53) rfl ?_
  have ho := ho.put (k := 7) (by decide) rfl w7
  exact Vw.vret (de_return_ (B 53 _ rfl)) rfl ⟨rfl, h _ _ _ ho.1 ho.2.2.2.1 (by rw [ho.2.2.1]) ⟨by rw [ho.2.2.1]; exact hk, (ho.at (k := 1) (p := 1) (kd := (100, n)) (by simp)).1, (ho.at (k := 1) (p := 1) (kd := (100, n)) (by simp)).2, (ho.at (k := 2) (p := 2) (kd := (100, n)) (by simp)).1, (ho.at (k := 2) (p := 2) (kd := (100, n)) (by simp)).2, (ho.at (k := 3) (p := 3) (kd := (100, n)) (by simp)).1, (ho.at (k := 3) (p := 3) (kd := (100, n)) (by simp)).2, (ho.at (k := 4) (p := 4) (kd := (100, n)) (by simp)).1, (ho.at (k := 4) (p := 4) (kd := (100, n)) (by simp)).2, (ho.at (k := 5) (p := 5) (kd := (100, n)) (by simp)).1, (ho.at (k := 5) (p := 5) (kd := (100, n)) (by simp)).2, (ho.at (k := 6) (p := 6) (kd := (100, n)) (by simp)).1, (ho.at (k := 6) (p := 6) (kd := (100, n)) (by simp)).2, (ho.at (k := 7) (p := 7) (kd := (100, m)) (by simp)).1, (ho.at (k := 7) (p := 7) (kd := (100, m)) (by simp)).2⟩ ho.2.2.2.2⟩
theorem c_X7_copied {d : Nat} {S : vS} {I : vI} {L : vL} {Q : Option Nat → vS → vI → vL → Prop} {g n m : Nat} (hA : ScS S g 12 400) (hn : I g 0 = nI n) (h1 : 1 ≤ n) (h12 : n ≤ 12) (hm : I (g + 6) (n - 1) = nI m) (hm4 : m ≤ 400) (hg : g + 8 ≤ S.2.2) (h : ∀ S2 I2 M, S2.2.2 = S.2.2 + 8 → (∀ b, b < S.2.2 → S2.1 b = S.1 b ∧ S2.2.1 b = S.2.1 b) → ScS S2 S.2.2 n m → (∀ b, b < S.2.2 → I2 b = I b) → I2 S.2.2 0 = nI n → (∀ k i, 1 ≤ k → k ≤ 6 → i < n → I2 (S.2.2 + k) i = I (g + k) i) → (∀ i, i < m → I2 (S.2.2 + 7) i = I (g + 7) i) → Q (some S.2.2) S2 I2 M) : Vc mX7_copied (d + 3) (0 + 7 + 1) (0 + (0 + m + n + n + n + n + n + n) + 8) [.ref g] S I L (VrQ Q) := by
  refine Vc.of rfl (Nat.le_of_ble_eq_true rfl) ?_
  have B := bs_X7_copied
  show Vw mX7_copied (d + 3) (0 + 7 + 1) (0 + (0 + m + n + n + n + n + n + n) + 8) (0 + 7 + 1) (0 + (0 + m + n + n + n + n + n + n) + 8) (VrQ Q) 0 [(0, .ref g)] [] S I L
  refine Vw.aload_n (de_aload_0 (B 0 _ rfl)) 0 rfl (n := 1) rfl ?_
  refine Vw.getI (de_getfield (B 1 _ rfl) (B 2 _ rfl) (B 3 _ rfl)) fl_X7_31 rfl hA.k (n := 4) rfl ?_
  rw [hn]
  refine Vw.if_ne (tgt := 11) (n := 7) (de_if_ne (B 4 _ rfl) (B 5 _ rfl) (B 6 _ rfl)) rfl rfl (fun c_4 => ?_) (fun c_4 => ?_)
  · refine Vw.aload_n (de_aload_0 (B 11 _ rfl)) 0 rfl (n := 12) rfl ?_
    refine Vw.getR (de_getfield (B 12 _ rfl) (B 13 _ rfl) (B 14 _ rfl)) fl_X7_25 rfl hA.k hA.f6 (n := 15) rfl ?_
    refine Vw.aload_n (de_aload_0 (B 15 _ rfl)) 0 rfl (n := 16) rfl ?_
    refine Vw.getI (de_getfield (B 16 _ rfl) (B 17 _ rfl) (B 18 _ rfl)) fl_X7_31 rfl hA.k (n := 19) rfl ?_
    refine Vw.iconst (v := 1) (de_iconst_1 (B 19 _ rfl)) rfl (n := 20) rfl ?_
    rw [hn]
    refine Vw.isub (de_isub (B 20 _ rfl)) (n := 21) rfl ?_
    rw [show nI n - 1 = nI (n - 1) from nI_sub (b := 1) (by omega) (by omega)]
    refine Vw.iald (de_iaload (B 21 _ rfl)) hA.r6 (vIx_n (k := n - 1) rfl (by omega)) (n := 22) rfl ?_
    rw [hm]
    refine Vw.istore_n (lv2 := [(0, _), (1, _)]) (de_istore_1 (B 22 _ rfl)) rfl (by decide) [1, 0] rfl (n := 23) rfl ?_
    refine Vw.newQ (c := 7) (de_new (B 23 _ rfl) (B 24 _ rfl) (B 25 _ rfl)) (by decide) cl_X7_8 (n := 26) rfl (fun S1 I1 L1 w1 => ?_)
    obtain ⟨w11, w12, w13, w14, -, -⟩ := w1
    have hA0 := hA
    have hA : ScS S1 g 12 400 := hA0.rg (fun b g1 g2 => w13 b (by omega))
    refine Vw.dup (de_dup (B 26 _ rfl)) rfl (n := 27) rfl ?_
    refine Vw.aload_n (de_aload_0 (B 27 _ rfl)) 0 rfl (n := 28) rfl ?_
    refine Vw.getI (de_getfield (B 28 _ rfl) (B 29 _ rfl) (B 30 _ rfl)) fl_X7_31 rfl hA.k (n := 31) rfl ?_
    refine Vw.iload_n (de_iload_1 (B 31 _ rfl)) 1 rfl (n := 32) rfl ?_
    rw [show I1 g 0 = nI n from by rw [w14 g (by omega)]; exact hn]
    refine Vw.iiv2 (mi' := mX7_init) (cr := 0) (sr := 0) (mc' := 7) (ms' := (0 + m + n + n + n + n + n + n)) (st := [.ref S.2.2]) (de_invokespecial (B 32 _ rfl) (B 33 _ rfl) (B 34 _ rfl)) (Or.inl ml_X7_35) mi_X7_init (Nat.le_of_ble_eq_true rfl) (n := 35) rfl (c_X7_init (d := d + 1) (n := n) (m := m) w12 w11 (by omega) (by omega) (fun S2 I2 M s1 s2 s3 hB f2 => ?_))
    obtain ⟨a, ea⟩ : ∃ a, a = S.2.2 := ⟨_, rfl⟩
    rw [← ea] at hB s1 s2 s3 f2 w14 w13 w11 w12 h ⊢
    have hA : ScS S2 g 12 400 := hA.rg (fun b g1 g2 => s2 b (by omega))
    have g0 : I2 g 0 = nI n := by rw [f2 g (by omega), w14 g (by omega)]; exact hn
    have row : ∀ b, b < a → I2 b = I b := fun b hb => by rw [f2 b hb, w14 b (by omega)]
    refine Vw.astore_n (lv2 := [(0, _), (1, _), (2, _)]) (de_astore_2 (B 35 _ rfl)) rfl (by decide) [1, 2, 0] rfl (n := 36) rfl ?_
    refine Vw.aload_n (de_aload_2 (B 36 _ rfl)) 2 rfl (n := 37) rfl ?_
    refine Vw.aload_n (de_aload_0 (B 37 _ rfl)) 0 rfl (n := 38) rfl ?_
    refine Vw.getI (de_getfield (B 38 _ rfl) (B 39 _ rfl) (B 40 _ rfl)) fl_X7_31 rfl hA.k (n := 41) rfl ?_
    rw [g0]
    refine Vw.putI (de_putfield (B 41 _ rfl) (B 42 _ rfl) (B 43 _ rfl)) fl_X7_31 hB.k rfl rfl (n := 44) rfl ?_
    refine Vw.aload_n (de_aload_0 (B 44 _ rfl)) 0 rfl (n := 45) rfl ?_
    refine Vw.getR (de_getfield (B 45 _ rfl) (B 46 _ rfl) (B 47 _ rfl)) fl_X7_7 rfl hA.k hA.f1 (n := 48) rfl ?_
    refine Vw.iconst (v := 0) (de_iconst_0 (B 48 _ rfl)) rfl (n := 49) rfl ?_
    refine Vw.aload_n (de_aload_2 (B 49 _ rfl)) 2 rfl (n := 50) rfl ?_
    refine Vw.getR (de_getfield (B 50 _ rfl) (B 51 _ rfl) (B 52 _ rfl)) fl_X7_7 rfl hB.k hB.f1 (n := 53) rfl ?_
    refine Vw.iconst (v := 0) (de_iconst_0 (B 53 _ rfl)) rfl (n := 54) rfl ?_
    refine Vw.aload_n (de_aload_0 (B 54 _ rfl)) 0 rfl (n := 55) rfl ?_
    refine Vw.getI (de_getfield (B 55 _ rfl) (B 56 _ rfl) (B 57 _ rfl)) fl_X7_31 rfl hA.k (n := 58) rfl ?_
    rw [up2_a (show g ≠ a by omega), g0]
    refine Vw.copyI (de_invokestatic (B 58 _ rfl) (B 59 _ rfl) (B 60 _ rfl)) ml_X7_38 hA.r1 hB.r1 (sj := 0) (dj := 0) (nj := n) rfl rfl rfl (by omega) (by omega) (by decide) (by omega) (n := 61) rfl ?_
    refine Vw.aload_n (de_aload_0 (B 61 _ rfl)) 0 rfl (n := 62) rfl ?_
    refine Vw.getR (de_getfield (B 62 _ rfl) (B 63 _ rfl) (B 64 _ rfl)) fl_X7_13 rfl hA.k hA.f2 (n := 65) rfl ?_
    refine Vw.iconst (v := 0) (de_iconst_0 (B 65 _ rfl)) rfl (n := 66) rfl ?_
    refine Vw.aload_n (de_aload_2 (B 66 _ rfl)) 2 rfl (n := 67) rfl ?_
    refine Vw.getR (de_getfield (B 67 _ rfl) (B 68 _ rfl) (B 69 _ rfl)) fl_X7_13 rfl hB.k hB.f2 (n := 70) rfl ?_
    refine Vw.iconst (v := 0) (de_iconst_0 (B 70 _ rfl)) rfl (n := 71) rfl ?_
    refine Vw.aload_n (de_aload_0 (B 71 _ rfl)) 0 rfl (n := 72) rfl ?_
    refine Vw.getI (de_getfield (B 72 _ rfl) (B 73 _ rfl) (B 74 _ rfl)) fl_X7_31 rfl hA.k (n := 75) rfl ?_
    rw [cpR_o (show g ≠ _ by omega), up2_a (show g ≠ a by omega), g0]
    refine Vw.copyI (de_invokestatic (B 75 _ rfl) (B 76 _ rfl) (B 77 _ rfl)) ml_X7_38 hA.r2 hB.r2 (sj := 0) (dj := 0) (nj := n) rfl rfl rfl (by omega) (by omega) (by decide) (by omega) (n := 78) rfl ?_
    refine Vw.aload_n (de_aload_0 (B 78 _ rfl)) 0 rfl (n := 79) rfl ?_
    refine Vw.getR (de_getfield (B 79 _ rfl) (B 80 _ rfl) (B 81 _ rfl)) fl_X7_16 rfl hA.k hA.f3 (n := 82) rfl ?_
    refine Vw.iconst (v := 0) (de_iconst_0 (B 82 _ rfl)) rfl (n := 83) rfl ?_
    refine Vw.aload_n (de_aload_2 (B 83 _ rfl)) 2 rfl (n := 84) rfl ?_
    refine Vw.getR (de_getfield (B 84 _ rfl) (B 85 _ rfl) (B 86 _ rfl)) fl_X7_16 rfl hB.k hB.f3 (n := 87) rfl ?_
    refine Vw.iconst (v := 0) (de_iconst_0 (B 87 _ rfl)) rfl (n := 88) rfl ?_
    refine Vw.aload_n (de_aload_0 (B 88 _ rfl)) 0 rfl (n := 89) rfl ?_
    refine Vw.getI (de_getfield (B 89 _ rfl) (B 90 _ rfl) (B 91 _ rfl)) fl_X7_31 rfl hA.k (n := 92) rfl ?_
    rw [cpR_o (show g ≠ _ by omega), cpR_o (show g ≠ _ by omega), up2_a (show g ≠ a by omega), g0]
    refine Vw.copyI (de_invokestatic (B 92 _ rfl) (B 93 _ rfl) (B 94 _ rfl)) ml_X7_38 hA.r3 hB.r3 (sj := 0) (dj := 0) (nj := n) rfl rfl rfl (by omega) (by omega) (by decide) (by omega) (n := 95) rfl ?_
    refine Vw.aload_n (de_aload_0 (B 95 _ rfl)) 0 rfl (n := 96) rfl ?_
    refine Vw.getR (de_getfield (B 96 _ rfl) (B 97 _ rfl) (B 98 _ rfl)) fl_X7_19 rfl hA.k hA.f4 (n := 99) rfl ?_
    refine Vw.iconst (v := 0) (de_iconst_0 (B 99 _ rfl)) rfl (n := 100) rfl ?_
    refine Vw.aload_n (de_aload_2 (B 100 _ rfl)) 2 rfl (n := 101) rfl ?_
    refine Vw.getR (de_getfield (B 101 _ rfl) (B 102 _ rfl) (B 103 _ rfl)) fl_X7_19 rfl hB.k hB.f4 (n := 104) rfl ?_
    refine Vw.iconst (v := 0) (de_iconst_0 (B 104 _ rfl)) rfl (n := 105) rfl ?_
    refine Vw.aload_n (de_aload_0 (B 105 _ rfl)) 0 rfl (n := 106) rfl ?_
    refine Vw.getI (de_getfield (B 106 _ rfl) (B 107 _ rfl) (B 108 _ rfl)) fl_X7_31 rfl hA.k (n := 109) rfl ?_
    rw [cpR_o (show g ≠ _ by omega), cpR_o (show g ≠ _ by omega), cpR_o (show g ≠ _ by omega), up2_a (show g ≠ a by omega), g0]
    refine Vw.copyI (de_invokestatic (B 109 _ rfl) (B 110 _ rfl) (B 111 _ rfl)) ml_X7_38 hA.r4 hB.r4 (sj := 0) (dj := 0) (nj := n) rfl rfl rfl (by omega) (by omega) (by decide) (by omega) (n := 112) rfl ?_
    refine Vw.aload_n (de_aload_0 (B 112 _ rfl)) 0 rfl (n := 113) rfl ?_
    refine Vw.getR (de_getfield (B 113 _ rfl) (B 114 _ rfl) (B 115 _ rfl)) fl_X7_22 rfl hA.k hA.f5 (n := 116) rfl ?_
    refine Vw.iconst (v := 0) (de_iconst_0 (B 116 _ rfl)) rfl (n := 117) rfl ?_
    refine Vw.aload_n (de_aload_2 (B 117 _ rfl)) 2 rfl (n := 118) rfl ?_
    refine Vw.getR (de_getfield (B 118 _ rfl) (B 119 _ rfl) (B 120 _ rfl)) fl_X7_22 rfl hB.k hB.f5 (n := 121) rfl ?_
    refine Vw.iconst (v := 0) (de_iconst_0 (B 121 _ rfl)) rfl (n := 122) rfl ?_
    refine Vw.aload_n (de_aload_0 (B 122 _ rfl)) 0 rfl (n := 123) rfl ?_
    refine Vw.getI (de_getfield (B 123 _ rfl) (B 124 _ rfl) (B 125 _ rfl)) fl_X7_31 rfl hA.k (n := 126) rfl ?_
    rw [cpR_o (show g ≠ _ by omega), cpR_o (show g ≠ _ by omega), cpR_o (show g ≠ _ by omega), cpR_o (show g ≠ _ by omega), up2_a (show g ≠ a by omega), g0]
    refine Vw.copyI (de_invokestatic (B 126 _ rfl) (B 127 _ rfl) (B 128 _ rfl)) ml_X7_38 hA.r5 hB.r5 (sj := 0) (dj := 0) (nj := n) rfl rfl rfl (by omega) (by omega) (by decide) (by omega) (n := 129) rfl ?_
    refine Vw.aload_n (de_aload_0 (B 129 _ rfl)) 0 rfl (n := 130) rfl ?_
    refine Vw.getR (de_getfield (B 130 _ rfl) (B 131 _ rfl) (B 132 _ rfl)) fl_X7_25 rfl hA.k hA.f6 (n := 133) rfl ?_
    refine Vw.iconst (v := 0) (de_iconst_0 (B 133 _ rfl)) rfl (n := 134) rfl ?_
    refine Vw.aload_n (de_aload_2 (B 134 _ rfl)) 2 rfl (n := 135) rfl ?_
    refine Vw.getR (de_getfield (B 135 _ rfl) (B 136 _ rfl) (B 137 _ rfl)) fl_X7_25 rfl hB.k hB.f6 (n := 138) rfl ?_
    refine Vw.iconst (v := 0) (de_iconst_0 (B 138 _ rfl)) rfl (n := 139) rfl ?_
    refine Vw.aload_n (de_aload_0 (B 139 _ rfl)) 0 rfl (n := 140) rfl ?_
    refine Vw.getI (de_getfield (B 140 _ rfl) (B 141 _ rfl) (B 142 _ rfl)) fl_X7_31 rfl hA.k (n := 143) rfl ?_
    rw [cpR_o (show g ≠ _ by omega), cpR_o (show g ≠ _ by omega), cpR_o (show g ≠ _ by omega), cpR_o (show g ≠ _ by omega), cpR_o (show g ≠ _ by omega), up2_a (show g ≠ a by omega), g0]
    refine Vw.copyI (de_invokestatic (B 143 _ rfl) (B 144 _ rfl) (B 145 _ rfl)) ml_X7_38 hA.r6 hB.r6 (sj := 0) (dj := 0) (nj := n) rfl rfl rfl (by omega) (by omega) (by decide) (by omega) (n := 146) rfl ?_
    refine Vw.aload_n (de_aload_0 (B 146 _ rfl)) 0 rfl (n := 147) rfl ?_
    refine Vw.getR (de_getfield (B 147 _ rfl) (B 148 _ rfl) (B 149 _ rfl)) fl_X7_28 rfl hA.k hA.f7 (n := 150) rfl ?_
    refine Vw.iconst (v := 0) (de_iconst_0 (B 150 _ rfl)) rfl (n := 151) rfl ?_
    refine Vw.aload_n (de_aload_2 (B 151 _ rfl)) 2 rfl (n := 152) rfl ?_
    refine Vw.getR (de_getfield (B 152 _ rfl) (B 153 _ rfl) (B 154 _ rfl)) fl_X7_28 rfl hB.k hB.f7 (n := 155) rfl ?_
    refine Vw.iconst (v := 0) (de_iconst_0 (B 155 _ rfl)) rfl (n := 156) rfl ?_
    refine Vw.iload_n (de_iload_1 (B 156 _ rfl)) 1 rfl (n := 157) rfl ?_
    refine Vw.copyI (de_invokestatic (B 157 _ rfl) (B 158 _ rfl) (B 159 _ rfl)) ml_X7_38 hA.r7 hB.r7 (sj := 0) (dj := 0) (nj := m) rfl rfl rfl (by omega) (by omega) (by decide) (by omega) (n := 160) rfl ?_
    refine Vw.aload_n (de_aload_2 (B 160 _ rfl)) 2 rfl (n := 161) rfl ?_
    refine Vw.aret (x := some a) (de_areturn (B 161 _ rfl)) rfl (Or.inl ⟨_, rfl⟩) ⟨_, rfl, h S2 _ _ s1 (fun b hb => ⟨(s2 b hb).1.trans (w13 b hb).1, (s2 b hb).2.trans (w13 b hb).2⟩) hB (fun b hb => funext fun q => ?_) ?_ (fun k i k1 k2 hi => ?_) (fun i hi => ?_)⟩
    · rw [cpR_o (by omega), cpR_o (by omega), cpR_o (by omega), cpR_o (by omega), cpR_o (by omega), cpR_o (by omega), cpR_o (by omega), up2_a (by omega), row b hb]
    · rw [cpR_o (by omega), cpR_o (by omega), cpR_o (by omega), cpR_o (by omega), cpR_o (by omega), cpR_o (by omega), cpR_o (by omega), up2_s]
    · rcases (show k = 1 ∨ k = 2 ∨ k = 3 ∨ k = 4 ∨ k = 5 ∨ k = 6 by omega) with rfl | rfl | rfl | rfl | rfl | rfl
      · rw [cpR_o (by omega), cpR_o (by omega), cpR_o (by omega), cpR_o (by omega), cpR_o (by omega), cpR_o (by omega), cpR_i (by omega) (by omega), up2_a (by omega), row (g + 1) (by omega)]; congr 1; omega
      · rw [cpR_o (by omega), cpR_o (by omega), cpR_o (by omega), cpR_o (by omega), cpR_o (by omega), cpR_i (by omega) (by omega), cpR_o (by omega), up2_a (by omega), row (g + 2) (by omega)]; congr 1; omega
      · rw [cpR_o (by omega), cpR_o (by omega), cpR_o (by omega), cpR_o (by omega), cpR_i (by omega) (by omega), cpR_o (by omega), cpR_o (by omega), up2_a (by omega), row (g + 3) (by omega)]; congr 1; omega
      · rw [cpR_o (by omega), cpR_o (by omega), cpR_o (by omega), cpR_i (by omega) (by omega), cpR_o (by omega), cpR_o (by omega), cpR_o (by omega), up2_a (by omega), row (g + 4) (by omega)]; congr 1; omega
      · rw [cpR_o (by omega), cpR_o (by omega), cpR_i (by omega) (by omega), cpR_o (by omega), cpR_o (by omega), cpR_o (by omega), cpR_o (by omega), up2_a (by omega), row (g + 5) (by omega)]; congr 1; omega
      · rw [cpR_o (by omega), cpR_i (by omega) (by omega), cpR_o (by omega), cpR_o (by omega), cpR_o (by omega), cpR_o (by omega), cpR_o (by omega), up2_a (by omega), row (g + 6) (by omega)]; congr 1; omega
    · rw [cpR_i (by omega) (by omega), cpR_o (by omega), cpR_o (by omega), cpR_o (by omega), cpR_o (by omega), cpR_o (by omega), cpR_o (by omega), up2_a (by omega), row (g + 7) (by omega)]; congr 1; omega
  exact absurd (nI_inj (a := n) (b := 0) (by omega) (by decide) c_4) (by omega)
theorem c_X8_addLaw {d : Nat} {S : vS} {I : vI} {L : vL} {Q : Int32 → vS → vI → vL → Prop} {s a nl : Nat} (hS : StateS S s) (h2 : I s 2 = nI nl) (hl : nl < 6) (ha : (S.1 a).1 = 7) (h : Q (nI nl) (sUp S (s + 24) nl (some a)) (up2 I s 2 (nI (nl + 1))) L) : Vc mX8_addLaw d 0 0 [.ref s, .ref a] S I L (ViQ Q) := by
  refine Vc.of rfl (Nat.le_of_ble_eq_true rfl) ?_
  have B := bs_X8_addLaw
  show Vw mX8_addLaw d 0 0 0 0 (ViQ Q) 0 [(0, .ref s), (1, .ref a)] [] S I L
  refine Vw.aload_n (de_aload_0 (B 0 _ rfl)) 0 rfl (n := 1) rfl ?_
  refine Vw.getI (de_getfield (B 1 _ rfl) (B 2 _ rfl) (B 3 _ rfl)) fl_X8_45 rfl hS.k (n := 4) rfl ?_
  rw [h2]
  refine Vw.istore_n (lv2 := [(0, _), (1, _), (2, _)]) (de_istore_2 (B 4 _ rfl)) rfl (by decide) [1, 2, 0] rfl (n := 5) rfl ?_
  refine Vw.aload_n (de_aload_0 (B 5 _ rfl)) 0 rfl (n := 6) rfl ?_
  refine Vw.getR (de_getfield (B 6 _ rfl) (B 7 _ rfl) (B 8 _ rfl)) fl_X8_20 rfl hS.k hS.f1 (n := 9) rfl ?_
  refine Vw.iload_n (de_iload_2 (B 9 _ rfl)) 2 rfl (n := 10) rfl ?_
  refine Vw.aload_n (de_aload_1 (B 10 _ rfl)) 1 rfl (n := 11) rfl ?_
  refine Vw.aast7 (de_aastore (B 11 _ rfl)) hS.r1 (vIx_n (k := nl) rfl (by omega)) ha (n := 12) rfl ?_
  have hS := hS.of (S2 := sUp S (s + 24) nl (some a)) (fun b _ _ => ⟨rfl, fun q => sUp_o q⟩)
  refine Vw.aload_n (de_aload_0 (B 12 _ rfl)) 0 rfl (n := 13) rfl ?_
  refine Vw.dup (de_dup (B 13 _ rfl)) rfl (n := 14) rfl ?_
  refine Vw.getI (de_getfield (B 14 _ rfl) (B 15 _ rfl) (B 16 _ rfl)) fl_X8_45 rfl hS.k (n := 17) rfl ?_
  rw [h2]
  refine Vw.iconst (v := 1) (de_iconst_1 (B 17 _ rfl)) rfl (n := 18) rfl ?_
  refine Vw.iadd (de_iadd (B 18 _ rfl)) (n := 19) rfl ?_
  rw [nI_1]
  refine Vw.putI (de_putfield (B 19 _ rfl) (B 20 _ rfl) (B 21 _ rfl)) fl_X8_45 hS.k rfl rfl (n := 22) rfl ?_
  refine Vw.iload_n (de_iload_2 (B 22 _ rfl)) 2 rfl (n := 23) rfl ?_
  exact Vw.iret (de_ireturn (B 23 _ rfl)) rfl ⟨_, rfl, h⟩
theorem ScR.copy {I J : vI} {g a m kl : Nat} {cs : List tC} {vb : Int32 → Int32} {nb : Int32} {dN : tD} (h : ScR I g cs vb kl m nb dN) (h0 : J a 0 = nI cs.length) (e : ∀ k i, 1 ≤ k → k ≤ 6 → i < cs.length → J (a + k) i = I (g + k) i) (e7 : ∀ i, i < m → J (a + 7) i = I (g + 7) i) : ScR J a cs vb kl m nb dN := by
  obtain ⟨h1, h2, h3, cw, h4, h5⟩ := h
  refine ⟨h0, h2, h3, cw, fun i hi => by rw [e7 i hi]; exact h4 i hi, fun i c hc => ?_⟩
  have hi : i < cs.length := (List.getElem?_eq_some_iff.mp hc).1
  obtain ⟨q1, st, fe, se, te, q2, q3, q4, q5, q6, q7, q8, q9, q10, q11⟩ := h5 i c hc
  exact ⟨(e 1 i (by omega) (by omega) hi).trans q1, st, fe, se, te, (e 3 i (by omega) (by omega) hi).trans q2, (e 4 i (by omega) (by omega) hi).trans q3, (e 5 i (by omega) (by omega) hi).trans q4, (e 6 i (by omega) (by omega) hi).trans q5, q6, q7, q8, q9, (e 2 i (by omega) (by omega) hi).trans q10, q11⟩
theorem k_readText2 {d : Nat} {S : vS} {I : vI} {L : vL} {Q : Int32 → vS → vI → vL → Prop} {s tp n : Nat} {u cd vl : Nat → Int32} {o : Bool} (hR : ReadS S (s + 74)) (htk : S.1 tp = (100, 400)) (htp : s + 87 ≤ tp) (hst : ∀ k, k < 11 → ∃ z, TxS S k z) (hu : ∀ x, x < 400 → I tp x = u x &&& 255 ∧ bt (u x)) (hn : n ≤ 400)
    (hcd : ∀ i a e, (tkL u n 401 0)[i]? = some (a, e) → cd i = tCd u a e ∧ vl i = tVl u a e) (hc0 : cd (tkL u n 401 0).length = 0)
    (h1 : ∀ cs c I2, pText cd vl o (tkL u n 401 0).length = .ok cs → FrT s I I2 → ScR I2 (s + 75) cs (vbX o) (klO o) c (nbX o) (dNX o) → I2 (s + 74) 11 = -1 → 1 ≤ cs.length → I2 (s + 81) (cs.length - 1) = nI c → Q 1 (sUp S (s + 74) 5 (some tp)) I2 L)
    (h0 : ∀ e I2, pText cd vl o (tkL u n 401 0).length = .error e → e ≤ (tkL u n 401 0).length → FrT s I I2 → I2 (s + 74) 11 = nI (plcT (tkL u n 401 0) n e) → Q 0 (sUp S (s + 74) 5 (some tp)) I2 L) : Vc mX5_readText (d + 47) 0 0 [.ref (s + 74), .ref tp, .int (nI n), .int (bI o)] S I L (ViQ Q) := by
  refine Vc.of rfl (Nat.le_of_ble_eq_true rfl) ?_
  have B := bs_X5_readText
  show Vw mX5_readText (d + 47) 0 0 0 0 (ViQ Q) 0 [(0, .ref (s + 74)), (1, .ref tp), (2, .int (nI n)), (3, .int (bI o))] [] S I L
  have hR2 : ReadS (sUp S (s + 74) 5 (some tp)) (s + 74) := hR.sup
  have ht2 : (sUp S (s + 74) 5 (some tp)).2.1 (s + 74) 5 = some tp := up2_s _ _ _ _
  have hlen : (tkL u n 401 0).length ≤ n := by have := tkL_len (u := u) (n := n) (f := 401) (k := 0); omega
  have loop : ∀ k, k ≤ 12 → ∀ J i l c w acc, RX (sUp S (s + 74) 5 (some tp)) J s tp u cd vl (tkL u n 401 0).length o → FrT s I J → (∀ e, e ≤ (tkL u n 401 0).length → J (s + 84) e = nI (plcT (tkL u n 401 0) n e)) → i ≤ (tkL u n 401 0).length → l ≤ 50 → c ≤ i → acc.length = k → J (s + 75) 0 = nI k → DQ o J w s c acc → (k < 12 → pText cd vl o (tkL u n 401 0).length = (match pOne cd vl o i l with
      | .error e => .error e
      | .ok (j, l2, cl) => pRest cd vl o (tkL u n 401 0).length (11 - k) j l2 (acc ++ [cl]))) → (k = 12 → pText cd vl o (tkL u n 401 0).length = .error i) → Vw mX5_readText (d + 47) 0 0 0 0 (ViQ Q) 46 [(0, .ref (s + 74)), (1, .ref tp), (2, .int (nI n)), (3, .int (bI o)), (4, .int (nI k))] [] (sUp S (s + 74) 5 (some tp)) (rm J s (nI i) (nI l) (nI c) (-1) w) L := by
    refine loop_up (fun k hk ih => ?_)
    intro J i l c w acc hx frJ hpl hi hl hci hacc h75 hD eP eP12
    have h4 := hx.n4
    refine Vw.iload (de_iload (B 46 _ rfl) (B 47 _ rfl)) 4 rfl (n := 48) rfl ?_
    refine Vw.bipush (v := 12) (de_bipush (B 48 _ rfl) (B 49 _ rfl)) rfl (n := 50) rfl ?_
    refine Vw.icmp_ge (tgt := 111) (n := 53) (de_icmp_ge (B 50 _ rfl) (B 51 _ rfl) (B 52 _ rfl)) rfl rfl (fun c_50 => ?_) (fun c_50 => ?_)
    · have z_50 : k = 12 := by have := (nI_leI (a := 12) (b := k) (by omega) (by omega)).mp c_50; omega
      refine Vw.aload_n (de_aload_0 (B 111 _ rfl)) 0 rfl (n := 112) rfl ?_
      refine Vw.ivi0 (mi' := mX5_fail) (de_invokevirtual (B 112 _ rfl) (B 113 _ rfl) (B 114 _ rfl)) ml_X5_67 mv_X5_fail hx.rd.k (Nat.le_of_ble_eq_true rfl) (n := 115) rfl (k_fail hx hi ?_)
      exact Vw.zret (de_ireturn (B 115 _ rfl)) rfl rfl ⟨_, rfl, (by
      refine h0 i _ (eP12 z_50) hi (fun b hb => by rw [rm_r (by omega) (by omega)]; exact frJ b hb) ?_
      rw [rm_11]; exact hpl i hi)⟩
    have z_50 : k < 12 := by rcases Nat.lt_or_ge k 12 with z | z; exact z; exact absurd ((nI_leI (a := 12) (b := k) (by omega) (by omega)).mpr z) c_50
    refine Vw.aload_n (de_aload_0 (B 53 _ rfl)) 0 rfl (n := 54) rfl ?_
    refine Vw.iload (de_iload (B 54 _ rfl) (B 55 _ rfl)) 4 rfl (n := 56) rfl ?_
    refine Vw.ivi1 (mi' := mX5_readClause) (de_invokevirtual (B 56 _ rfl) (B 57 _ rfl) (B 58 _ rfl)) ml_X5_60 mv_X5_readClause hx.rd.k (Nat.le_of_ble_eq_true rfl) (n := 59) rfl (k_clause (n := k) hx hi hl hci z_50 (fun j l2 cl c3 w3 I3 e1 a1 a2 a3 a4 a4b a5 a6 a7 a8 => ?_) (fun e t2 l2 c2 w2 I3 e1 a1 a7 => ?_))
    · have eP2 := eP z_50
      rw [e1] at eP2
      dsimp only at eP2
      have hD2 : DQ o I3 w3 s c3 (acc ++ [cl]) := by
        refine ⟨(hD.1.of (fun x _ g => a5 x g)).app a6, fun i2 cl2 q => ?_⟩
        rcases Nat.lt_or_ge i2 acc.length with z | z
        · rw [List.getElem?_append_left z] at q
          obtain ⟨ca, cb, g1, g2⟩ := hD.2 i2 cl2 q
          exact ⟨ca, cb, by omega, g2.of (fun b g3 g4 => a7 b i2 (fun y => by omega)) (fun x g => a5 x (by omega))⟩
        · rw [List.getElem?_append_right z] at q
          have z2 : i2 = acc.length := by
            rcases Nat.eq_zero_or_pos (i2 - acc.length) with y | y
            · omega
            · rw [List.getElem?_eq_none (by simp only [List.length_cons, List.length_nil]; omega)] at q; cases q
          rw [z2, Nat.sub_self] at q
          simp only [List.getElem?_cons_zero, Option.some.injEq] at q
          subst q
          rw [z2, hacc]
          exact ⟨c, c3, Nat.le_refl _, a8⟩
      obtain ⟨IA, eA⟩ : ∃ x : vI, x = up2 I3 (s + 75) 0 (nI (k + 1)) := ⟨_, rfl⟩
      have fA : ∀ b, b ≠ s + 75 → IA b = I3 b := fun b hb => by rw [eA, up2_row hb]
      have frA : FrT s I IA := fun b hb => by rw [fA b (by omega), a7.row (by omega)]; exact frJ b hb
      have hx3 := hx.fr a7
      have hxA : RX (sUp S (s + 74) 5 (some tp)) IA s tp u cd vl (tkL u n 401 0).length o := by
        obtain ⟨g1, g2, g3, g4, g5, g6, g7, g8, g9, g10, g11, g12⟩ := hx3
        refine ⟨g1, g2, g3, g4, g5, by rw [fA _ (by omega)]; exact g6, g7, fun x hx => by rw [fA _ (by omega)]; exact g8 x hx, ?_, by rw [fA _ (by omega)]; exact g10, by rw [fA _ (by omega)]; exact g11, g12⟩
        obtain ⟨tks, b1, b2⟩ := g9
        exact ⟨tks, b1, fun i a e q => by rw [fA (s + 83) (by omega), fA (s + 84) (by omega), fA (s + 85) (by omega), fA (s + 86) (by omega)]; exact b2 i a e q⟩
      have hDA : DQ o IA w3 s c3 (acc ++ [cl]) := ⟨hD2.1, fun i2 cl2 q => by
        obtain ⟨ca, cb, g1, g2⟩ := hD2.2 i2 cl2 q
        exact ⟨ca, cb, g1, g2.of (fun b g3 g4 => by rw [fA b (by omega)]) (fun _ _ => rfl)⟩⟩
      have hplA : ∀ e, e ≤ (tkL u n 401 0).length → IA (s + 84) e = nI (plcT (tkL u n 401 0) n e) := fun e he => by rw [fA _ (by omega), a7.row (by omega)]; exact hpl e he
      have lenA : (acc ++ [cl]).length = k + 1 := by rw [List.length_append, hacc]; rfl
      have A75 : IA (s + 75) 0 = nI (k + 1) := by rw [eA, up2_s]
      refine Vw.if_ne (tgt := 64) (n := 62) (de_if_ne (B 59 _ rfl) (B 60 _ rfl) (B 61 _ rfl)) rfl rfl (fun c_59 => ?_) (fun c_59 => ?_)
      · refine Vw.aload_n (de_aload_0 (B 64 _ rfl)) 0 rfl (n := 65) rfl ?_
        refine Vw.getR (de_getfield (B 65 _ rfl) (B 66 _ rfl) (B 67 _ rfl)) fl_X5_14 rfl hx.rd.k hx.rd.f0 (n := 68) rfl ?_
        refine Vw.dup (de_dup (B 68 _ rfl)) rfl (n := 69) rfl ?_
        refine Vw.getI (de_getfield (B 69 _ rfl) (B 70 _ rfl) (B 71 _ rfl)) fl_X5_57 rfl hx.rd.p0.k (n := 72) rfl ?_
        rw [rm_a (by omega) (by omega), show I3 (s + 74 + 1) 0 = nI k from by rw [a7.row (by omega)]; exact h75]
        refine Vw.iconst (v := 1) (de_iconst_1 (B 72 _ rfl)) rfl (n := 73) rfl ?_
        refine Vw.iadd (de_iadd (B 73 _ rfl)) (n := 74) rfl ?_
        rw [nI_1]
        refine Vw.putI (de_putfield (B 74 _ rfl) (B 75 _ rfl) (B 76 _ rfl)) fl_X5_57 hx.rd.p0.k rfl rfl (n := 77) rfl ?_
        rw [show s + 74 + 1 = s + 75 from rfl, up_I (by omega) (by omega), ← eA]
        refine Vw.aload_n (de_aload_0 (B 77 _ rfl)) 0 rfl (n := 78) rfl ?_
        refine Vw.getR (de_getfield (B 78 _ rfl) (B 79 _ rfl) (B 80 _ rfl)) fl_X5_20 rfl hx.rd.k hx.rd.f1 (n := 81) rfl ?_
        refine Vw.aload_n (de_aload_0 (B 81 _ rfl)) 0 rfl (n := 82) rfl ?_
        refine Vw.getI (de_getfield (B 82 _ rfl) (B 83 _ rfl) (B 84 _ rfl)) fl_X5_48 rfl hx.rd.k (n := 85) rfl ?_
        rw [rm_8]
        refine Vw.iald (de_iaload (B 85 _ rfl)) hx.rd.r1 (vIx_n (k := j) rfl (by omega)) (n := 86) rfl ?_
        rw [rm_kd]
        refine Vw.sipush (v := 258) (de_sipush (B 86 _ rfl) (B 87 _ rfl) (B 88 _ rfl)) rfl (n := 89) rfl ?_
        refine Vw.icmp_ne (tgt := 94) (n := 92) (de_icmp_ne (B 89 _ rfl) (B 90 _ rfl) (B 91 _ rfl)) rfl rfl (fun c_89 => ?_) (fun c_89 => ?_)
        · refine Vw.aload_n (de_aload_0 (B 94 _ rfl)) 0 rfl (n := 95) rfl ?_
          refine Vw.bipush (v := 59) (de_bipush (B 95 _ rfl) (B 96 _ rfl)) rfl (n := 97) rfl ?_
          refine Vw.ivi1 (mi' := mX5_goOnBehind) (de_invokevirtual (B 97 _ rfl) (B 98 _ rfl) (B 99 _ rfl)) ml_X5_64 mv_X5_goOnBehind hx.rd.k (Nat.le_of_ble_eq_true rfl) (n := 100) rfl (k_goOnBehind (sg := 59) (i := j) hxA a2 (by decide) (fun g1 => ?_) (fun g0 => ?_))
          · have c159 : cd j = 159 := g1
            have j1 : j < (tkL u n 401 0).length := by
              rcases Nat.lt_or_ge j (tkL u n 401 0).length with z | z
              · exact z
              · rw [show j = (tkL u n 401 0).length by omega, hc0] at c159; exact absurd c159 (by decide)
            refine Vw.if_ne (tgt := 105) (n := 103) (de_if_ne (B 100 _ rfl) (B 101 _ rfl) (B 102 _ rfl)) rfl rfl (fun c_100 => ?_) (fun c_100 => ?_)
            · refine Vw.iinc (v := nI (k + 1)) (lv2 := [(0, _), (1, _), (2, _), (3, _), (4, _)]) (de_iinc (B 105 _ rfl) (B 106 _ rfl) (B 107 _ rfl)) 4 rfl (nI_1 k) (by decide) [1, 2, 3, 4, 0] rfl (n := 108) rfl ?_
              refine Vw.goto_ (n := 46) (de_goto_ (B 108 _ rfl) (B 109 _ rfl) (B 110 _ rfl)) rfl ?_
              refine ih z_50 IA (j + 1) l2 c3 w3 (acc ++ [cl]) hxA frA hplA (by omega) a3 (by omega) lenA A75 hDA (fun k12 => ?_) (fun k12 => ?_)
              · rw [eP2, show 11 - k = 11 - (k + 1) + 1 by omega, pRest_s c159]; rfl
              · rw [eP2, show 11 - k = 0 by omega, pRest_x c159]
            exact absurd c_100 (by decide)
          · refine Vw.if_ne (tgt := 105) (n := 103) (de_if_ne (B 100 _ rfl) (B 101 _ rfl) (B 102 _ rfl)) rfl rfl (fun c_100 => ?_) (fun c_100 => ?_)
            · exact absurd c_100 (by decide)
            refine Vw.iconst (v := 0) (de_iconst_0 (B 103 _ rfl)) rfl (n := 104) rfl ?_
            exact Vw.zret (de_ireturn (B 104 _ rfl)) rfl rfl ⟨_, rfl, (by
      have n159 : ¬ cd j = 159 := g0
      have j1 : j < (tkL u n 401 0).length := by
        rcases Nat.lt_or_ge j (tkL u n 401 0).length with z | z
        · exact z
        · exact absurd ((hxA.endk a2).mpr (by omega)) c_89
      refine h0 j _ (by rw [eP2, pRest_n n159 j1]) a2 (fun b hb => by rw [rm_r (by omega) (by omega)]; exact frA b hb) ?_
      rw [rm_11]; exact hplA j a2)⟩
        refine Vw.iconst (v := 1) (de_iconst_1 (B 92 _ rfl)) rfl (n := 93) rfl ?_
        exact Vw.zret (de_ireturn (B 93 _ rfl)) rfl rfl ⟨_, rfl, (by
      have jn : j = (tkL u n 401 0).length := (hxA.endk a2).mp c_89
      have n159 : ¬ cd j = 159 := by rw [jn, hc0]; decide
      refine h1 (acc ++ [cl]) c3 _ (by rw [eP2, pRest_0 n159 (by omega)]) (fun b hb => by rw [rm_r (by omega) (by omega)]; exact frA b hb) ?_ rm_11 (by rw [lenA]; omega) (by rw [lenA, Nat.add_sub_cancel, rm_a (by omega) (by omega), fA _ (by omega)]; obtain ⟨_, _, _, _, _, q, _⟩ := a8; exact q)
      have g := hDA.sc (I := IA) (by rw [A75, lenA])
      refine DQ.sc (w := w3) ⟨hDA.1, fun i2 cl2 q => ?_⟩ (by rw [rm_a (by omega) (by omega), A75, lenA]) (by rw [lenA]; omega) (by omega) (fun x => rm_w)
      obtain ⟨ca, cb, g1, g2⟩ := hDA.2 i2 cl2 q
      exact ⟨ca, cb, g1, g2.of (fun b g3 g4 => rm_a (by omega) (by omega)) (fun _ _ => rfl)⟩)⟩
      exact absurd c_59 (by decide)
    · refine Vw.if_ne (tgt := 64) (n := 62) (de_if_ne (B 59 _ rfl) (B 60 _ rfl) (B 61 _ rfl)) rfl rfl (fun c_59 => ?_) (fun c_59 => ?_)
      · exact absurd c_59 (by decide)
      refine Vw.iconst (v := 0) (de_iconst_0 (B 62 _ rfl)) rfl (n := 63) rfl ?_
      exact Vw.zret (de_ireturn (B 63 _ rfl)) rfl rfl ⟨_, rfl, (by
      have eP2 := eP z_50
      rw [e1] at eP2
      refine h0 e _ eP2 a1 (fun b hb => by rw [rm_r (by omega) (by omega), a7.row (by omega)]; exact frJ b hb) ?_
      rw [rm_11]; exact hpl e a1)⟩
  refine Vw.aload_n (de_aload_0 (B 0 _ rfl)) 0 rfl (n := 1) rfl ?_
  refine Vw.aload_n (de_aload_1 (B 1 _ rfl)) 1 rfl (n := 2) rfl ?_
  refine Vw.putR (de_putfield (B 2 _ rfl) (B 3 _ rfl) (B 4 _ rfl)) fl_X5_33 hR.k rfl (Or.inl rfl) (n := 5) rfl ?_
  refine Vw.aload_n (de_aload_0 (B 5 _ rfl)) 0 rfl (n := 6) rfl ?_
  refine Vw.iload_n (de_iload_3 (B 6 _ rfl)) 3 rfl (n := 7) rfl ?_
  refine Vw.putZ (de_putfield (B 7 _ rfl) (B 8 _ rfl) (B 9 _ rfl)) fl_X5_40 hR2.k rfl rfl (by cases o <;> rfl) (by cases o <;> rfl) (n := 10) rfl ?_
  refine Vw.aload_n (de_aload_0 (B 10 _ rfl)) 0 rfl (n := 11) rfl ?_
  refine Vw.iload_n (de_iload_2 (B 11 _ rfl)) 2 rfl (n := 12) rfl ?_
  refine Vw.ivv1 (mi' := mX5_split) (de_invokevirtual (B 12 _ rfl) (B 13 _ rfl) (B 14 _ rfl)) ml_X5_44 mv_X5_split hR2.k (Nat.le_of_ble_eq_true rfl) (n := 15) rfl (c_X5_split (u := u) hR2 ht2 htk (fun x hx => ⟨by rw [up2_a (by omega)]; exact (hu x hx).1, (hu x hx).2⟩) htp hn (fun I3 f3 rT k258 e84 e86 => ?_))
  refine Vw.aload_n (de_aload_0 (B 15 _ rfl)) 0 rfl (n := 16) rfl ?_
  refine Vw.iconst (v := 0) (de_iconst_0 (B 16 _ rfl)) rfl (n := 17) rfl ?_
  refine Vw.putI (de_putfield (B 17 _ rfl) (B 18 _ rfl) (B 19 _ rfl)) fl_X5_48 hR2.k rfl rfl (n := 20) rfl ?_
  refine Vw.aload_n (de_aload_0 (B 20 _ rfl)) 0 rfl (n := 21) rfl ?_
  refine Vw.iconst (v := 0) (de_iconst_0 (B 21 _ rfl)) rfl (n := 22) rfl ?_
  refine Vw.putI (de_putfield (B 22 _ rfl) (B 23 _ rfl) (B 24 _ rfl)) fl_X5_51 hR2.k rfl rfl (n := 25) rfl ?_
  refine Vw.aload_n (de_aload_0 (B 25 _ rfl)) 0 rfl (n := 26) rfl ?_
  refine Vw.iconst (v := 0) (de_iconst_0 (B 26 _ rfl)) rfl (n := 27) rfl ?_
  refine Vw.putI (de_putfield (B 27 _ rfl) (B 28 _ rfl) (B 29 _ rfl)) fl_X5_54 hR2.k rfl rfl (n := 30) rfl ?_
  refine Vw.aload_n (de_aload_0 (B 30 _ rfl)) 0 rfl (n := 31) rfl ?_
  refine Vw.getR (de_getfield (B 31 _ rfl) (B 32 _ rfl) (B 33 _ rfl)) fl_X5_14 rfl hR2.k hR2.f0 (n := 34) rfl ?_
  refine Vw.iconst (v := 0) (de_iconst_0 (B 34 _ rfl)) rfl (n := 35) rfl ?_
  refine Vw.putI (de_putfield (B 35 _ rfl) (B 36 _ rfl) (B 37 _ rfl)) fl_X5_57 hR2.p0.k rfl rfl (n := 38) rfl ?_
  refine Vw.aload_n (de_aload_0 (B 38 _ rfl)) 0 rfl (n := 39) rfl ?_
  refine Vw.iconst (v := -1) (de_iconst_m1 (B 39 _ rfl)) rfl (n := 40) rfl ?_
  refine Vw.putI (de_putfield (B 40 _ rfl) (B 41 _ rfl) (B 42 _ rfl)) fl_X5_36 hR2.k rfl rfl (n := 43) rfl ?_
  refine Vw.iconst (v := 0) (de_iconst_0 (B 43 _ rfl)) rfl (n := 44) rfl ?_
  refine Vw.istore (lv2 := [(0, _), (1, _), (2, _), (3, _), (4, _)]) (de_istore (B 44 _ rfl) (B 45 _ rfl)) (by decide) [1, 2, 3, 4, 0] rfl (n := 46) rfl ?_
  rw [rm_in]
  have fI : ∀ b, ¬ (s + 74 ≤ b ∧ b ≤ s + 86) → I3 b = I b := fun b hb => funext fun x => by rw [f3 b x (by omega) (by omega), up2_row (by omega)]
  have hbt : ∀ x, x < n → bt (u x) := fun x hx => (hu x (by omega)).2
  have hpl : ∀ e, e ≤ (tkL u n 401 0).length → I3 (s + 84) e = nI (plcT (tkL u n 401 0) n e) := fun e he => by
    unfold plcT
    rcases Nat.lt_or_ge e (tkL u n 401 0).length with z | z
    · have q : (tkL u n 401 0)[e]? = some ((tkL u n 401 0)[e]'z) := List.getElem?_eq_getElem z
      have g := (rT e ((tkL u n 401 0)[e]'z).1 ((tkL u n 401 0)[e]'z).2 q).2.1
      rw [g, List.getD_eq_getElem?_getD, q, Option.getD_some]
    · rw [show e = (tkL u n 401 0).length by omega, e84, List.getD_eq_getElem?_getD, List.getElem?_eq_none (Nat.le_refl _), Option.getD_none]
  have hx : RX (sUp S (s + 74) 5 (some tp)) (up2 I3 (s + 75) 0 0) s tp u cd vl (tkL u n 401 0).length o := by
    have e0 : ∀ b, b ≠ s + 75 → up2 I3 (s + 75) 0 0 b = I3 b := fun b hb => up2_row hb
    refine ⟨hR2, ht2, htk, htp, hst, ?_, by omega, fun x hx => ?_, ⟨(tkL u n 401 0), rfl, fun i a e q => ?_⟩, by rw [e0 _ (by omega)]; exact k258, by rw [e0 _ (by omega)]; exact e86, hc0⟩
    · rw [e0 _ (by omega), f3 _ _ (by omega) (by omega), up2_s]
    · rw [e0 _ (by omega), fI _ (by omega)]; exact hu x hx
    · rw [e0 (s + 83) (by omega), e0 (s + 84) (by omega), e0 (s + 85) (by omega), e0 (s + 86) (by omega)]
      obtain ⟨g1, g2, g3, g4⟩ := rT i a e q
      obtain ⟨t1, t2, t3⟩ := tkL_ok hbt (List.mem_of_getElem? q)
      exact ⟨t1, by have := t2; simp only at this; omega, g1, g2, g3, g4, (hcd i a e q).1, (hcd i a e q).2, t3⟩
  refine loop 0 (Nat.zero_le _) _ 0 0 0 _ [] hx (fun b hb => by rw [up2_row (by omega)]; exact fI b hb) (fun e he => by rw [up2_row (by omega)]; exact hpl e he) (Nat.zero_le _) (Nat.zero_le _) (Nat.le_refl _) rfl (up2_s _ _ _ _) ⟨OKw.nil, fun i cl q => by cases q⟩ (fun _ => ?_) (fun z => absurd z (by decide))
  unfold pText
  rfl
