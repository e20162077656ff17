theorem evV_0 {b : Int32} {dn : tD} {nv : Nat → Int32} : evV 0 b dn nv = 0 := (ev0 (Or.inl rfl)).1
theorem evB_0 {b : Int32} {dn : tD} {nv : Nat → Int32} : evB 0 b dn nv = b := (ev0 (Or.inl rfl)).2
theorem evV_1 {lv : Int32} {dn : tD} {nv : Nat → Int32} : evV lv 1 dn nv = 0 := (ev0 (Or.inr (by decide))).1
theorem evB_1 {lv : Int32} {dn : tD} {nv : Nat → Int32} : evB lv 1 dn nv = 1 := (ev0 (Or.inr (by decide))).2
def opT2 (c : Int32) (v w : Int64) : Int64 := if c = 142 then v * w else if c = 147 then v / w else v - v / w * w
def opS2 (c : Int32) (v w : Int64) : Int64 := if c = 143 then v + w else v - w
theorem zBnd_0 {b : Int32} {v : Int64} : zBnd 0 b v = b := by unfold zBnd; rw [if_neg (fun q => absurd q.1 (by decide))]
theorem zBnd_1 {lv : Int32} {v : Int64} : zBnd lv 1 v = 1 := by unfold zBnd; split <;> rfl
theorem zBnd_x {v : Int64} : zBnd 1 0 v = (if tBnd v = none then 1 else 0) ∧ (if zBnd 1 0 v = 0 then v else 0) = (tBnd v).getD 0 := by
  unfold zBnd
  by_cases h : tBnd v = none
  · simp [h]
  · have h2 : tBnd v = some v := by
      unfold tBnd at h ⊢
      split
      · rename_i q; rw [if_pos q] at h; exact absurd rfl h
      · rename_i q
        rw [if_neg q] at h
        split
        · rename_i q2; rw [if_pos q2] at h; exact absurd rfl h
        · rfl
    simp [h2]
/-- one step of a chain: what the machine holds is what the meaning says -/
def stepOk (lv b : Int32) (e : tD) (nv : Nat → Int32) (b2 : Int32) (x : Int64) : Prop := zBnd lv b2 x = evB lv b e nv ∧ (if zBnd lv b2 x = 0 then x else 0) = evV lv b e nv
theorem stepX {e : tD} {nv : Nat → Int32} {x : Int64} (h : e nv = tBnd x) : stepOk 1 0 e nv 0 x := by
  obtain ⟨q1, q2⟩ := zBnd_x (v := x)
  cases hn : tBnd x with
  | none =>
    obtain ⟨r1, r2⟩ := ev2 (lv := 1) (b := 0) (dn := e) (nv := nv) rfl rfl (h.trans hn)
    exact ⟨by rw [q1, if_pos hn, r2], by rw [q2, hn, r1]; rfl⟩
  | some y =>
    obtain ⟨r1, r2⟩ := ev1 (lv := 1) (b := 0) (dn := e) (nv := nv) rfl rfl (h.trans hn)
    exact ⟨by rw [q1, if_neg (by rw [hn]; simp), r2], by rw [q2, hn, r1]; rfl⟩
theorem stepT {lv b c : Int32} {d0 d2 : tD} {nv : Nat → Int32} (hlv : lv = 0 ∨ lv = 1) (hb : b = 0 ∨ b = 1) (hc : c = 142 ∨ c = 147 ∨ c = 137) :
    (c = 142 ∨ ¬ evV lv (evB lv b d0 nv) d2 nv = 0 → stepOk lv b (tBin c d0 d2) nv (evB lv (evB lv b d0 nv) d2 nv) (opT2 c (evV lv b d0 nv) (evV lv (evB lv b d0 nv) d2 nv))) ∧
    (¬ c = 142 → evV lv (evB lv b d0 nv) d2 nv = 0 → ∀ b2, b2 = (if ¬ evB lv (evB lv b d0 nv) d2 nv = 0 then 1 else if lv = 0 then 0 else 1) → stepOk lv b (tBin c d0 d2) nv b2 (opT2 c (evV lv b d0 nv) 1)) := by
  rcases hlv with rfl | rfl
  · rw [evB_0, evB_0, evV_0, evV_0]
    constructor
    · intro h
      have h : c = 142 := by rcases h with h | h; exact h; exact absurd rfl h
      subst h
      refine ⟨by rw [zBnd_0, evB_0], ?_⟩
      rw [zBnd_0, evV_0]; split <;> rfl
    · intro h1 _ b2 hb2
      have hb3 : b2 = b := by rw [hb2]; rcases hb with rfl | rfl <;> rfl
      subst hb3
      refine ⟨by rw [zBnd_0, evB_0], ?_⟩
      rw [zBnd_0, evV_0]
      rcases hc with rfl | rfl | rfl
      · exact absurd rfl h1
      · split <;> rfl
      · split <;> rfl
  · rcases hb with rfl | rfl
    · cases h0 : d0 nv with
      | none =>
        have hB : tBin c d0 d2 nv = none := by simp [tBin, h0]
        obtain ⟨a1, a2⟩ := ev2 (lv := 1) (b := 0) (dn := d0) (nv := nv) rfl rfl h0
        obtain ⟨r1, r2⟩ := ev2 (lv := 1) (b := 0) (dn := tBin c d0 d2) (nv := nv) rfl rfl hB
        rw [a1, a2, evB_1, evV_1]
        constructor
        · intro h
          refine ⟨by rw [zBnd_1, r2], by rw [zBnd_1, r1]; rfl⟩
        · intro _ _ b2 hb2
          have : b2 = 1 := by rw [hb2]; rfl
          subst this
          refine ⟨by rw [zBnd_1, r2], by rw [zBnd_1, r1]; rfl⟩
      | some v =>
        obtain ⟨a1, a2⟩ := ev1 (lv := 1) (b := 0) (dn := d0) (nv := nv) rfl rfl h0
        rw [a1, a2]
        cases h2 : d2 nv with
        | none =>
          have hB : tBin c d0 d2 nv = none := by simp [tBin, h0, h2]
          obtain ⟨w1, w2⟩ := ev2 (lv := 1) (b := 0) (dn := d2) (nv := nv) rfl rfl h2
          obtain ⟨r1, r2⟩ := ev2 (lv := 1) (b := 0) (dn := tBin c d0 d2) (nv := nv) rfl rfl hB
          rw [w1, w2]
          constructor
          · intro h
            refine ⟨by rw [zBnd_1, r2], by rw [zBnd_1, r1]; rfl⟩
          · intro _ _ b2 hb2
            have : b2 = 1 := by rw [hb2]; rfl
            subst this
            refine ⟨by rw [zBnd_1, r2], by rw [zBnd_1, r1]; rfl⟩
        | some w =>
          obtain ⟨w1, w2⟩ := ev1 (lv := 1) (b := 0) (dn := d2) (nv := nv) rfl rfl h2
          rw [w1, w2]
          have hB : tBin c d0 d2 nv = tOp c v w := by simp [tBin, h0, h2]
          have fin : ∀ x, tOp c v w = tBnd x → stepOk 1 0 (tBin c d0 d2) nv 0 x := fun x hx => stepX (hB.trans hx)
          constructor
          · intro h
            refine fin _ ?_
            rcases hc with rfl | rfl | rfl
            · unfold tOp opT2
              rw [if_neg (by decide), if_neg (by decide), if_pos rfl, if_pos rfl]
            · have hw : ¬ w = 0 := by rcases h with h | h; exact absurd h (by decide); exact h
              unfold tOp opT2
              rw [if_neg (by decide), if_neg (by decide), if_neg (by decide), if_neg hw, if_pos rfl, if_neg (by decide), if_pos rfl]
            · have hw : ¬ w = 0 := by rcases h with h | h; exact absurd h (by decide); exact h
              unfold tOp opT2
              rw [if_neg (by decide), if_neg (by decide), if_neg (by decide), if_neg hw, if_neg (by decide), if_neg (by decide), if_neg (by decide)]
          · intro hc2 hw b2 hb2
            have hb3 : b2 = 1 := by rw [hb2]; rfl
            subst hb3
            have hB2 : tBin c d0 d2 nv = none := by
              rw [hB]; unfold tOp
              rcases hc with rfl | rfl | rfl
              · exact absurd rfl hc2
              · rw [if_neg (by decide), if_neg (by decide), if_neg (by decide), if_pos hw]
              · rw [if_neg (by decide), if_neg (by decide), if_neg (by decide), if_pos hw]
            obtain ⟨r1, r2⟩ := ev2 (lv := 1) (b := 0) (dn := tBin c d0 d2) (nv := nv) rfl rfl hB2
            refine ⟨by rw [zBnd_1, r2], by rw [zBnd_1, r1]; rfl⟩
    · rw [evB_1, evB_1, evV_1, evV_1]
      constructor
      · intro h
        refine ⟨by rw [zBnd_1, evB_1], by rw [zBnd_1, evV_1]; rfl⟩
      · intro _ _ b2 hb2
        have : b2 = 1 := by rw [hb2]; rfl
        subst this
        refine ⟨by rw [zBnd_1, evB_1], by rw [zBnd_1, evV_1]; rfl⟩
theorem stepS {lv b c : Int32} {d0 d2 : tD} {nv : Nat → Int32} (hlv : lv = 0 ∨ lv = 1) (hb : b = 0 ∨ b = 1) (hc : c = 143 ∨ c = 145) : stepOk lv b (tBin c d0 d2) nv (evB lv (evB lv b d0 nv) d2 nv) (opS2 c (evV lv b d0 nv) (evV lv (evB lv b d0 nv) d2 nv)) := by
  rcases hlv with rfl | rfl
  · rw [evB_0, evB_0, evV_0, evV_0]
    refine ⟨by rw [zBnd_0, evB_0], ?_⟩
    rw [zBnd_0, evV_0]
    rcases hc with rfl | rfl <;> (split <;> rfl)
  · rcases hb with rfl | rfl
    · cases h0 : d0 nv with
      | none =>
        have hB : tBin c d0 d2 nv = none := by simp [tBin, h0]
        obtain ⟨a1, a2⟩ := ev2 (lv := 1) (b := 0) (dn := d0) (nv := nv) rfl rfl h0
        obtain ⟨r1, r2⟩ := ev2 (lv := 1) (b := 0) (dn := tBin c d0 d2) (nv := nv) rfl rfl hB
        rw [a1, a2, evB_1, evV_1]
        exact ⟨by rw [zBnd_1, r2], by rw [zBnd_1, r1]; rfl⟩
      | some v =>
        obtain ⟨a1, a2⟩ := ev1 (lv := 1) (b := 0) (dn := d0) (nv := nv) rfl rfl h0
        rw [a1, a2]
        cases h2 : d2 nv with
        | none =>
          have hB : tBin c d0 d2 nv = none := by simp [tBin, h0, h2]
          obtain ⟨w1, w2⟩ := ev2 (lv := 1) (b := 0) (dn := d2) (nv := nv) rfl rfl h2
          obtain ⟨r1, r2⟩ := ev2 (lv := 1) (b := 0) (dn := tBin c d0 d2) (nv := nv) rfl rfl hB
          rw [w1, w2]
          exact ⟨by rw [zBnd_1, r2], by rw [zBnd_1, r1]; rfl⟩
        | some w =>
          obtain ⟨w1, w2⟩ := ev1 (lv := 1) (b := 0) (dn := d2) (nv := nv) rfl rfl h2
          rw [w1, w2]
          have hB : tBin c d0 d2 nv = tBnd (opS2 c v w) := by
            rcases hc with rfl | rfl <;> simp [tBin, h0, h2, tOp, opS2]
          exact stepX hB
    · rw [evB_1, evB_1, evV_1, evV_1]
      exact ⟨by rw [zBnd_1, evB_1], by rw [zBnd_1, evV_1]; rfl⟩
theorem pMany_inv {cd : Nat → Int32} {ops : Int32 → Bool} {comb : Int32 → tD → tD → tD} {x : Nat → Nat → tR tD} {i l j l2 : Nat} {d : tD} (h : pMany cd ops comb x i l = .ok (j, l2, d)) : ∃ j0 l0 d0, x i l = .ok (j0, l0, d0) ∧ pChain cd ops comb x 402 j0 l0 d0 = .ok (j, l2, d) := by
  unfold pMany at h
  cases hq : x i l with
  | error e => rw [hq] at h; cases h
  | ok q => obtain ⟨j0, l0, d0⟩ := q; rw [hq] at h; exact ⟨j0, l0, d0, rfl, h⟩
theorem pChain_inv {cd : Nat → Int32} {ops : Int32 → Bool} {comb : Int32 → tD → tD → tD} {x : Nat → Nat → tR tD} {f i l j l2 : Nat} {d0 d : tD} (h : pChain cd ops comb x (f + 1) i l d0 = .ok (j, l2, d)) : (¬ ops (cd i) = true ∧ i = j ∧ l = l2 ∧ d0 = d) ∨ (ops (cd i) = true ∧ ∃ j3 l3 d3, x (i + 1) l = .ok (j3, l3, d3) ∧ pChain cd ops comb x f j3 l3 (comb (cd i) d0 d3) = .ok (j, l2, d)) := by
  rw [pChain] at h
  by_cases hc : ops (cd i) = true
  · rw [if_pos hc] at h
    cases hq : x (i + 1) l with
    | error e => rw [hq] at h; cases h
    | ok q => obtain ⟨j0, l0, d1⟩ := q; rw [hq] at h; exact Or.inr ⟨hc, j0, l0, d1, rfl, h⟩
  · rw [if_neg hc] at h; cases h; exact Or.inl ⟨hc, rfl, rfl, rfl⟩
theorem ec_term {D : Nat} {P : (Nat → Int32) → (Nat → Int32) → Bool → Nat → Nat → tR tD} (hB : ∀ cd vl o nt, cd nt = 0 → Bd nt (P cd vl o)) (hS : EC mX12_partOf (D + 3) P) : EC mX12_termOf (D + 4) (fun cd vl o => pMany cd opT tBin (P cd vl o)) := by
  intro d S I L Q r bs nt np cd vl o nv i l j l2 dn lv b hM hE hN hi hP hlv hb h
  refine Vc.of rfl (Nat.le_of_ble_eq_true rfl) ?_
  have B := bs_X12_termOf
  show Vw mX12_termOf (d + (D + 4)) 0 0 0 0 (VlQ Q) 0 [(0, .ref r), (1, .int lv)] [] S (em I r (nI (bs + i)) b) L
  have hE2 := hE.2.2
  have hX := hB cd vl o nt hE.2.1
  have loop : ∀ f j0 l0 d0, j0 ≤ nt → nt < j0 + f → pChain cd opT tBin (P cd vl o) f j0 l0 d0 = .ok (j, l2, dn) → Vw mX12_termOf (d + (D + 4)) 0 0 0 0 (VlQ Q) 6 [(0, .ref r), (1, .int lv), (2, .long (evV lv b d0 nv))] [] S (em I r (nI (bs + j0)) (evB lv b d0 nv)) L := by
    intro f
    induction f with
    | zero => intro j0 l0 d0 h1 h2; exact absurd h2 (by omega)
    | succ f ih =>
      intro j0 l0 d0 hj hf hC
      have hb0 := evB_01 (lv := lv) (dn := d0) (nv := nv) hb
      rcases pChain_inv hC with ⟨ho, e1, e2, e3⟩ | ⟨ho, j3, l3, d3, hx3, hc3⟩
      · subst e1; subst e3
        have n1 : ¬ cd j0 = 142 := fun q => ho (by rw [q]; decide)
        have n2 : ¬ cd j0 = 147 := fun q => ho (by rw [q]; decide)
        have n3 : ¬ cd j0 = 137 := fun q => ho (by rw [q]; decide)
        refine Vw.aload_n (de_aload_0 (B 6 _ rfl)) 0 rfl (n := 7) rfl ?_
        refine Vw.aload_n (de_aload_0 (B 7 _ rfl)) 0 rfl (n := 8) rfl ?_
        refine Vw.getI (de_getfield (B 8 _ rfl) (B 9 _ rfl) (B 10 _ rfl)) fl_X12_270 rfl hM.k (n := 11) rfl ?_
        rw [em_g]
        refine Vw.ivi1 (mi' := mX12_codeAt) (de_invokevirtual (B 11 _ rfl) (B 12 _ rfl) (B 13 _ rfl)) ml_X12_273 mv_X12_codeAt hM.k (Nat.le_of_ble_eq_true rfl) (n := 14) rfl (c_X12_codeAt hM hE hj ?_)
        refine Vw.bipush (v := 42) (de_bipush (B 14 _ rfl) (B 15 _ rfl)) rfl (n := 16) rfl ?_
        refine Vw.isi1 (mi' := mX12_sign) (de_invokestatic (B 16 _ rfl) (B 17 _ rfl) (B 18 _ rfl)) ml_X12_239 ms_X12_sign (Nat.le_of_ble_eq_true rfl) (n := 19) rfl (c_X12_sign ?_)
        rw [show (100 + 42 : Int32) = 142 from rfl]
        refine Vw.icmp_eq (tgt := 54) (n := 22) (de_icmp_eq (B 19 _ rfl) (B 20 _ rfl) (B 21 _ rfl)) rfl rfl (fun c_19 => ?_) (fun c_19 => ?_)
        · exact absurd c_19 n1
        refine Vw.aload_n (de_aload_0 (B 22 _ rfl)) 0 rfl (n := 23) rfl ?_
        refine Vw.aload_n (de_aload_0 (B 23 _ rfl)) 0 rfl (n := 24) rfl ?_
        refine Vw.getI (de_getfield (B 24 _ rfl) (B 25 _ rfl) (B 26 _ rfl)) fl_X12_270 rfl hM.k (n := 27) rfl ?_
        rw [em_g]
        refine Vw.ivi1 (mi' := mX12_codeAt) (de_invokevirtual (B 27 _ rfl) (B 28 _ rfl) (B 29 _ rfl)) ml_X12_273 mv_X12_codeAt hM.k (Nat.le_of_ble_eq_true rfl) (n := 30) rfl (c_X12_codeAt hM hE hj ?_)
        refine Vw.bipush (v := 47) (de_bipush (B 30 _ rfl) (B 31 _ rfl)) rfl (n := 32) rfl ?_
        refine Vw.isi1 (mi' := mX12_sign) (de_invokestatic (B 32 _ rfl) (B 33 _ rfl) (B 34 _ rfl)) ml_X12_239 ms_X12_sign (Nat.le_of_ble_eq_true rfl) (n := 35) rfl (c_X12_sign ?_)
        rw [show (100 + 47 : Int32) = 147 from rfl]
        refine Vw.icmp_eq (tgt := 54) (n := 38) (de_icmp_eq (B 35 _ rfl) (B 36 _ rfl) (B 37 _ rfl)) rfl rfl (fun c_35 => ?_) (fun c_35 => ?_)
        · exact absurd c_35 n2
        refine Vw.aload_n (de_aload_0 (B 38 _ rfl)) 0 rfl (n := 39) rfl ?_
        refine Vw.aload_n (de_aload_0 (B 39 _ rfl)) 0 rfl (n := 40) rfl ?_
        refine Vw.getI (de_getfield (B 40 _ rfl) (B 41 _ rfl) (B 42 _ rfl)) fl_X12_270 rfl hM.k (n := 43) rfl ?_
        rw [em_g]
        refine Vw.ivi1 (mi' := mX12_codeAt) (de_invokevirtual (B 43 _ rfl) (B 44 _ rfl) (B 45 _ rfl)) ml_X12_273 mv_X12_codeAt hM.k (Nat.le_of_ble_eq_true rfl) (n := 46) rfl (c_X12_codeAt hM hE hj ?_)
        refine Vw.bipush (v := 37) (de_bipush (B 46 _ rfl) (B 47 _ rfl)) rfl (n := 48) rfl ?_
        refine Vw.isi1 (mi' := mX12_sign) (de_invokestatic (B 48 _ rfl) (B 49 _ rfl) (B 50 _ rfl)) ml_X12_239 ms_X12_sign (Nat.le_of_ble_eq_true rfl) (n := 51) rfl (c_X12_sign ?_)
        rw [show (100 + 37 : Int32) = 137 from rfl]
        refine Vw.icmp_ne (tgt := 168) (n := 54) (de_icmp_ne (B 51 _ rfl) (B 52 _ rfl) (B 53 _ rfl)) rfl rfl (fun c_51 => ?_) (fun c_51 => ?_)
        · refine Vw.lload_n (de_lload_2 (B 168 _ rfl)) 2 rfl (n := 169) rfl ?_
          exact Vw.lret (de_lreturn (B 169 _ rfl)) rfl ⟨_, rfl, h⟩
        exact absurd c_51 n3
      · have hc : cd j0 = 142 ∨ cd j0 = 147 ∨ cd j0 = 137 := by simpa [opT, or_assoc] using ho
        have hlt := hE.lt hj (by rcases hc with q | q | q <;> rw [q] <;> decide)
        have hj3 := hX _ _ _ _ _ hlt hx3
        obtain ⟨s1, s2⟩ := stepT (d0 := d0) (d2 := d3) (nv := nv) hlv hb hc
        have fin : ∀ (w : Int64) (b2 : Int32), (b2 = 0 ∨ b2 = 1) → (cd j0 = 142 ∨ ¬ w = 0) → stepOk lv b (tBin (cd j0) d0 d3) nv b2 (opT2 (cd j0) (evV lv b d0 nv) w) → Vw mX12_termOf (d + (D + 4)) 0 0 0 0 (VlQ Q) 121 [(0, .ref r), (1, .int lv), (2, .long (evV lv b d0 nv)), (4, .int (cd j0)), (5, .long w)] [] S (em I r (nI (bs + j3)) b2) L := by
          intro w b2 hb2 hw hst
          refine Vw.aload_n (de_aload_0 (B 121 _ rfl)) 0 rfl (n := 122) rfl ?_
          refine Vw.iload (de_iload (B 122 _ rfl) (B 123 _ rfl)) 3 rfl (n := 124) rfl ?_
          refine Vw.bipush (v := 42) (de_bipush (B 124 _ rfl) (B 125 _ rfl)) rfl (n := 126) rfl ?_
          refine Vw.isi1 (mi' := mX12_sign) (de_invokestatic (B 126 _ rfl) (B 127 _ rfl) (B 128 _ rfl)) ml_X12_239 ms_X12_sign (Nat.le_of_ble_eq_true rfl) (n := 129) rfl (c_X12_sign ?_)
          rw [show (100 + 42 : Int32) = 142 from rfl]
          refine Vw.icmp_ne (tgt := 139) (n := 132) (de_icmp_ne (B 129 _ rfl) (B 130 _ rfl) (B 131 _ rfl)) rfl rfl (fun c_129 => ?_) (fun c_129 => ?_)
          · refine Vw.iload (de_iload (B 139 _ rfl) (B 140 _ rfl)) 3 rfl (n := 141) rfl ?_
            refine Vw.bipush (v := 47) (de_bipush (B 141 _ rfl) (B 142 _ rfl)) rfl (n := 143) rfl ?_
            refine Vw.isi1 (mi' := mX12_sign) (de_invokestatic (B 143 _ rfl) (B 144 _ rfl) (B 145 _ rfl)) ml_X12_239 ms_X12_sign (Nat.le_of_ble_eq_true rfl) (n := 146) rfl (c_X12_sign ?_)
            rw [show (100 + 47 : Int32) = 147 from rfl]
            refine Vw.icmp_ne (tgt := 156) (n := 149) (de_icmp_ne (B 146 _ rfl) (B 147 _ rfl) (B 148 _ rfl)) rfl rfl (fun c_146 => ?_) (fun c_146 => ?_)
            · refine Vw.lload_n (de_lload_2 (B 156 _ rfl)) 2 rfl (n := 157) rfl ?_
              refine Vw.lload (de_lload (B 157 _ rfl) (B 158 _ rfl)) 4 rfl (n := 159) rfl ?_
              refine Vw.lrem (de_lrem (B 159 _ rfl)) (hw.resolve_left c_129) (n := 160) rfl ?_
              refine Vw.iload_n (de_iload_1 (B 160 _ rfl)) 1 rfl (n := 161) rfl ?_
              refine Vw.ivl2 (mi' := mX12_bounded) (de_invokevirtual (B 161 _ rfl) (B 162 _ rfl) (B 163 _ rfl)) ml_X12_287 mv_X12_bounded hM.k (Nat.le_of_ble_eq_true rfl) (n := 164) rfl (c_X12_bounded hM hlv hb2 ?_)
              · refine Vw.lstore_n (lv2 := [(0, _), (1, _), (2, _), (4, _), (5, _)]) (de_lstore_2 (B 164 _ rfl)) rfl (by decide) [1, 2, 0, 3, 4] rfl (n := 165) rfl ?_
                refine Vw.goto_ (n := 6) (de_goto_ (B 165 _ rfl) (B 166 _ rfl) (B 167 _ rfl)) rfl ?_
                refine Vw.lvs (lv2 := [(0, _), (1, _), (2, _)]) [0, 1, 2] rfl ?_
                have hv := hst
                unfold stepOk opT2 at hv
                first
                | (rw [if_pos c_129] at hv; rw [hv.2, hv.1]; exact ih j3 l3 _ hj3.2 (by omega) hc3)
                | (rw [if_neg c_129, if_pos c_146] at hv; rw [hv.2, hv.1]; exact ih j3 l3 _ hj3.2 (by omega) hc3)
                | (rw [if_neg c_129, if_neg c_146] at hv; rw [hv.2, hv.1]; exact ih j3 l3 _ hj3.2 (by omega) hc3)
            refine Vw.lload_n (de_lload_2 (B 149 _ rfl)) 2 rfl (n := 150) rfl ?_
            refine Vw.lload (de_lload (B 150 _ rfl) (B 151 _ rfl)) 4 rfl (n := 152) rfl ?_
            refine Vw.ldiv (de_ldiv (B 152 _ rfl)) (hw.resolve_left c_129) (n := 153) rfl ?_
            refine Vw.goto_ (n := 160) (de_goto_ (B 153 _ rfl) (B 154 _ rfl) (B 155 _ rfl)) rfl ?_
            refine Vw.iload_n (de_iload_1 (B 160 _ rfl)) 1 rfl (n := 161) rfl ?_
            refine Vw.ivl2 (mi' := mX12_bounded) (de_invokevirtual (B 161 _ rfl) (B 162 _ rfl) (B 163 _ rfl)) ml_X12_287 mv_X12_bounded hM.k (Nat.le_of_ble_eq_true rfl) (n := 164) rfl (c_X12_bounded hM hlv hb2 ?_)
            · refine Vw.lstore_n (lv2 := [(0, _), (1, _), (2, _), (4, _), (5, _)]) (de_lstore_2 (B 164 _ rfl)) rfl (by decide) [1, 2, 0, 3, 4] rfl (n := 165) rfl ?_
              refine Vw.goto_ (n := 6) (de_goto_ (B 165 _ rfl) (B 166 _ rfl) (B 167 _ rfl)) rfl ?_
              refine Vw.lvs (lv2 := [(0, _), (1, _), (2, _)]) [0, 1, 2] rfl ?_
              have hv := hst
              unfold stepOk opT2 at hv
              first
              | (rw [if_pos c_129] at hv; rw [hv.2, hv.1]; exact ih j3 l3 _ hj3.2 (by omega) hc3)
              | (rw [if_neg c_129, if_pos c_146] at hv; rw [hv.2, hv.1]; exact ih j3 l3 _ hj3.2 (by omega) hc3)
              | (rw [if_neg c_129, if_neg c_146] at hv; rw [hv.2, hv.1]; exact ih j3 l3 _ hj3.2 (by omega) hc3)
          refine Vw.lload_n (de_lload_2 (B 132 _ rfl)) 2 rfl (n := 133) rfl ?_
          refine Vw.lload (de_lload (B 133 _ rfl) (B 134 _ rfl)) 4 rfl (n := 135) rfl ?_
          refine Vw.lmul (de_lmul (B 135 _ rfl)) (n := 136) rfl ?_
          refine Vw.goto_ (n := 160) (de_goto_ (B 136 _ rfl) (B 137 _ rfl) (B 138 _ rfl)) rfl ?_
          refine Vw.iload_n (de_iload_1 (B 160 _ rfl)) 1 rfl (n := 161) rfl ?_
          refine Vw.ivl2 (mi' := mX12_bounded) (de_invokevirtual (B 161 _ rfl) (B 162 _ rfl) (B 163 _ rfl)) ml_X12_287 mv_X12_bounded hM.k (Nat.le_of_ble_eq_true rfl) (n := 164) rfl (c_X12_bounded hM hlv hb2 ?_)
          · refine Vw.lstore_n (lv2 := [(0, _), (1, _), (2, _), (4, _), (5, _)]) (de_lstore_2 (B 164 _ rfl)) rfl (by decide) [1, 2, 0, 3, 4] rfl (n := 165) rfl ?_
            refine Vw.goto_ (n := 6) (de_goto_ (B 165 _ rfl) (B 166 _ rfl) (B 167 _ rfl)) rfl ?_
            refine Vw.lvs (lv2 := [(0, _), (1, _), (2, _)]) [0, 1, 2] rfl ?_
            have hv := hst
            unfold stepOk opT2 at hv
            first
            | (rw [if_pos c_129] at hv; rw [hv.2, hv.1]; exact ih j3 l3 _ hj3.2 (by omega) hc3)
            | (rw [if_neg c_129, if_pos c_146] at hv; rw [hv.2, hv.1]; exact ih j3 l3 _ hj3.2 (by omega) hc3)
            | (rw [if_neg c_129, if_neg c_146] at hv; rw [hv.2, hv.1]; exact ih j3 l3 _ hj3.2 (by omega) hc3)
        have go : Vw mX12_termOf (d + (D + 4)) 0 0 0 0 (VlQ Q) 54 [(0, .ref r), (1, .int lv), (2, .long (evV lv b d0 nv))] [] S (em I r (nI (bs + j0)) (evB lv b d0 nv)) L := by
          refine Vw.aload_n (de_aload_0 (B 54 _ rfl)) 0 rfl (n := 55) rfl ?_
          refine Vw.aload_n (de_aload_0 (B 55 _ rfl)) 0 rfl (n := 56) rfl ?_
          refine Vw.getI (de_getfield (B 56 _ rfl) (B 57 _ rfl) (B 58 _ rfl)) fl_X12_270 rfl hM.k (n := 59) rfl ?_
          rw [em_g]
          refine Vw.ivi1 (mi' := mX12_codeAt) (de_invokevirtual (B 59 _ rfl) (B 60 _ rfl) (B 61 _ rfl)) ml_X12_273 mv_X12_codeAt hM.k (Nat.le_of_ble_eq_true rfl) (n := 62) rfl (c_X12_codeAt hM hE hj ?_)
          refine Vw.istore (lv2 := [(0, _), (1, _), (2, _), (4, _)]) (de_istore (B 62 _ rfl) (B 63 _ rfl)) (by decide) [1, 2, 3, 0] rfl (n := 64) rfl ?_
          refine Vw.aload_n (de_aload_0 (B 64 _ rfl)) 0 rfl (n := 65) rfl ?_
          refine Vw.dup (de_dup (B 65 _ rfl)) rfl (n := 66) rfl ?_
          refine Vw.getI (de_getfield (B 66 _ rfl) (B 67 _ rfl) (B 68 _ rfl)) fl_X12_270 rfl hM.k (n := 69) rfl ?_
          rw [em_g]
          refine Vw.iconst (v := 1) (de_iconst_1 (B 69 _ rfl)) rfl (n := 70) rfl ?_
          refine Vw.iadd (de_iadd (B 70 _ rfl)) (n := 71) rfl ?_
          refine Vw.putI (de_putfield (B 71 _ rfl) (B 72 _ rfl) (B 73 _ rfl)) fl_X12_270 hM.k rfl rfl (n := 74) rfl ?_
          rw [em_inc]
          refine Vw.aload_n (de_aload_0 (B 74 _ rfl)) 0 rfl (n := 75) rfl ?_
          refine Vw.iload_n (de_iload_1 (B 75 _ rfl)) 1 rfl (n := 76) rfl ?_
          refine Vw.ivl1 (mi' := mX12_partOf) (de_invokevirtual (B 76 _ rfl) (B 77 _ rfl) (B 78 _ rfl)) ml_X12_291 mv_X12_partOf hM.k (Nat.le_of_ble_eq_true rfl) (n := 79) rfl (hS _ _ _ _ _ _ _ _ _ _ _ _ _ _ _ _ _ _ _ _ hM hE hN hlt hx3 hlv hb0 ?_)
          · refine Vw.lstore (lv2 := [(0, _), (1, _), (2, _), (4, _), (5, _)]) (de_lstore (B 79 _ rfl) (B 80 _ rfl)) (by decide) [1, 2, 3, 4, 0] rfl (n := 81) rfl ?_
            refine Vw.iload (de_iload (B 81 _ rfl) (B 82 _ rfl)) 3 rfl (n := 83) rfl ?_
            refine Vw.bipush (v := 42) (de_bipush (B 83 _ rfl) (B 84 _ rfl)) rfl (n := 85) rfl ?_
            refine Vw.isi1 (mi' := mX12_sign) (de_invokestatic (B 85 _ rfl) (B 86 _ rfl) (B 87 _ rfl)) ml_X12_239 ms_X12_sign (Nat.le_of_ble_eq_true rfl) (n := 88) rfl (c_X12_sign ?_)
            rw [show (100 + 42 : Int32) = 142 from rfl]
            refine Vw.icmp_eq (tgt := 121) (n := 91) (de_icmp_eq (B 88 _ rfl) (B 89 _ rfl) (B 90 _ rfl)) rfl rfl (fun c_88 => ?_) (fun c_88 => ?_)
            · first
              | exact fin _ _ (evB_01 hb0) (Or.inl c_88) (s1 (Or.inl c_88))
              | exact fin _ _ (evB_01 hb0) (Or.inr (fun q => c_95 ((lg_cmp_eq _ _).mpr q))) (s1 (Or.inr (fun q => c_95 ((lg_cmp_eq _ _).mpr q))))
              | (rw [em_ub]; exact fin 1 1 (Or.inr rfl) (Or.inr (by decide)) (s2 c_88 ((lg_cmp_eq _ _).mp c_95) 1 (by rw [if_pos c_103])))
              | (rw [em_ub]; exact fin 1 1 (Or.inr rfl) (Or.inr (by decide)) (s2 c_88 ((lg_cmp_eq _ _).mp c_95) 1 (by rw [if_neg (fun q => q c_103), if_neg c_107])))
              | (rw [em_ub]; exact fin 1 0 (Or.inl rfl) (Or.inr (by decide)) (s2 c_88 ((lg_cmp_eq _ _).mp c_95) 0 (by rw [if_neg (fun q => q c_103), if_pos c_107])))
            refine Vw.lload (de_lload (B 91 _ rfl) (B 92 _ rfl)) 4 rfl (n := 93) rfl ?_
            refine Vw.lconst (v := 0) (de_lconst_0 (B 93 _ rfl)) rfl (n := 94) rfl ?_
            refine Vw.lcmp (de_lcmp (B 94 _ rfl)) (n := 95) rfl ?_
            refine Vw.if_ne (tgt := 121) (n := 98) (de_if_ne (B 95 _ rfl) (B 96 _ rfl) (B 97 _ rfl)) rfl rfl (fun c_95 => ?_) (fun c_95 => ?_)
            · first
              | exact fin _ _ (evB_01 hb0) (Or.inl c_88) (s1 (Or.inl c_88))
              | exact fin _ _ (evB_01 hb0) (Or.inr (fun q => c_95 ((lg_cmp_eq _ _).mpr q))) (s1 (Or.inr (fun q => c_95 ((lg_cmp_eq _ _).mpr q))))
              | (rw [em_ub]; exact fin 1 1 (Or.inr rfl) (Or.inr (by decide)) (s2 c_88 ((lg_cmp_eq _ _).mp c_95) 1 (by rw [if_pos c_103])))
              | (rw [em_ub]; exact fin 1 1 (Or.inr rfl) (Or.inr (by decide)) (s2 c_88 ((lg_cmp_eq _ _).mp c_95) 1 (by rw [if_neg (fun q => q c_103), if_neg c_107])))
              | (rw [em_ub]; exact fin 1 0 (Or.inl rfl) (Or.inr (by decide)) (s2 c_88 ((lg_cmp_eq _ _).mp c_95) 0 (by rw [if_neg (fun q => q c_103), if_pos c_107])))
            refine Vw.aload_n (de_aload_0 (B 98 _ rfl)) 0 rfl (n := 99) rfl ?_
            refine Vw.aload_n (de_aload_0 (B 99 _ rfl)) 0 rfl (n := 100) rfl ?_
            refine Vw.getI (de_getfield (B 100 _ rfl) (B 101 _ rfl) (B 102 _ rfl)) fl_X12_280 rfl hM.k (n := 103) rfl ?_
            rw [em_b]
            refine Vw.if_ne (tgt := 110) (n := 106) (de_if_ne (B 103 _ rfl) (B 104 _ rfl) (B 105 _ rfl)) rfl rfl (fun c_103 => ?_) (fun c_103 => ?_)
            · refine Vw.iconst (v := 1) (de_iconst_1 (B 110 _ rfl)) rfl (n := 111) rfl ?_
              refine Vw.goto_ (n := 115) (de_goto_ (B 111 _ rfl) (B 112 _ rfl) (B 113 _ rfl)) rfl ?_
              refine Vw.putZ (de_putfield (B 115 _ rfl) (B 116 _ rfl) (B 117 _ rfl)) fl_X12_280 hM.k rfl rfl rfl rfl (n := 118) rfl ?_
              refine Vw.lconst (v := 1) (de_lconst_1 (B 118 _ rfl)) rfl (n := 119) rfl ?_
              refine Vw.lstore (lv2 := [(0, _), (1, _), (2, _), (4, _), (5, _)]) (de_lstore (B 119 _ rfl) (B 120 _ rfl)) (by decide) [1, 2, 3, 4, 0] rfl (n := 121) rfl ?_
              first
              | exact fin _ _ (evB_01 hb0) (Or.inl c_88) (s1 (Or.inl c_88))
              | exact fin _ _ (evB_01 hb0) (Or.inr (fun q => c_95 ((lg_cmp_eq _ _).mpr q))) (s1 (Or.inr (fun q => c_95 ((lg_cmp_eq _ _).mpr q))))
              | (rw [em_ub]; exact fin 1 1 (Or.inr rfl) (Or.inr (by decide)) (s2 c_88 ((lg_cmp_eq _ _).mp c_95) 1 (by rw [if_pos c_103])))
              | (rw [em_ub]; exact fin 1 1 (Or.inr rfl) (Or.inr (by decide)) (s2 c_88 ((lg_cmp_eq _ _).mp c_95) 1 (by rw [if_neg (fun q => q c_103), if_neg c_107])))
              | (rw [em_ub]; exact fin 1 0 (Or.inl rfl) (Or.inr (by decide)) (s2 c_88 ((lg_cmp_eq _ _).mp c_95) 0 (by rw [if_neg (fun q => q c_103), if_pos c_107])))
            refine Vw.iload_n (de_iload_1 (B 106 _ rfl)) 1 rfl (n := 107) rfl ?_
            refine Vw.if_eq (tgt := 114) (n := 110) (de_if_eq (B 107 _ rfl) (B 108 _ rfl) (B 109 _ rfl)) rfl rfl (fun c_107 => ?_) (fun c_107 => ?_)
            · refine Vw.iconst (v := 0) (de_iconst_0 (B 114 _ rfl)) rfl (n := 115) rfl ?_
              refine Vw.putZ (de_putfield (B 115 _ rfl) (B 116 _ rfl) (B 117 _ rfl)) fl_X12_280 hM.k rfl rfl rfl rfl (n := 118) rfl ?_
              refine Vw.lconst (v := 1) (de_lconst_1 (B 118 _ rfl)) rfl (n := 119) rfl ?_
              refine Vw.lstore (lv2 := [(0, _), (1, _), (2, _), (4, _), (5, _)]) (de_lstore (B 119 _ rfl) (B 120 _ rfl)) (by decide) [1, 2, 3, 4, 0] rfl (n := 121) rfl ?_
              first
              | exact fin _ _ (evB_01 hb0) (Or.inl c_88) (s1 (Or.inl c_88))
              | exact fin _ _ (evB_01 hb0) (Or.inr (fun q => c_95 ((lg_cmp_eq _ _).mpr q))) (s1 (Or.inr (fun q => c_95 ((lg_cmp_eq _ _).mpr q))))
              | (rw [em_ub]; exact fin 1 1 (Or.inr rfl) (Or.inr (by decide)) (s2 c_88 ((lg_cmp_eq _ _).mp c_95) 1 (by rw [if_pos c_103])))
              | (rw [em_ub]; exact fin 1 1 (Or.inr rfl) (Or.inr (by decide)) (s2 c_88 ((lg_cmp_eq _ _).mp c_95) 1 (by rw [if_neg (fun q => q c_103), if_neg c_107])))
              | (rw [em_ub]; exact fin 1 0 (Or.inl rfl) (Or.inr (by decide)) (s2 c_88 ((lg_cmp_eq _ _).mp c_95) 0 (by rw [if_neg (fun q => q c_103), if_pos c_107])))
            refine Vw.iconst (v := 1) (de_iconst_1 (B 110 _ rfl)) rfl (n := 111) rfl ?_
            refine Vw.goto_ (n := 115) (de_goto_ (B 111 _ rfl) (B 112 _ rfl) (B 113 _ rfl)) rfl ?_
            refine Vw.putZ (de_putfield (B 115 _ rfl) (B 116 _ rfl) (B 117 _ rfl)) fl_X12_280 hM.k rfl rfl rfl rfl (n := 118) rfl ?_
            refine Vw.lconst (v := 1) (de_lconst_1 (B 118 _ rfl)) rfl (n := 119) rfl ?_
            refine Vw.lstore (lv2 := [(0, _), (1, _), (2, _), (4, _), (5, _)]) (de_lstore (B 119 _ rfl) (B 120 _ rfl)) (by decide) [1, 2, 3, 4, 0] rfl (n := 121) rfl ?_
            first
            | exact fin _ _ (evB_01 hb0) (Or.inl c_88) (s1 (Or.inl c_88))
            | exact fin _ _ (evB_01 hb0) (Or.inr (fun q => c_95 ((lg_cmp_eq _ _).mpr q))) (s1 (Or.inr (fun q => c_95 ((lg_cmp_eq _ _).mpr q))))
            | (rw [em_ub]; exact fin 1 1 (Or.inr rfl) (Or.inr (by decide)) (s2 c_88 ((lg_cmp_eq _ _).mp c_95) 1 (by rw [if_pos c_103])))
            | (rw [em_ub]; exact fin 1 1 (Or.inr rfl) (Or.inr (by decide)) (s2 c_88 ((lg_cmp_eq _ _).mp c_95) 1 (by rw [if_neg (fun q => q c_103), if_neg c_107])))
            | (rw [em_ub]; exact fin 1 0 (Or.inl rfl) (Or.inr (by decide)) (s2 c_88 ((lg_cmp_eq _ _).mp c_95) 0 (by rw [if_neg (fun q => q c_103), if_pos c_107])))
        refine Vw.aload_n (de_aload_0 (B 6 _ rfl)) 0 rfl (n := 7) rfl ?_
        refine Vw.aload_n (de_aload_0 (B 7 _ rfl)) 0 rfl (n := 8) rfl ?_
        refine Vw.getI (de_getfield (B 8 _ rfl) (B 9 _ rfl) (B 10 _ rfl)) fl_X12_270 rfl hM.k (n := 11) rfl ?_
        rw [em_g]
        refine Vw.ivi1 (mi' := mX12_codeAt) (de_invokevirtual (B 11 _ rfl) (B 12 _ rfl) (B 13 _ rfl)) ml_X12_273 mv_X12_codeAt hM.k (Nat.le_of_ble_eq_true rfl) (n := 14) rfl (c_X12_codeAt hM hE hj ?_)
        refine Vw.bipush (v := 42) (de_bipush (B 14 _ rfl) (B 15 _ rfl)) rfl (n := 16) rfl ?_
        refine Vw.isi1 (mi' := mX12_sign) (de_invokestatic (B 16 _ rfl) (B 17 _ rfl) (B 18 _ rfl)) ml_X12_239 ms_X12_sign (Nat.le_of_ble_eq_true rfl) (n := 19) rfl (c_X12_sign ?_)
        rw [show (100 + 42 : Int32) = 142 from rfl]
        refine Vw.icmp_eq (tgt := 54) (n := 22) (de_icmp_eq (B 19 _ rfl) (B 20 _ rfl) (B 21 _ rfl)) rfl rfl (fun c_19 => ?_) (fun c_19 => ?_)
        · exact go
        refine Vw.aload_n (de_aload_0 (B 22 _ rfl)) 0 rfl (n := 23) rfl ?_
        refine Vw.aload_n (de_aload_0 (B 23 _ rfl)) 0 rfl (n := 24) rfl ?_
        refine Vw.getI (de_getfield (B 24 _ rfl) (B 25 _ rfl) (B 26 _ rfl)) fl_X12_270 rfl hM.k (n := 27) rfl ?_
        rw [em_g]
        refine Vw.ivi1 (mi' := mX12_codeAt) (de_invokevirtual (B 27 _ rfl) (B 28 _ rfl) (B 29 _ rfl)) ml_X12_273 mv_X12_codeAt hM.k (Nat.le_of_ble_eq_true rfl) (n := 30) rfl (c_X12_codeAt hM hE hj ?_)
        refine Vw.bipush (v := 47) (de_bipush (B 30 _ rfl) (B 31 _ rfl)) rfl (n := 32) rfl ?_
        refine Vw.isi1 (mi' := mX12_sign) (de_invokestatic (B 32 _ rfl) (B 33 _ rfl) (B 34 _ rfl)) ml_X12_239 ms_X12_sign (Nat.le_of_ble_eq_true rfl) (n := 35) rfl (c_X12_sign ?_)
        rw [show (100 + 47 : Int32) = 147 from rfl]
        refine Vw.icmp_eq (tgt := 54) (n := 38) (de_icmp_eq (B 35 _ rfl) (B 36 _ rfl) (B 37 _ rfl)) rfl rfl (fun c_35 => ?_) (fun c_35 => ?_)
        · exact go
        refine Vw.aload_n (de_aload_0 (B 38 _ rfl)) 0 rfl (n := 39) rfl ?_
        refine Vw.aload_n (de_aload_0 (B 39 _ rfl)) 0 rfl (n := 40) rfl ?_
        refine Vw.getI (de_getfield (B 40 _ rfl) (B 41 _ rfl) (B 42 _ rfl)) fl_X12_270 rfl hM.k (n := 43) rfl ?_
        rw [em_g]
        refine Vw.ivi1 (mi' := mX12_codeAt) (de_invokevirtual (B 43 _ rfl) (B 44 _ rfl) (B 45 _ rfl)) ml_X12_273 mv_X12_codeAt hM.k (Nat.le_of_ble_eq_true rfl) (n := 46) rfl (c_X12_codeAt hM hE hj ?_)
        refine Vw.bipush (v := 37) (de_bipush (B 46 _ rfl) (B 47 _ rfl)) rfl (n := 48) rfl ?_
        refine Vw.isi1 (mi' := mX12_sign) (de_invokestatic (B 48 _ rfl) (B 49 _ rfl) (B 50 _ rfl)) ml_X12_239 ms_X12_sign (Nat.le_of_ble_eq_true rfl) (n := 51) rfl (c_X12_sign ?_)
        rw [show (100 + 37 : Int32) = 137 from rfl]
        refine Vw.icmp_ne (tgt := 168) (n := 54) (de_icmp_ne (B 51 _ rfl) (B 52 _ rfl) (B 53 _ rfl)) rfl rfl (fun c_51 => ?_) (fun c_51 => ?_)
        · exact absurd hc (by rintro (q | q | q); exact c_19 q; exact c_35 q; exact c_51 q)
        exact go
  obtain ⟨j0, l0, d0, hx0, hc0⟩ := pMany_inv hP
  have hj0 := hX _ _ _ _ _ hi hx0
  refine Vw.aload_n (de_aload_0 (B 0 _ rfl)) 0 rfl (n := 1) rfl ?_
  refine Vw.iload_n (de_iload_1 (B 1 _ rfl)) 1 rfl (n := 2) rfl ?_
  refine Vw.ivl1 (mi' := mX12_partOf) (de_invokevirtual (B 2 _ rfl) (B 3 _ rfl) (B 4 _ rfl)) ml_X12_291 mv_X12_partOf hM.k (Nat.le_of_ble_eq_true rfl) (n := 5) rfl (hS _ _ _ _ _ _ _ _ _ _ _ _ _ _ _ _ _ _ _ _ hM hE hN hi hx0 hlv hb ?_)
  · refine Vw.lstore_n (lv2 := [(0, _), (1, _), (2, _)]) (de_lstore_2 (B 5 _ rfl)) rfl (by decide) [1, 2, 0] rfl (n := 6) rfl ?_
    exact loop 402 j0 l0 d0 hj0.2 (by omega) hc0
theorem ec_sum {D : Nat} {P : (Nat → Int32) → (Nat → Int32) → Bool → Nat → Nat → tR tD} (hB : ∀ cd vl o nt, cd nt = 0 → Bd nt (P cd vl o)) (hS : EC mX12_termOf (D + 4) P) : EC mX12_sumOf (D + 5) (fun cd vl o => pMany cd opS tBin (P cd vl o)) := by
  intro d S I L Q r bs nt np cd vl o nv i l j l2 dn lv b hM hE hN hi hP hlv hb h
  refine Vc.of rfl (Nat.le_of_ble_eq_true rfl) ?_
  have B := bs_X12_sumOf
  show Vw mX12_sumOf (d + (D + 5)) 0 0 0 0 (VlQ Q) 0 [(0, .ref r), (1, .int lv)] [] S (em I r (nI (bs + i)) b) L
  have hE2 := hE.2.2
  have hX := hB cd vl o nt hE.2.1
  have loop : ∀ f j0 l0 d0, j0 ≤ nt → nt < j0 + f → pChain cd opS tBin (P cd vl o) f j0 l0 d0 = .ok (j, l2, dn) → Vw mX12_sumOf (d + (D + 5)) 0 0 0 0 (VlQ Q) 6 [(0, .ref r), (1, .int lv), (2, .long (evV lv b d0 nv))] [] S (em I r (nI (bs + j0)) (evB lv b d0 nv)) L := by
    intro f
    induction f with
    | zero => intro j0 l0 d0 h1 h2; exact absurd h2 (by omega)
    | succ f ih =>
      intro j0 l0 d0 hj hf hC
      have hb0 := evB_01 (lv := lv) (dn := d0) (nv := nv) hb
      rcases pChain_inv hC with ⟨ho, e1, e2, e3⟩ | ⟨ho, j3, l3, d3, hx3, hc3⟩
      · subst e1; subst e3
        have n1 : ¬ cd j0 = 143 := fun q => ho (by rw [q]; decide)
        have n2 : ¬ cd j0 = 145 := fun q => ho (by rw [q]; decide)
        refine Vw.aload_n (de_aload_0 (B 6 _ rfl)) 0 rfl (n := 7) rfl ?_
        refine Vw.aload_n (de_aload_0 (B 7 _ rfl)) 0 rfl (n := 8) rfl ?_
        refine Vw.getI (de_getfield (B 8 _ rfl) (B 9 _ rfl) (B 10 _ rfl)) fl_X12_270 rfl hM.k (n := 11) rfl ?_
        rw [em_g]
        refine Vw.ivi1 (mi' := mX12_codeAt) (de_invokevirtual (B 11 _ rfl) (B 12 _ rfl) (B 13 _ rfl)) ml_X12_273 mv_X12_codeAt hM.k (Nat.le_of_ble_eq_true rfl) (n := 14) rfl (c_X12_codeAt hM hE hj ?_)
        refine Vw.bipush (v := 43) (de_bipush (B 14 _ rfl) (B 15 _ rfl)) rfl (n := 16) rfl ?_
        refine Vw.isi1 (mi' := mX12_sign) (de_invokestatic (B 16 _ rfl) (B 17 _ rfl) (B 18 _ rfl)) ml_X12_239 ms_X12_sign (Nat.le_of_ble_eq_true rfl) (n := 19) rfl (c_X12_sign ?_)
        rw [show (100 + 43 : Int32) = 143 from rfl]
        refine Vw.icmp_eq (tgt := 38) (n := 22) (de_icmp_eq (B 19 _ rfl) (B 20 _ rfl) (B 21 _ rfl)) rfl rfl (fun c_19 => ?_) (fun c_19 => ?_)
        · exact absurd c_19 n1
        refine Vw.aload_n (de_aload_0 (B 22 _ rfl)) 0 rfl (n := 23) rfl ?_
        refine Vw.aload_n (de_aload_0 (B 23 _ rfl)) 0 rfl (n := 24) rfl ?_
        refine Vw.getI (de_getfield (B 24 _ rfl) (B 25 _ rfl) (B 26 _ rfl)) fl_X12_270 rfl hM.k (n := 27) rfl ?_
        rw [em_g]
        refine Vw.ivi1 (mi' := mX12_codeAt) (de_invokevirtual (B 27 _ rfl) (B 28 _ rfl) (B 29 _ rfl)) ml_X12_273 mv_X12_codeAt hM.k (Nat.le_of_ble_eq_true rfl) (n := 30) rfl (c_X12_codeAt hM hE hj ?_)
        refine Vw.bipush (v := 45) (de_bipush (B 30 _ rfl) (B 31 _ rfl)) rfl (n := 32) rfl ?_
        refine Vw.isi1 (mi' := mX12_sign) (de_invokestatic (B 32 _ rfl) (B 33 _ rfl) (B 34 _ rfl)) ml_X12_239 ms_X12_sign (Nat.le_of_ble_eq_true rfl) (n := 35) rfl (c_X12_sign ?_)
        rw [show (100 + 45 : Int32) = 145 from rfl]
        refine Vw.icmp_ne (tgt := 103) (n := 38) (de_icmp_ne (B 35 _ rfl) (B 36 _ rfl) (B 37 _ rfl)) rfl rfl (fun c_35 => ?_) (fun c_35 => ?_)
        · refine Vw.lload_n (de_lload_2 (B 103 _ rfl)) 2 rfl (n := 104) rfl ?_
          exact Vw.lret (de_lreturn (B 104 _ rfl)) rfl ⟨_, rfl, h⟩
        exact absurd c_35 n2
      · have hc : cd j0 = 143 ∨ cd j0 = 145 := by simpa [opS] using ho
        have hlt := hE.lt hj (by rcases hc with q | q <;> rw [q] <;> decide)
        have hj3 := hX _ _ _ _ _ hlt hx3
        have hst := stepS (d0 := d0) (d2 := d3) (nv := nv) hlv hb hc
        have go : Vw mX12_sumOf (d + (D + 5)) 0 0 0 0 (VlQ Q) 38 [(0, .ref r), (1, .int lv), (2, .long (evV lv b d0 nv))] [] S (em I r (nI (bs + j0)) (evB lv b d0 nv)) L := by
          refine Vw.aload_n (de_aload_0 (B 38 _ rfl)) 0 rfl (n := 39) rfl ?_
          refine Vw.aload_n (de_aload_0 (B 39 _ rfl)) 0 rfl (n := 40) rfl ?_
          refine Vw.getI (de_getfield (B 40 _ rfl) (B 41 _ rfl) (B 42 _ rfl)) fl_X12_270 rfl hM.k (n := 43) rfl ?_
          rw [em_g]
          refine Vw.ivi1 (mi' := mX12_codeAt) (de_invokevirtual (B 43 _ rfl) (B 44 _ rfl) (B 45 _ rfl)) ml_X12_273 mv_X12_codeAt hM.k (Nat.le_of_ble_eq_true rfl) (n := 46) rfl (c_X12_codeAt hM hE hj ?_)
          refine Vw.bipush (v := 43) (de_bipush (B 46 _ rfl) (B 47 _ rfl)) rfl (n := 48) rfl ?_
          refine Vw.isi1 (mi' := mX12_sign) (de_invokestatic (B 48 _ rfl) (B 49 _ rfl) (B 50 _ rfl)) ml_X12_239 ms_X12_sign (Nat.le_of_ble_eq_true rfl) (n := 51) rfl (c_X12_sign ?_)
          rw [show (100 + 43 : Int32) = 143 from rfl]
          refine Vw.icmp_ne (tgt := 58) (n := 54) (de_icmp_ne (B 51 _ rfl) (B 52 _ rfl) (B 53 _ rfl)) rfl rfl (fun c_51 => ?_) (fun c_51 => ?_)
          · refine Vw.iconst (v := 0) (de_iconst_0 (B 58 _ rfl)) rfl (n := 59) rfl ?_
            refine Vw.istore (lv2 := [(0, _), (1, _), (2, _), (4, _)]) (de_istore (B 59 _ rfl) (B 60 _ rfl)) (by decide) [1, 2, 3, 0] rfl (n := 61) rfl ?_
            refine Vw.aload_n (de_aload_0 (B 61 _ rfl)) 0 rfl (n := 62) rfl ?_
            refine Vw.dup (de_dup (B 62 _ rfl)) rfl (n := 63) rfl ?_
            refine Vw.getI (de_getfield (B 63 _ rfl) (B 64 _ rfl) (B 65 _ rfl)) fl_X12_270 rfl hM.k (n := 66) rfl ?_
            rw [em_g]
            refine Vw.iconst (v := 1) (de_iconst_1 (B 66 _ rfl)) rfl (n := 67) rfl ?_
            refine Vw.iadd (de_iadd (B 67 _ rfl)) (n := 68) rfl ?_
            refine Vw.putI (de_putfield (B 68 _ rfl) (B 69 _ rfl) (B 70 _ rfl)) fl_X12_270 hM.k rfl rfl (n := 71) rfl ?_
            rw [em_inc]
            refine Vw.aload_n (de_aload_0 (B 71 _ rfl)) 0 rfl (n := 72) rfl ?_
            refine Vw.iload_n (de_iload_1 (B 72 _ rfl)) 1 rfl (n := 73) rfl ?_
            refine Vw.ivl1 (mi' := mX12_termOf) (de_invokevirtual (B 73 _ rfl) (B 74 _ rfl) (B 75 _ rfl)) ml_X12_283 mv_X12_termOf hM.k (Nat.le_of_ble_eq_true rfl) (n := 76) rfl (hS _ _ _ _ _ _ _ _ _ _ _ _ _ _ _ _ _ _ _ _ hM hE hN hlt hx3 hlv hb0 ?_)
            · refine Vw.lstore (lv2 := [(0, _), (1, _), (2, _), (4, _), (5, _)]) (de_lstore (B 76 _ rfl) (B 77 _ rfl)) (by decide) [1, 2, 3, 4, 0] rfl (n := 78) rfl ?_
              refine Vw.aload_n (de_aload_0 (B 78 _ rfl)) 0 rfl (n := 79) rfl ?_
              refine Vw.iload (de_iload (B 79 _ rfl) (B 80 _ rfl)) 3 rfl (n := 81) rfl ?_
              refine Vw.if_eq (tgt := 91) (n := 84) (de_if_eq (B 81 _ rfl) (B 82 _ rfl) (B 83 _ rfl)) rfl rfl (fun c_81 => ?_) (fun c_81 => ?_)
              · refine Vw.lload_n (de_lload_2 (B 91 _ rfl)) 2 rfl (n := 92) rfl ?_
                refine Vw.lload (de_lload (B 92 _ rfl) (B 93 _ rfl)) 4 rfl (n := 94) rfl ?_
                refine Vw.lsub (de_lsub (B 94 _ rfl)) (n := 95) rfl ?_
                refine Vw.iload_n (de_iload_1 (B 95 _ rfl)) 1 rfl (n := 96) rfl ?_
                refine Vw.ivl2 (mi' := mX12_bounded) (de_invokevirtual (B 96 _ rfl) (B 97 _ rfl) (B 98 _ rfl)) ml_X12_287 mv_X12_bounded hM.k (Nat.le_of_ble_eq_true rfl) (n := 99) rfl (c_X12_bounded hM hlv (evB_01 hb0) ?_)
                · refine Vw.lstore_n (lv2 := [(0, _), (1, _), (2, _), (4, _), (5, _)]) (de_lstore_2 (B 99 _ rfl)) rfl (by decide) [1, 2, 0, 3, 4] rfl (n := 100) rfl ?_
                  refine Vw.goto_ (n := 6) (de_goto_ (B 100 _ rfl) (B 101 _ rfl) (B 102 _ rfl)) rfl ?_
                  refine Vw.lvs (lv2 := [(0, _), (1, _), (2, _)]) [0, 1, 2] rfl ?_
                  have hv := hst
                  unfold stepOk opS2 at hv
                  first
                  | (rw [if_pos c_51] at hv; rw [hv.2, hv.1]; exact ih j3 l3 _ hj3.2 (by omega) hc3)
                  | (rw [if_neg c_51] at hv; rw [hv.2, hv.1]; exact ih j3 l3 _ hj3.2 (by omega) hc3)
                  | exact absurd c_81 (by decide)
                  | exact absurd rfl c_81
              refine Vw.lload_n (de_lload_2 (B 84 _ rfl)) 2 rfl (n := 85) rfl ?_
              refine Vw.lload (de_lload (B 85 _ rfl) (B 86 _ rfl)) 4 rfl (n := 87) rfl ?_
              refine Vw.ladd (de_ladd (B 87 _ rfl)) (n := 88) rfl ?_
              refine Vw.goto_ (n := 95) (de_goto_ (B 88 _ rfl) (B 89 _ rfl) (B 90 _ rfl)) rfl ?_
              refine Vw.iload_n (de_iload_1 (B 95 _ rfl)) 1 rfl (n := 96) rfl ?_
              refine Vw.ivl2 (mi' := mX12_bounded) (de_invokevirtual (B 96 _ rfl) (B 97 _ rfl) (B 98 _ rfl)) ml_X12_287 mv_X12_bounded hM.k (Nat.le_of_ble_eq_true rfl) (n := 99) rfl (c_X12_bounded hM hlv (evB_01 hb0) ?_)
              · refine Vw.lstore_n (lv2 := [(0, _), (1, _), (2, _), (4, _), (5, _)]) (de_lstore_2 (B 99 _ rfl)) rfl (by decide) [1, 2, 0, 3, 4] rfl (n := 100) rfl ?_
                refine Vw.goto_ (n := 6) (de_goto_ (B 100 _ rfl) (B 101 _ rfl) (B 102 _ rfl)) rfl ?_
                refine Vw.lvs (lv2 := [(0, _), (1, _), (2, _)]) [0, 1, 2] rfl ?_
                have hv := hst
                unfold stepOk opS2 at hv
                first
                | (rw [if_pos c_51] at hv; rw [hv.2, hv.1]; exact ih j3 l3 _ hj3.2 (by omega) hc3)
                | (rw [if_neg c_51] at hv; rw [hv.2, hv.1]; exact ih j3 l3 _ hj3.2 (by omega) hc3)
                | exact absurd c_81 (by decide)
                | exact absurd rfl c_81
          refine Vw.iconst (v := 1) (de_iconst_1 (B 54 _ rfl)) rfl (n := 55) rfl ?_
          refine Vw.goto_ (n := 59) (de_goto_ (B 55 _ rfl) (B 56 _ rfl) (B 57 _ rfl)) rfl ?_
          refine Vw.istore (lv2 := [(0, _), (1, _), (2, _), (4, _)]) (de_istore (B 59 _ rfl) (B 60 _ rfl)) (by decide) [1, 2, 3, 0] rfl (n := 61) rfl ?_
          refine Vw.aload_n (de_aload_0 (B 61 _ rfl)) 0 rfl (n := 62) rfl ?_
          refine Vw.dup (de_dup (B 62 _ rfl)) rfl (n := 63) rfl ?_
          refine Vw.getI (de_getfield (B 63 _ rfl) (B 64 _ rfl) (B 65 _ rfl)) fl_X12_270 rfl hM.k (n := 66) rfl ?_
          rw [em_g]
          refine Vw.iconst (v := 1) (de_iconst_1 (B 66 _ rfl)) rfl (n := 67) rfl ?_
          refine Vw.iadd (de_iadd (B 67 _ rfl)) (n := 68) rfl ?_
          refine Vw.putI (de_putfield (B 68 _ rfl) (B 69 _ rfl) (B 70 _ rfl)) fl_X12_270 hM.k rfl rfl (n := 71) rfl ?_
          rw [em_inc]
          refine Vw.aload_n (de_aload_0 (B 71 _ rfl)) 0 rfl (n := 72) rfl ?_
          refine Vw.iload_n (de_iload_1 (B 72 _ rfl)) 1 rfl (n := 73) rfl ?_
          refine Vw.ivl1 (mi' := mX12_termOf) (de_invokevirtual (B 73 _ rfl) (B 74 _ rfl) (B 75 _ rfl)) ml_X12_283 mv_X12_termOf hM.k (Nat.le_of_ble_eq_true rfl) (n := 76) rfl (hS _ _ _ _ _ _ _ _ _ _ _ _ _ _ _ _ _ _ _ _ hM hE hN hlt hx3 hlv hb0 ?_)
          · refine Vw.lstore (lv2 := [(0, _), (1, _), (2, _), (4, _), (5, _)]) (de_lstore (B 76 _ rfl) (B 77 _ rfl)) (by decide) [1, 2, 3, 4, 0] rfl (n := 78) rfl ?_
            refine Vw.aload_n (de_aload_0 (B 78 _ rfl)) 0 rfl (n := 79) rfl ?_
            refine Vw.iload (de_iload (B 79 _ rfl) (B 80 _ rfl)) 3 rfl (n := 81) rfl ?_
            refine Vw.if_eq (tgt := 91) (n := 84) (de_if_eq (B 81 _ rfl) (B 82 _ rfl) (B 83 _ rfl)) rfl rfl (fun c_81 => ?_) (fun c_81 => ?_)
            · refine Vw.lload_n (de_lload_2 (B 91 _ rfl)) 2 rfl (n := 92) rfl ?_
              refine Vw.lload (de_lload (B 92 _ rfl) (B 93 _ rfl)) 4 rfl (n := 94) rfl ?_
              refine Vw.lsub (de_lsub (B 94 _ rfl)) (n := 95) rfl ?_
              refine Vw.iload_n (de_iload_1 (B 95 _ rfl)) 1 rfl (n := 96) rfl ?_
              refine Vw.ivl2 (mi' := mX12_bounded) (de_invokevirtual (B 96 _ rfl) (B 97 _ rfl) (B 98 _ rfl)) ml_X12_287 mv_X12_bounded hM.k (Nat.le_of_ble_eq_true rfl) (n := 99) rfl (c_X12_bounded hM hlv (evB_01 hb0) ?_)
              · refine Vw.lstore_n (lv2 := [(0, _), (1, _), (2, _), (4, _), (5, _)]) (de_lstore_2 (B 99 _ rfl)) rfl (by decide) [1, 2, 0, 3, 4] rfl (n := 100) rfl ?_
                refine Vw.goto_ (n := 6) (de_goto_ (B 100 _ rfl) (B 101 _ rfl) (B 102 _ rfl)) rfl ?_
                refine Vw.lvs (lv2 := [(0, _), (1, _), (2, _)]) [0, 1, 2] rfl ?_
                have hv := hst
                unfold stepOk opS2 at hv
                first
                | (rw [if_pos c_51] at hv; rw [hv.2, hv.1]; exact ih j3 l3 _ hj3.2 (by omega) hc3)
                | (rw [if_neg c_51] at hv; rw [hv.2, hv.1]; exact ih j3 l3 _ hj3.2 (by omega) hc3)
                | exact absurd c_81 (by decide)
                | exact absurd rfl c_81
            refine Vw.lload_n (de_lload_2 (B 84 _ rfl)) 2 rfl (n := 85) rfl ?_
            refine Vw.lload (de_lload (B 85 _ rfl) (B 86 _ rfl)) 4 rfl (n := 87) rfl ?_
            refine Vw.ladd (de_ladd (B 87 _ rfl)) (n := 88) rfl ?_
            refine Vw.goto_ (n := 95) (de_goto_ (B 88 _ rfl) (B 89 _ rfl) (B 90 _ rfl)) rfl ?_
            refine Vw.iload_n (de_iload_1 (B 95 _ rfl)) 1 rfl (n := 96) rfl ?_
            refine Vw.ivl2 (mi' := mX12_bounded) (de_invokevirtual (B 96 _ rfl) (B 97 _ rfl) (B 98 _ rfl)) ml_X12_287 mv_X12_bounded hM.k (Nat.le_of_ble_eq_true rfl) (n := 99) rfl (c_X12_bounded hM hlv (evB_01 hb0) ?_)
            · refine Vw.lstore_n (lv2 := [(0, _), (1, _), (2, _), (4, _), (5, _)]) (de_lstore_2 (B 99 _ rfl)) rfl (by decide) [1, 2, 0, 3, 4] rfl (n := 100) rfl ?_
              refine Vw.goto_ (n := 6) (de_goto_ (B 100 _ rfl) (B 101 _ rfl) (B 102 _ rfl)) rfl ?_
              refine Vw.lvs (lv2 := [(0, _), (1, _), (2, _)]) [0, 1, 2] rfl ?_
              have hv := hst
              unfold stepOk opS2 at hv
              first
              | (rw [if_pos c_51] at hv; rw [hv.2, hv.1]; exact ih j3 l3 _ hj3.2 (by omega) hc3)
              | (rw [if_neg c_51] at hv; rw [hv.2, hv.1]; exact ih j3 l3 _ hj3.2 (by omega) hc3)
              | exact absurd c_81 (by decide)
              | exact absurd rfl c_81
        refine Vw.aload_n (de_aload_0 (B 6 _ rfl)) 0 rfl (n := 7) rfl ?_
        refine Vw.aload_n (de_aload_0 (B 7 _ rfl)) 0 rfl (n := 8) rfl ?_
        refine Vw.getI (de_getfield (B 8 _ rfl) (B 9 _ rfl) (B 10 _ rfl)) fl_X12_270 rfl hM.k (n := 11) rfl ?_
        rw [em_g]
        refine Vw.ivi1 (mi' := mX12_codeAt) (de_invokevirtual (B 11 _ rfl) (B 12 _ rfl) (B 13 _ rfl)) ml_X12_273 mv_X12_codeAt hM.k (Nat.le_of_ble_eq_true rfl) (n := 14) rfl (c_X12_codeAt hM hE hj ?_)
        refine Vw.bipush (v := 43) (de_bipush (B 14 _ rfl) (B 15 _ rfl)) rfl (n := 16) rfl ?_
        refine Vw.isi1 (mi' := mX12_sign) (de_invokestatic (B 16 _ rfl) (B 17 _ rfl) (B 18 _ rfl)) ml_X12_239 ms_X12_sign (Nat.le_of_ble_eq_true rfl) (n := 19) rfl (c_X12_sign ?_)
        rw [show (100 + 43 : Int32) = 143 from rfl]
        refine Vw.icmp_eq (tgt := 38) (n := 22) (de_icmp_eq (B 19 _ rfl) (B 20 _ rfl) (B 21 _ rfl)) rfl rfl (fun c_19 => ?_) (fun c_19 => ?_)
        · exact go
        refine Vw.aload_n (de_aload_0 (B 22 _ rfl)) 0 rfl (n := 23) rfl ?_
        refine Vw.aload_n (de_aload_0 (B 23 _ rfl)) 0 rfl (n := 24) rfl ?_
        refine Vw.getI (de_getfield (B 24 _ rfl) (B 25 _ rfl) (B 26 _ rfl)) fl_X12_270 rfl hM.k (n := 27) rfl ?_
        rw [em_g]
        refine Vw.ivi1 (mi' := mX12_codeAt) (de_invokevirtual (B 27 _ rfl) (B 28 _ rfl) (B 29 _ rfl)) ml_X12_273 mv_X12_codeAt hM.k (Nat.le_of_ble_eq_true rfl) (n := 30) rfl (c_X12_codeAt hM hE hj ?_)
        refine Vw.bipush (v := 45) (de_bipush (B 30 _ rfl) (B 31 _ rfl)) rfl (n := 32) rfl ?_
        refine Vw.isi1 (mi' := mX12_sign) (de_invokestatic (B 32 _ rfl) (B 33 _ rfl) (B 34 _ rfl)) ml_X12_239 ms_X12_sign (Nat.le_of_ble_eq_true rfl) (n := 35) rfl (c_X12_sign ?_)
        rw [show (100 + 45 : Int32) = 145 from rfl]
        refine Vw.icmp_ne (tgt := 103) (n := 38) (de_icmp_ne (B 35 _ rfl) (B 36 _ rfl) (B 37 _ rfl)) rfl rfl (fun c_35 => ?_) (fun c_35 => ?_)
        · exact absurd hc (by rintro (q | q); exact c_19 q; exact c_35 q)
        exact go
  obtain ⟨j0, l0, d0, hx0, hc0⟩ := pMany_inv hP
  have hj0 := hX _ _ _ _ _ hi hx0
  refine Vw.aload_n (de_aload_0 (B 0 _ rfl)) 0 rfl (n := 1) rfl ?_
  refine Vw.iload_n (de_iload_1 (B 1 _ rfl)) 1 rfl (n := 2) rfl ?_
  refine Vw.ivl1 (mi' := mX12_termOf) (de_invokevirtual (B 2 _ rfl) (B 3 _ rfl) (B 4 _ rfl)) ml_X12_283 mv_X12_termOf hM.k (Nat.le_of_ble_eq_true rfl) (n := 5) rfl (hS _ _ _ _ _ _ _ _ _ _ _ _ _ _ _ _ _ _ _ _ hM hE hN hi hx0 hlv hb ?_)
  · refine Vw.lstore_n (lv2 := [(0, _), (1, _), (2, _)]) (de_lstore_2 (B 5 _ rfl)) rfl (by decide) [1, 2, 0] rfl (n := 6) rfl ?_
    exact loop 402 j0 l0 d0 hj0.2 (by omega) hc0
theorem ec_sums : ∀ m, EC mX12_sumOf (3 * m + 5) (fun cd vl o => pSum cd vl o m) := by
  intro m
  induction m with
  | zero => exact ec_sum (D := 0) (fun cd vl o nt h => Bd_many h (by decide) (Bd_part h (fun f e => by cases e))) (ec_term (D := 0) (fun cd vl o nt h => Bd_part h (fun f e => by cases e)) ec_part0)
  | succ m ih =>
    have h1 := ec_partS (D := 3 * m + 3) (fun cd vl o nt h => Bd_sum h m) ih
    have h2 := ec_sum (D := 3 * m + 3) (fun cd vl o nt h => Bd_many h (by decide) (Bd_part h (fun f e => by cases e; exact Bd_sum h m))) (ec_term (D := 3 * m + 3) (fun cd vl o nt h => Bd_part h (fun f e => by cases e; exact Bd_sum h m)) h1)
    rw [show 3 * (m + 1) + 5 = 3 * m + 3 + 5 by omega]
    exact h2
