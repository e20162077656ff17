/-! Numbers that are divided -/
theorem nI_div {a b : Nat} (ha : a < 2147483648) (hb : b < 2147483648) : nI a / nI b = nI (a / b) := by
  apply i32_eq
  have e : a / b < 2147483648 := Nat.lt_of_le_of_lt (Nat.div_le_self a b) ha
  rw [Int32.toInt_div, nI_ti ha, nI_ti hb, nI_ti e, ← Int.ofNat_tdiv]
  generalize a / b = z at e ⊢
  exact bm32 (by omega) (by omega)
theorem nI_sub {a b : Nat} (h : b ≤ a) (ha : a < 2147483648) : nI a - nI b = nI (a - b) := by
  apply i32_eq
  rw [i32_sub (by rw [nI_ti ha, nI_ti (by omega)]; omega) (by rw [nI_ti ha, nI_ti (by omega)]; omega), nI_ti ha, nI_ti (by omega), nI_ti (by omega)]
  omega
theorem nI_rem {a b : Nat} (ha : a < 2147483648) (hb : b < 2147483648) : nI a - nI a / nI b * nI b = nI (a % b) := by
  have h1 := Nat.div_add_mod a b
  have h2 : a / b * b ≤ a := Nat.div_mul_le_self a b
  rw [nI_div ha hb, ← nI_M, nI_sub h2 ha]
  congr 1
  rw [Nat.mul_comm] at h2
  rw [Nat.mul_comm]
  omega
def lI (n : Nat) : Int64 := Int64.ofNat n
theorem bm64 {z : Int} (h1 : -9223372036854775808 ≤ z) (h2 : z < 9223372036854775808) : z.bmod (2 ^ 64) = z := by
  rw [Int.bmod_eq_of_le] <;> omega
theorem lI_ti {n : Nat} (h : n < 9223372036854775808) : (lI n).toInt = (n : Int) := by
  unfold lI; exact Int64.toInt_ofNat_of_lt h
theorem i64_eq {a b : Int64} (h : a.toInt = b.toInt) : a = b := Int64.toInt_inj.mp h
theorem lI_add (a b : Nat) : lI a + lI b = lI (a + b) := by unfold lI; exact (Int64.ofNat_add a b).symm
theorem lI_mul (a b : Nat) : lI a * lI b = lI (a * b) := by unfold lI; exact (Int64.ofNat_mul a b).symm
theorem lI_div {a b : Nat} (ha : a < 9223372036854775808) (hb : b < 9223372036854775808) : lI a / lI b = lI (a / b) := by
  apply i64_eq
  have e : a / b < 9223372036854775808 := Nat.lt_of_le_of_lt (Nat.div_le_self a b) ha
  rw [Int64.toInt_div, lI_ti ha, lI_ti hb, lI_ti e, ← Int.ofNat_tdiv]
  generalize a / b = z at e ⊢
  exact bm64 (by omega) (by omega)
theorem lI_sub {a b : Nat} (h : b ≤ a) : lI a - lI b = lI (a - b) := by
  have e : lI (a - b) + lI b = lI a := by rw [lI_add, Nat.sub_add_cancel h]
  rw [← e]; exact Int64.add_sub_cancel _ _
theorem lI_rem {a b : Nat} (ha : a < 9223372036854775808) (hb : b < 9223372036854775808) : lI a - lI a / lI b * lI b = lI (a % b) := by
  have h1 := Nat.div_add_mod a b
  have h2 : a / b * b ≤ a := Nat.div_mul_le_self a b
  rw [lI_div ha hb, lI_mul, lI_sub h2]
  congr 1
  rw [Nat.mul_comm] at h2
  rw [Nat.mul_comm]
  omega
theorem nI_lI {n : Nat} (h : n < 2147483648) : (nI n).toInt64 = lI n := by
  apply i64_eq
  rw [Int32.toInt_toInt64, nI_ti h, lI_ti (by omega)]
theorem lI_nI {n : Nat} (h : n < 2147483648) : (lI n).toInt32 = nI n := by
  rw [← nI_lI h]; exact Int32.toInt32_toInt64 _
/-! The town as one row of numbers K -/
def upK (K : Nat → Int32) (j : Nat) (v : Int32) : Nat → Int32 := fun x => if x = j then v else K x
theorem upK_s (K : Nat → Int32) (j : Nat) (v : Int32) : upK K j v j = v := if_pos rfl
theorem upK_n {K : Nat → Int32} {j x : Nat} {v : Int32} (h : x ≠ j) : upK K j v x = K x := if_neg h
theorem up2_rs (I : vI) (a k : Nat) (v : Int32) : up2 I a k v a = upK (I a) k v := by
  funext x; unfold up2 upK
  by_cases h : x = k
  · rw [if_pos ⟨rfl, h⟩, if_pos h]
  · rw [if_neg (fun q => h q.2), if_neg h]
def putP (K : Nat → Int32) (q : Nat) (P : tP) : Nat → Int32 := upK (upK (upK K (4 * q) P.1) (4 * q + 1) P.2.1) (4 * q + 2) P.2.2.1
theorem mPut_row {I : vI} {r q : Nat} {P : tP} (h : PP I r = P) : mPut I r q (r + 2) = putP (I (r + 2)) q P := by
  subst h; unfold mPut putP; rw [up2_rs, up2_rs, up2_rs]; rfl
theorem putP_o {K : Nat → Int32} {q x : Nat} {P : tP} (h : x < 4 * q ∨ 4 * q + 3 ≤ x) : putP K q P x = K x := by
  unfold putP; rw [upK_n (by omega), upK_n (by omega), upK_n (by omega)]
def growK (W : tW) (K : Nat → Int32) : Nat → Nat → Int32
  | 0 => K
  | n + 1 => putP (growK W K n) n (stepP W (nI n) (growK W K n 121) (perP (growK W K n) n))
theorem growK_o {W : tW} {K : Nat → Int32} : ∀ {n x : Nat}, 4 * n ≤ x + 1 → growK W K n x = K x
  | 0, _, _ => rfl
  | n + 1, x, h => by rw [growK, putP_o (by omega), growK_o (by omega)]
def drawN (s : Nat) : Nat := (1103 * s + 12345) % 1000003
theorem drawN_lt (s : Nat) : drawN s < 1000003 := Nat.mod_lt _ (by decide)
def feastK (K : Nat → Int32) (s : Nat) : Nat → (Nat → Int32) × Nat
  | 0 => (K, s)
  | n + 1 => (if nI (drawN (feastK K s n).2 % 10) < (feastK K s n).1 140 then putP (feastK K s n).1 n (feastP (perP (feastK K s n).1 n)) else (feastK K s n).1, drawN (feastK K s n).2)
theorem feastK_o {K : Nat → Int32} {s : Nat} : ∀ {n x : Nat}, 4 * n ≤ x + 1 → (feastK K s n).1 x = K x
  | 0, _, _ => rfl
  | n + 1, x, h => by
    rw [feastK]
    simp only
    split
    · rw [putP_o (by omega), feastK_o (by omega)]
    · exact feastK_o (by omega)
def nowK (K : Nat → Int32) : Nat → Int32 := upK K 121 (K 121 + 1)
def wrN (K : Nat → Int32) (c : Nat) : Nat := (K (32 + 8 * c + 4)).toNatClampNeg
def payAt (W : tW) (K : Nat → Int32) (c : Nat) : Int32 := payP W (K (32 + 8 * c + 4)) (K (32 + 8 * c + 2)) (K (32 + 8 * c)) (K (32 + 8 * c + 1)) (K 121) (perP K (wrN K c))
def fitAt (K : Nat → Int32) (c : Nat) : Int32 := fitP (K (32 + 8 * c)) (K (32 + 8 * c + 1)) (perP K (wrN K c))
def payK1 (K : Nat → Int32) (c : Nat) (v : Int32) : Nat → Int32 :=
  upK K (113 + 2 * (K (32 + 8 * c + 2)).toNatClampNeg + 1) (K (113 + 2 * (K (32 + 8 * c + 2)).toNatClampNeg + 1) + (v + 1) / 2)
def payK2 (K G : Nat → Int32) (c : Nat) (v : Int32) : Nat → Int32 :=
  upK G (113 + 2 * (K (32 + 8 * c + 3)).toNatClampNeg + 1) (G (113 + 2 * (K (32 + 8 * c + 3)).toNatClampNeg + 1) + v / 2)
def payK (W : tW) (K : Nat → Int32) (c : Nat) : Nat → Int32 :=
  upK (upK (payK2 K (payK1 K c (payAt W K c)) c (payAt W K c)) (32 + 8 * c + 4) (-1)) (32 + 8 * c + 7) (K (32 + 8 * c + 7) + 1)
def setlK (W : tW) (K : Nat → Int32) : Nat → (Nat → Int32) × Int32
  | 0 => (K, 0)
  | c + 1 => if (setlK W K c).1 (32 + 8 * c + 4) = -1 then setlK W K c else if fitAt (setlK W K c).1 c = 0 then (payK W (setlK W K c).1 c, (setlK W K c).2 + payAt W (setlK W K c).1 c) else setlK W K c
def quarterP (W : tW) (K : Nat → Int32) (np nc : Nat) : (Nat → Int32) × Int32 := setlK W (nowK (growK W K np)) nc
def yearP (W : tW) (K : Nat → Int32) (np nc s : Nat) : (Nat → Int32) × Int32 := setlK W (nowK (feastK (growK W K np) s np).1) nc
/-! what must be so of the town -/
def CoatOK (K : Nat → Int32) (np c : Nat) : Prop := (∃ f, f < 4 ∧ K (32 + 8 * c + 2) = nI f) ∧ (∃ s, s < 4 ∧ K (32 + 8 * c + 3) = nI s) ∧ (K (32 + 8 * c + 4) = -1 ∨ ∃ q, q < np ∧ K (32 + 8 * c + 4) = nI q)
def TN (K : Nat → Int32) (np nc : Nat) : Prop := np ≤ 8 ∧ nc ≤ 10 ∧ K 142 = nI np ∧ K 112 = nI nc ∧ ∀ c, c < nc → CoatOK K np c
theorem WD.of {K G : Nat → Int32} {W : tW} (h : WD K W) (e : ∀ x, 141 ≤ x → G x = K x) : WD G W := by
  obtain ⟨⟨⟨np, h1, h2⟩, h3⟩, h4⟩ := h
  refine ⟨⟨⟨np, h1, by rw [e _ (by decide)]; exact h2⟩, ?_⟩, by rw [e _ (by decide)]; exact h4⟩
  rcases h3 with ⟨h5, h6⟩ | ⟨t, cs, h5, h6, ⟨cd, vl, nt, k1, k2, k3, k4, k5⟩, h8⟩
  · exact Or.inl ⟨by rw [e _ (by decide)]; exact h5, h6⟩
  · exact Or.inr ⟨t, cs, h5, by rw [e _ (by decide)]; exact h6, ⟨cd, vl, nt, fun i hi => ⟨(e _ (by omega)).trans (k1 i hi).1, (e _ (by omega)).trans (k1 i hi).2⟩, k2, k3, (e _ (by omega)).trans k4, k5⟩, h8⟩
theorem TN.of {K G : Nat → Int32} {np nc : Nat} (h : TN K np nc) (e : ∀ x, 32 ≤ x → (x < 113 ∨ x = 142) → G x = K x) : TN G np nc := by
  refine ⟨h.1, h.2.1, by rw [e _ (by decide) (by decide)]; exact h.2.2.1, by rw [e _ (by decide) (by decide)]; exact h.2.2.2.1, fun c hc => ?_⟩
  have h2 := h.2.1
  obtain ⟨a, b, c1⟩ := h.2.2.2.2 c hc
  refine ⟨?_, ?_, ?_⟩
  · rw [e _ (by omega) (by omega)]; exact a
  · rw [e _ (by omega) (by omega)]; exact b
  · rw [e _ (by omega) (by omega)]; exact c1
theorem payK_o {W : tW} {K : Nat → Int32} {np c x : Nat} (hc : CoatOK K np c) (h : ¬ (113 ≤ x ∧ x < 121)) (h4 : x ≠ 32 + 8 * c + 4) (h7 : x ≠ 32 + 8 * c + 7) : payK W K c x = K x := by
  obtain ⟨⟨f, hf, ef⟩, ⟨s, hs, es⟩, _⟩ := hc
  unfold payK payK2 payK1
  rw [upK_n h7, upK_n h4, ef, es, nI_cl (by omega), nI_cl (by omega), upK_n (by omega), upK_n (by omega)]
theorem payK_4 {W : tW} {K : Nat → Int32} {c : Nat} : payK W K c (32 + 8 * c + 4) = -1 := by
  unfold payK; rw [upK_n (by omega), upK_s]
theorem TN.pay {W : tW} {K : Nat → Int32} {np nc c : Nat} (h : TN K np nc) (hc : c < nc) : TN (payK W K c) np nc := by
  have hk := h.2.2.2.2 c hc
  have h2 := h.2.1
  refine ⟨h.1, h.2.1, ?_, ?_, fun c2 hc2 => ?_⟩
  · rw [payK_o hk (by omega) (by omega) (by omega)]; exact h.2.2.1
  · rw [payK_o hk (by omega) (by omega) (by omega)]; exact h.2.2.2.1
  · obtain ⟨a, b, e⟩ := h.2.2.2.2 c2 hc2
    refine ⟨?_, ?_, ?_⟩
    · rw [payK_o hk (by omega) (by omega) (by omega)]; exact a
    · rw [payK_o hk (by omega) (by omega) (by omega)]; exact b
    · by_cases q : c2 = c
      · subst q; exact Or.inl payK_4
      · rw [payK_o hk (by omega) (by omega) (by omega)]; exact e
theorem setlK_ok {W : tW} {K : Nat → Int32} {np nc : Nat} (h : TN K np nc) : ∀ c, c ≤ nc → TN (setlK W K c).1 np nc ∧ ∀ x, 121 ≤ x → (setlK W K c).1 x = K x := by
  intro c
  induction c with
  | zero => exact fun _ => ⟨h, fun _ _ => rfl⟩
  | succ c ih =>
    intro hc
    obtain ⟨h1, h2⟩ := ih (by omega)
    have := h.2.1
    rw [setlK]
    split
    · exact ⟨h1, h2⟩
    · split
      · exact ⟨h1.pay hc, fun x hx => (payK_o (h1.2.2.2.2 c hc) (by omega) (by omega) (by omega)).trans (h2 x hx)⟩
      · exact ⟨h1, h2⟩
/-- nothing but kept, what is asked, the one that is taken and what is drawn has changed -/
def Fk (r : Nat) (I I2 : vI) : Prop := ∀ a k, ¬ (a = r ∧ (20 ≤ k ∧ k ≤ 29 ∨ k = 55)) → a ≠ r + 12 → a ≠ r + 2 → I2 a k = I a k
theorem Fk.rfl {r : Nat} {I : vI} : Fk r I I := fun _ _ _ _ _ => Eq.refl _
theorem Fk.trans {r : Nat} {I I2 I3 : vI} (h : Fk r I I2) (g : Fk r I2 I3) : Fk r I I3 := fun a k h1 h2 h3 => (g a k h1 h2 h3).trans (h a k h1 h2 h3)
theorem Fr.fk {r : Nat} {I I2 : vI} (h : Fr r I I2) : Fk r I I2 := fun a k h1 h2 _ => h a k (by omega) h2
theorem Fk.put {r q : Nat} {I : vI} : Fk r I (mPut I r q) := fun a k h1 h2 h3 => by unfold mPut; rw [up2_a h3, up2_a h3, up2_a h3]
theorem Fr.f {r k : Nat} {I I2 : vI} (h : Fr r I I2) (h1 : ¬ (20 ≤ k ∧ k ≤ 29)) : I2 r k = I r k := h _ _ (by omega) (by omega)
theorem c_X12_shareBy_1 {d : Nat} {S : vS} {I : vI} {L : vL} {Q : Int32 → vS → vI → vL → Prop} {v : Int32} (h : Q ((v + 1) / 2) S I L) : Vc mX12_shareBy d 0 0 [.int v, .int 1] S I L (ViQ Q) := c_X12_shareBy (by rw [if_neg (by decide)]; exact h)
theorem c_X12_shareBy_0 {d : Nat} {S : vS} {I : vI} {L : vL} {Q : Int32 → vS → vI → vL → Prop} {v : Int32} (h : Q (v / 2) S I L) : Vc mX12_shareBy d 0 0 [.int v, .int 0] S I L (ViQ Q) := c_X12_shareBy (by rw [if_pos rfl]; exact h)
theorem c_X12_pays {d : Nat} {S : vS} {I : vI} {L : vL} {Q : Int32 → vS → vI → vL → Prop} {r : Nat} {c np nc : Nat} {W : tW}  (hM : MS S r) (hW : WD (I (r + 2)) W) (hT : TN (I (r + 2)) np nc) (hc : c < nc) (hwr : ¬ I (r + 2) (32 + 8 * c + 4) = -1) (h : ∀ I2, Fk r I I2 → I2 (r + 2) = payK W (I (r + 2)) c → I2 r 55 = I r 55 → Q (payAt W (I (r + 2)) c) S I2 L) : Vc mX12_pays (d + 45) 0 0 [.ref r, .int (nI c)] S I L (ViQ Q) := by
  refine Vc.of rfl (Nat.le_of_ble_eq_true rfl) ?_
  have B := bs_X12_pays
  show Vw mX12_pays (d + 45) 0 0 0 0 (ViQ Q) 0 [(0, .ref r), (1, .int (nI c))] [] S I L
  have hnc := hT.2.1
  have hnp := hT.1
  obtain ⟨⟨f, hf, ef⟩, ⟨s, hs, es⟩, e4⟩ := hT.2.2.2.2 c hc
  obtain ⟨q, hq, eq⟩ := e4.resolve_left hwr
  have eA : payAt W (I (r + 2)) c = payP W (nI q) (I (r + 2) (32 + 8 * c + 2)) (I (r + 2) (32 + 8 * c)) (I (r + 2) (32 + 8 * c + 1)) (I (r + 2) 121) (perP (I (r + 2)) q) := by unfold payAt wrN; rw [eq, nI_cl (by omega)]
  refine Vw.aload_n (de_aload_0 (B 0 _ rfl)) 0 rfl (n := 1) rfl ?_
  refine Vw.iload_n (de_iload_1 (B 1 _ rfl)) 1 rfl (n := 2) rfl ?_
  refine Vw.ivi1 (mi' := mX12_paysNow) (de_invokevirtual (B 2 _ rfl) (B 3 _ rfl) (B 4 _ rfl)) ml_X12_162 mv_X12_paysNow hM.k (Nat.le_of_ble_eq_true rfl) (n := 5) rfl (c_X12_paysNow hM hW (by omega) (by omega) eq (fun I2 f2 => ?_))
  refine Vw.istore_n (lv2 := [(0, _), (1, _), (2, _)]) (de_istore_2 (B 5 _ rfl)) rfl (by decide) [1, 2, 0] rfl (n := 6) rfl ?_
  rw [← eA]
  have k2 := f2.k
  refine Vw.aload_n (de_aload_0 (B 6 _ rfl)) 0 rfl (n := 7) rfl ?_
  refine Vw.getR (de_getfield (B 7 _ rfl) (B 8 _ rfl) (B 9 _ rfl)) fl_X12_24 rfl hM.k (MS_kept hM).1 (n := 10) rfl ?_
  refine Vw.bipush (v := 113) (de_bipush (B 10 _ rfl) (B 11 _ rfl)) rfl (n := 12) rfl ?_
  refine Vw.iconst (v := 2) (de_iconst_2 (B 12 _ rfl)) rfl (n := 13) rfl ?_
  refine Vw.aload_n (de_aload_0 (B 13 _ rfl)) 0 rfl (n := 14) rfl ?_
  refine Vw.iload_n (de_iload_1 (B 14 _ rfl)) 1 rfl (n := 15) rfl ?_
  refine Vw.iconst (v := 2) (de_iconst_2 (B 15 _ rfl)) rfl (n := 16) rfl ?_
  refine Vw.ivi2 (mi' := mX12_part) (de_invokevirtual (B 16 _ rfl) (B 17 _ rfl) (B 18 _ rfl)) ml_X12_136 mv_X12_part hM.k (Nat.le_of_ble_eq_true rfl) (n := 19) rfl (c_X12_part hM (vIx_n (k := 32 + 8 * c + 2) (by simp only [nI_A, nI_M, Int32.zero_add, Int32.add_zero] <;> rfl) (by omega)) ?_)
  rw [k2, ef]
  refine Vw.imul (de_imul (B 19 _ rfl)) (n := 20) rfl ?_
  refine Vw.iadd (de_iadd (B 20 _ rfl)) (n := 21) rfl ?_
  refine Vw.iconst (v := 1) (de_iconst_1 (B 21 _ rfl)) rfl (n := 22) rfl ?_
  refine Vw.iadd (de_iadd (B 22 _ rfl)) (n := 23) rfl ?_
  refine Vw.dup2 (de_dup2 (B 23 _ rfl)) rfl rfl (n := 24) rfl ?_
  refine Vw.iald (de_iaload (B 24 _ rfl)) (MS_kept hM).2 (vIx_n (k := 113 + 2 * f + 1) (by simp only [nI_A, nI_M, Int32.zero_add, Int32.add_zero] <;> rfl) (by omega)) (n := 25) rfl ?_
  refine Vw.iload_n (de_iload_2 (B 25 _ rfl)) 2 rfl (n := 26) rfl ?_
  refine Vw.iconst (v := 1) (de_iconst_1 (B 26 _ rfl)) rfl (n := 27) rfl ?_
  refine Vw.isi2 (mi' := mX12_shareBy) (de_invokestatic (B 27 _ rfl) (B 28 _ rfl) (B 29 _ rfl)) ml_X12_344 ms_X12_shareBy (Nat.le_of_ble_eq_true rfl) (n := 30) rfl (c_X12_shareBy_1 ?_)
  refine Vw.iadd (de_iadd (B 30 _ rfl)) (n := 31) rfl ?_
  refine Vw.iast (de_iastore (B 31 _ rfl)) (MS_kept hM).2 (vIx_n (k := 113 + 2 * f + 1) (by simp only [nI_A, nI_M, Int32.zero_add, Int32.add_zero] <;> rfl) (by omega)) (n := 32) rfl ?_
  refine Vw.aload_n (de_aload_0 (B 32 _ rfl)) 0 rfl (n := 33) rfl ?_
  refine Vw.getR (de_getfield (B 33 _ rfl) (B 34 _ rfl) (B 35 _ rfl)) fl_X12_24 rfl hM.k (MS_kept hM).1 (n := 36) rfl ?_
  refine Vw.bipush (v := 113) (de_bipush (B 36 _ rfl) (B 37 _ rfl)) rfl (n := 38) rfl ?_
  refine Vw.iconst (v := 2) (de_iconst_2 (B 38 _ rfl)) rfl (n := 39) rfl ?_
  refine Vw.aload_n (de_aload_0 (B 39 _ rfl)) 0 rfl (n := 40) rfl ?_
  refine Vw.iload_n (de_iload_1 (B 40 _ rfl)) 1 rfl (n := 41) rfl ?_
  refine Vw.iconst (v := 3) (de_iconst_3 (B 41 _ rfl)) rfl (n := 42) rfl ?_
  refine Vw.ivi2 (mi' := mX12_part) (de_invokevirtual (B 42 _ rfl) (B 43 _ rfl) (B 44 _ rfl)) ml_X12_136 mv_X12_part hM.k (Nat.le_of_ble_eq_true rfl) (n := 45) rfl (c_X12_part hM (vIx_n (k := 32 + 8 * c + 3) (by simp only [nI_A, nI_M, Int32.zero_add, Int32.add_zero] <;> rfl) (by omega)) ?_)
  rw [up2_n (by omega), k2, es]
  refine Vw.imul (de_imul (B 45 _ rfl)) (n := 46) rfl ?_
  refine Vw.iadd (de_iadd (B 46 _ rfl)) (n := 47) rfl ?_
  refine Vw.iconst (v := 1) (de_iconst_1 (B 47 _ rfl)) rfl (n := 48) rfl ?_
  refine Vw.iadd (de_iadd (B 48 _ rfl)) (n := 49) rfl ?_
  refine Vw.dup2 (de_dup2 (B 49 _ rfl)) rfl rfl (n := 50) rfl ?_
  refine Vw.iald (de_iaload (B 50 _ rfl)) (MS_kept hM).2 (vIx_n (k := 113 + 2 * s + 1) (by simp only [nI_A, nI_M, Int32.zero_add, Int32.add_zero] <;> rfl) (by omega)) (n := 51) rfl ?_
  refine Vw.iload_n (de_iload_2 (B 51 _ rfl)) 2 rfl (n := 52) rfl ?_
  refine Vw.iconst (v := 0) (de_iconst_0 (B 52 _ rfl)) rfl (n := 53) rfl ?_
  refine Vw.isi2 (mi' := mX12_shareBy) (de_invokestatic (B 53 _ rfl) (B 54 _ rfl) (B 55 _ rfl)) ml_X12_344 ms_X12_shareBy (Nat.le_of_ble_eq_true rfl) (n := 56) rfl (c_X12_shareBy_0 ?_)
  refine Vw.iadd (de_iadd (B 56 _ rfl)) (n := 57) rfl ?_
  refine Vw.iast (de_iastore (B 57 _ rfl)) (MS_kept hM).2 (vIx_n (k := 113 + 2 * s + 1) (by simp only [nI_A, nI_M, Int32.zero_add, Int32.add_zero] <;> rfl) (by omega)) (n := 58) rfl ?_
  refine Vw.aload_n (de_aload_0 (B 58 _ rfl)) 0 rfl (n := 59) rfl ?_
  refine Vw.getR (de_getfield (B 59 _ rfl) (B 60 _ rfl) (B 61 _ rfl)) fl_X12_24 rfl hM.k (MS_kept hM).1 (n := 62) rfl ?_
  refine Vw.bipush (v := 32) (de_bipush (B 62 _ rfl) (B 63 _ rfl)) rfl (n := 64) rfl ?_
  refine Vw.bipush (v := 8) (de_bipush (B 64 _ rfl) (B 65 _ rfl)) rfl (n := 66) rfl ?_
  refine Vw.iload_n (de_iload_1 (B 66 _ rfl)) 1 rfl (n := 67) rfl ?_
  refine Vw.imul (de_imul (B 67 _ rfl)) (n := 68) rfl ?_
  refine Vw.iadd (de_iadd (B 68 _ rfl)) (n := 69) rfl ?_
  refine Vw.iconst (v := 4) (de_iconst_4 (B 69 _ rfl)) rfl (n := 70) rfl ?_
  refine Vw.iadd (de_iadd (B 70 _ rfl)) (n := 71) rfl ?_
  refine Vw.iconst (v := -1) (de_iconst_m1 (B 71 _ rfl)) rfl (n := 72) rfl ?_
  refine Vw.iast (de_iastore (B 72 _ rfl)) (MS_kept hM).2 (vIx_n (k := 32 + 8 * c + 4) (by simp only [nI_A, nI_M, Int32.zero_add, Int32.add_zero] <;> rfl) (by omega)) (n := 73) rfl ?_
  refine Vw.aload_n (de_aload_0 (B 73 _ rfl)) 0 rfl (n := 74) rfl ?_
  refine Vw.getR (de_getfield (B 74 _ rfl) (B 75 _ rfl) (B 76 _ rfl)) fl_X12_24 rfl hM.k (MS_kept hM).1 (n := 77) rfl ?_
  refine Vw.bipush (v := 32) (de_bipush (B 77 _ rfl) (B 78 _ rfl)) rfl (n := 79) rfl ?_
  refine Vw.bipush (v := 8) (de_bipush (B 79 _ rfl) (B 80 _ rfl)) rfl (n := 81) rfl ?_
  refine Vw.iload_n (de_iload_1 (B 81 _ rfl)) 1 rfl (n := 82) rfl ?_
  refine Vw.imul (de_imul (B 82 _ rfl)) (n := 83) rfl ?_
  refine Vw.iadd (de_iadd (B 83 _ rfl)) (n := 84) rfl ?_
  refine Vw.bipush (v := 7) (de_bipush (B 84 _ rfl) (B 85 _ rfl)) rfl (n := 86) rfl ?_
  refine Vw.iadd (de_iadd (B 86 _ rfl)) (n := 87) rfl ?_
  refine Vw.dup2 (de_dup2 (B 87 _ rfl)) rfl rfl (n := 88) rfl ?_
  refine Vw.iald (de_iaload (B 88 _ rfl)) (MS_kept hM).2 (vIx_n (k := 32 + 8 * c + 7) (by simp only [nI_A, nI_M, Int32.zero_add, Int32.add_zero] <;> rfl) (by omega)) (n := 89) rfl ?_
  refine Vw.iconst (v := 1) (de_iconst_1 (B 89 _ rfl)) rfl (n := 90) rfl ?_
  refine Vw.iadd (de_iadd (B 90 _ rfl)) (n := 91) rfl ?_
  refine Vw.iast (de_iastore (B 91 _ rfl)) (MS_kept hM).2 (vIx_n (k := 32 + 8 * c + 7) (by simp only [nI_A, nI_M, Int32.zero_add, Int32.add_zero] <;> rfl) (by omega)) (n := 92) rfl ?_
  refine Vw.iload_n (de_iload_2 (B 92 _ rfl)) 2 rfl (n := 93) rfl ?_
  exact Vw.iret (de_ireturn (B 93 _ rfl)) rfl ⟨_, rfl, (h _ (f2.fk.trans (fun a k h1 h2 h3 => by simp (disch := omega) only [up2_n])) (by
    rw [up2_rs, up2_rs, up2_rs, up2_rs, k2]
    unfold payK payK2 payK1
    rw [ef, es, nI_cl (by omega), nI_cl (by omega)]
    congr 1
    simp (disch := omega) only [upK_n]) (by simp (disch := omega) only [up2_n]; exact f2.f (by decide)))⟩
