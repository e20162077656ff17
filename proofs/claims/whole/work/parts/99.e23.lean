/-! law: alike -/
theorem Vw.ivr0m {mi mi' : vM} {d mc ms cr sr mc' ms' pc n idx c b : Nat} {Q : Option Value → vS → vI → vL → Prop} {lv : List (Nat × Value)} {st : List Value} {S : vS} {I : vI} {L : vL} (hd : decode mi.2.1 pc = .ok (.invokevirtual idx, 3)) (hl : Cond.methodLink mi.1.cls idx mi'.1 ∈ vTs) (hm : vMv mi' c 0) (hs : (S.1 b).1 = c) (hw : (st.map fun v => v.category).sum ≤ 8) (hn : pc + 3 = n) (hC : Vc mi' d mc' ms' [.ref b] S I L (VrQ fun r S' I' L' => Vw mi (d + 1) mc ms cr sr Q n lv (va_rf r :: st) S' I' L')) : Vw mi (d + 1) mc ms (cr + mc') (sr + ms') Q pc lv (.ref b :: st) S I L :=
  Vw.invV (As := []) hd hl hm hs rfl rfl hw hn (hC.mono (fun v S' I' L' h => by obtain ⟨r, rfl, h⟩ := h; exact h))
theorem SK.sup {S : vS} {x N : Nat} {w : Option Nat} : SK x N S (sUp S (x + 1 + 74) 5 w) := ⟨fun _ _ => rfl, fun b k _ h1 h2 h3 h4 => up2_n (by omega)⟩
theorem RD.tx {I J : vI} {r n nt : Nat} (h : RD I J r n nt) : txt J r nt = pText (cdT (I (r + 7)) n) (vlT (I (r + 7)) n) (decide (¬ I r 8 = 0)) nt := by
  have e := h.rows_
  unfold txt
  rw [h.same (a := r) (x := 8) (by omega) (by omega) (by omega) (by omega) (by omega)]
  exact (ext_text (cd := cdT (I (r + 7)) n) (cd' := J (r + 9)) e.2.1 e.2.2.1 (by rw [e.1]; exact cdT_n)).symm
theorem k_law {d : Nat} {S : vS} {I : vI} {L : vL} {Q : Int32 → vS → vI → vL → Prop} {x lb np nc ns nl : Nat} {K : Nat → Int32} {l : List tH} {n : Nat} {u : Nat → Int32} (hC : ClsS S x) (hs : STR S I (x + 1) lb K np nc ns nl) (hH : HC I (x + 89) l np) (hlb : x + 942 ≤ lb) (hn : I x 12 = nI n) (h4 : n ≤ 400) (hu : ∀ j, j < 400 → I (x + 856) j = u j &&& 255 ∧ bt (u j)) (htx : ∀ k, k < 11 → ∃ z, TxS S k z) (hSN : lb ≤ S.2.2) (h1 : nl = 6 → Q (-5) S (cRef (up2 I x 12 0) x (-5) 5) L) (h0 : nl < 6 → ∀ e I2, pText (cdT u n) (vlT u n) false (tkL u n 401 0).length = .error e → e ≤ (tkL u n 401 0).length → FrT (x + 1) (up2 I x 12 0) I2 → Q (-6) (sUp S (x + 1 + 74) 5 (some (x + 856))) (cRef (up2 I2 x 14 (nI (plcT (tkL u n 401 0) n e))) x (-6) 6) L) (h : nl < 6 → ∀ cs c S2 I2 M, pText (cdT u n) (vlT u n) false (tkL u n 401 0).length = .ok cs → S2.2.2 = S.2.2 + 8 → (∀ b, b < S.2.2 → S2.1 b = S.1 b) → (∀ b k, b < S.2.2 → b ≠ x + 25 → ¬ (b = x + 75 ∧ k = 5) → S2.2.1 b k = S.2.1 b k) → (∀ t, t ≠ nl → S2.2.1 (x + 25) t = S.2.1 (x + 25) t) → S2.2.1 (x + 25) nl = some S.2.2 → ScS S2 S.2.2 cs.length c → (∀ b k, b < S.2.2 → ¬ (x + 75 ≤ b ∧ b ≤ x + 87) → ¬ (b = x ∧ (k = 12 ∨ k = 14)) → ¬ (b = x + 1 ∧ k = 2) → I2 b k = I b k) → I2 x 12 = 0 → I2 x 14 = -1 → I2 (x + 1) 2 = nI (nl + 1) → ScR I2 S.2.2 cs vbL 8 c 5 tD1 → Q (nI nl) S2 (cAcc I2 x) M) : Vc mX11_law (d + 80) 8 480 [.ref x] S I L (ViQ Q) := by
  refine Vc.of rfl (Nat.le_of_ble_eq_true rfl) ?_
  have B := bs_X11_law
  show Vw mX11_law (d + 80) 8 480 8 480 (ViQ Q) 0 [(0, .ref x)] [] S I L
  have hT := hC.p0.p0
  have hN := hs.tn
  have h8 := hN.1
  have h10 := hN.2.1
  have hK := hs.tr
  have hold : ∃ old, old < 16 ∧ I (x + 89) 2 = nI old := by obtain ⟨_, _, old, o1, o2, _⟩ := hH; exact ⟨old, o1, o2⟩
  refine Vw.aload_n (de_aload_0 (B 0 _ rfl)) 0 rfl (n := 1) rfl ?_
  
  refine Vw.getI (de_getfield (B 1 _ rfl) (B 2 _ rfl) (B 3 _ rfl)) fl_X11_191 rfl hC.k (n := 4) rfl ?_
  rw [hn]
  refine Vw.istore_n (lv2 := [(0, _), (1, _)]) (de_istore_1 (B 4 _ rfl)) rfl (by decide) [1, 0] rfl (n := 5) rfl ?_
  refine Vw.aload_n (de_aload_0 (B 5 _ rfl)) 0 rfl (n := 6) rfl ?_
  refine Vw.iconst (v := 0) (de_iconst_0 (B 6 _ rfl)) rfl (n := 7) rfl ?_
  refine Vw.putI (de_putfield (B 7 _ rfl) (B 8 _ rfl) (B 9 _ rfl)) fl_X11_191 hC.k rfl rfl (n := 10) rfl ?_
  refine Vw.aload_n (de_aload_0 (B 10 _ rfl)) 0 rfl (n := 11) rfl ?_
  refine Vw.getR (de_getfield (B 11 _ rfl) (B 12 _ rfl) (B 13 _ rfl)) fl_X11_12 rfl hC.k hC.f0 (n := 14) rfl ?_
  refine Vw.getI (de_getfield (B 14 _ rfl) (B 15 _ rfl) (B 16 _ rfl)) fl_X11_204 rfl hC.p0.k (n := 17) rfl ?_
  rw [up2_a (by omega), hs.lw.2.1]
  have nl6 := hs.lw.1
  refine Vw.bipush (v := 6) (de_bipush (B 17 _ rfl) (B 18 _ rfl)) rfl (n := 19) rfl ?_
  refine Vw.icmp_lt (tgt := 29) (n := 22) (de_icmp_lt (B 19 _ rfl) (B 20 _ rfl) (B 21 _ rfl)) rfl rfl (fun c_19 => ?_) (fun c_19 => ?_)
  · have nlt : nl < 6 := by have := i32_lt.mp c_19; rw [nI_ti (by omega)] at this; have : (nl : Int) < 6 := this; omega
    refine Vw.aload_n (de_aload_0 (B 29 _ rfl)) 0 rfl (n := 30) rfl ?_
    refine Vw.getR (de_getfield (B 30 _ rfl) (B 31 _ rfl) (B 32 _ rfl)) fl_X11_53 rfl hC.k hC.f5 (n := 33) rfl ?_
    refine Vw.aload_n (de_aload_0 (B 33 _ rfl)) 0 rfl (n := 34) rfl ?_
    refine Vw.getR (de_getfield (B 34 _ rfl) (B 35 _ rfl) (B 36 _ rfl)) fl_X11_82 rfl hC.k hC.f11 (n := 37) rfl ?_
    refine Vw.iload_n (de_iload_1 (B 37 _ rfl)) 1 rfl (n := 38) rfl ?_
    refine Vw.iconst (v := 0) (de_iconst_0 (B 38 _ rfl)) rfl (n := 39) rfl ?_
    refine Vw.ivi3 (mi' := mX5_readText) (de_invokevirtual (B 39 _ rfl) (B 40 _ rfl) (B 41 _ rfl)) ml_X11_207 mv_X5_readText hC.p5.k (Nat.le_of_ble_eq_true rfl) (n := 42) rfl (k_readText2 (d := d + 32) (s := x + 1) (tp := x + 856) (n := n) (u := u) (cd := cdT u n) (vl := vlT u n) (o := false) hC.p5 hC.r11 (by omega) htx (fun j hj => by rw [up2_a (by omega)]; exact hu j hj) h4 (fun i a e q => cdT_s q) cdT_n (fun cs c I2 ep f2 hsc e11 len1 eend => ?_) (fun e I2 ep elen f2 e11 => ?_))
    · have hSA : (sUp S (x + 1 + 74) 5 (some (x + 856))).1 = S.1 ∧ (sUp S (x + 1 + 74) 5 (some (x + 856))).2.2 = S.2.2 ∧ ∀ b k, ¬ (b = x + 75 ∧ k = 5) → (sUp S (x + 1 + 74) 5 (some (x + 856))).2.1 b k = S.2.1 b k := ⟨rfl, rfl, fun b k q => up2_n q⟩
      have hC0 := hC
      have hC : ClsS (sUp S (x + 1 + 74) 5 (some (x + 856))) x := hC0.sk (N := x + 942) SK.sup (Nat.le_refl _)
      have n2 : (sUp S (x + 1 + 74) 5 (some (x + 856))).2.2 = S.2.2 := rfl
      generalize sUp S (x + 1 + 74) 5 (some (x + 856)) = SA at hSA hC n2 ⊢
      refine Vw.istore_n (lv2 := [(0, _), (1, _), (2, _)]) (de_istore_2 (B 42 _ rfl)) rfl (by decide) [1, 2, 0] rfl (n := 43) rfl ?_
      refine Vw.aload_n (de_aload_0 (B 43 _ rfl)) 0 rfl (n := 44) rfl ?_
      refine Vw.aload_n (de_aload_0 (B 44 _ rfl)) 0 rfl (n := 45) rfl ?_
      refine Vw.getR (de_getfield (B 45 _ rfl) (B 46 _ rfl) (B 47 _ rfl)) fl_X11_53 rfl hC.k hC.f5 (n := 48) rfl ?_
      refine Vw.getI (de_getfield (B 48 _ rfl) (B 49 _ rfl) (B 50 _ rfl)) fl_X11_211 rfl hC.p5.k (n := 51) rfl ?_
      rw [show I2 (x + 75) 11 = -1 from e11]
      refine Vw.putI (de_putfield (B 51 _ rfl) (B 52 _ rfl) (B 53 _ rfl)) fl_X11_86 hC.k rfl rfl (n := 54) rfl ?_
      refine Vw.iload_n (de_iload_2 (B 54 _ rfl)) 2 rfl (n := 55) rfl ?_
      refine Vw.if_ne (tgt := 65) (n := 58) (de_if_ne (B 55 _ rfl) (B 56 _ rfl) (B 57 _ rfl)) rfl rfl (fun c_55 => ?_) (fun c_55 => ?_)
      · refine Vw.aload_n (de_aload_0 (B 65 _ rfl)) 0 rfl (n := 66) rfl ?_
        refine Vw.aload_n (de_aload_0 (B 66 _ rfl)) 0 rfl (n := 67) rfl ?_
        refine Vw.getR (de_getfield (B 67 _ rfl) (B 68 _ rfl) (B 69 _ rfl)) fl_X11_12 rfl hC.k hC.f0 (n := 70) rfl ?_
        refine Vw.aload_n (de_aload_0 (B 70 _ rfl)) 0 rfl (n := 71) rfl ?_
        refine Vw.getR (de_getfield (B 71 _ rfl) (B 72 _ rfl) (B 73 _ rfl)) fl_X11_53 rfl hC.k hC.f5 (n := 74) rfl ?_
        refine Vw.getR (de_getfield (B 74 _ rfl) (B 75 _ rfl) (B 76 _ rfl)) fl_X11_214 rfl hC.p5.k hC.p5.f0 (n := 77) rfl ?_
        refine Vw.less (cr2 := 0 + (0 + 7 + 1)) (sr2 := 0 + (0 + (0 + c + cs.length + cs.length + cs.length + cs.length + cs.length + cs.length) + 8)) (by omega) (by have := hsc.2.1; have := hsc.2.2.1; omega) ?_
        refine Vw.ivr0m (mi' := mX7_copied) (de_invokevirtual (B 77 _ rfl) (B 78 _ rfl) (B 79 _ rfl)) ml_X11_218 mv_X7_copied hC.p5.p0.k (Nat.le_of_ble_eq_true rfl) (n := 80) rfl (c_X7_copied (d := d + 76) (g := x + 1 + 75) (n := cs.length) (m := c) hC.p5.p0 (by rw [up2_a (by omega)]; exact hsc.1) len1 hsc.2.1 (by rw [up2_a (by omega)]; exact eend) hsc.2.2.1 (by omega) (fun S2 I3 M3 s1 s2 hB f3 z0 zk z7 => ?_))
        have hC := hC.sk (S2 := S2) (x := x) (N := SA.2.2) ⟨fun b hb => (s2 b hb).1, fun b k hb _ _ _ _ => by rw [(s2 b hb).2]⟩ (by omega)
        have i2 : I3 (x + 1) 2 = nI nl := by rw [f3 _ (by omega), up2_a (by omega), f2 _ (by omega), up2_a (by omega)]; exact hs.lw.2.1
        refine Vw.ivi1 (mi' := mX8_addLaw) (de_invokevirtual (B 80 _ rfl) (B 81 _ rfl) (B 82 _ rfl)) ml_X11_224 mv_X8_addLaw hC.p0.k (Nat.le_of_ble_eq_true rfl) (n := 83) rfl (c_X8_addLaw hC.p0 i2 nlt hB.k ?_)
        have hC := hC.sk (N := SA.2.2) (S2 := sUp S2 (x + 1 + 24) nl (some SA.2.2)) ⟨fun _ _ => rfl, fun b k _ q1 _ _ _ => by rw [sUp_o (by omega)]⟩ (by omega)
        refine Vw.ivi1 (mi' := mX11_accept) (de_invokevirtual (B 83 _ rfl) (B 84 _ rfl) (B 85 _ rfl)) ml_X11_117 mv_X11_accept hC.k (Nat.le_of_ble_eq_true rfl) (n := 86) rfl (c_X11_accept hC ?_)
        exact Vw.iret (de_ireturn (B 86 _ rfl)) rfl ⟨_, rfl, (h nlt cs c _ _ _ ep (by rw [sUp_2, s1, n2]) (fun b hb => by rw [sUp_1, (s2 b (by omega)).1, hSA.1]) (fun b k hb q1 q2 => by rw [sUp_o (by omega), (s2 b (by omega)).2]; exact hSA.2.2 b k q2) (fun t ht => by rw [show x + 25 = x + 1 + 24 from rfl, sUp_k ht, (s2 _ (by omega)).2]; exact hSA.2.2 _ _ (by omega)) (by rw [show x + 25 = x + 1 + 24 from rfl, sUp_s, n2]) (by rw [← n2]; exact hB.of rfl (sUp_o (by omega))) (fun b k hb q1 q2 q3 => by rw [up2_n (by omega), f3 b (by omega), up2_n (by omega), f2 b (by omega), up2_n (by omega)]) (by rw [up2_a (by omega), f3 x (by omega), up2_k (by decide), f2 x (by omega), up2_s]) (by rw [up2_a (by omega), f3 x (by omega), up2_s]) (up2_s _ _ _ _) (by
      rw [← n2]
      exact ScR.copy (I := I2) (g := x + 1 + 75) hsc (by rw [up2_a (by omega)]; exact z0) (fun k i k1 k2 hi => by rw [up2_a (by omega), zk k i k1 k2 hi, up2_a (by omega)]) (fun i hi => by rw [up2_a (by omega), z7 i hi, up2_a (by omega)])))⟩
      exact absurd c_55 (by decide)
    · have hSA : (sUp S (x + 1 + 74) 5 (some (x + 856))).1 = S.1 ∧ (sUp S (x + 1 + 74) 5 (some (x + 856))).2.2 = S.2.2 ∧ ∀ b k, ¬ (b = x + 75 ∧ k = 5) → (sUp S (x + 1 + 74) 5 (some (x + 856))).2.1 b k = S.2.1 b k := ⟨rfl, rfl, fun b k q => up2_n q⟩
      have hC0 := hC
      have hC : ClsS (sUp S (x + 1 + 74) 5 (some (x + 856))) x := hC0.sk (N := x + 942) SK.sup (Nat.le_refl _)
      refine Vw.istore_n (lv2 := [(0, _), (1, _), (2, _)]) (de_istore_2 (B 42 _ rfl)) rfl (by decide) [1, 2, 0] rfl (n := 43) rfl ?_
      refine Vw.aload_n (de_aload_0 (B 43 _ rfl)) 0 rfl (n := 44) rfl ?_
      refine Vw.aload_n (de_aload_0 (B 44 _ rfl)) 0 rfl (n := 45) rfl ?_
      refine Vw.getR (de_getfield (B 45 _ rfl) (B 46 _ rfl) (B 47 _ rfl)) fl_X11_53 rfl hC.k hC.f5 (n := 48) rfl ?_
      refine Vw.getI (de_getfield (B 48 _ rfl) (B 49 _ rfl) (B 50 _ rfl)) fl_X11_211 rfl hC.p5.k (n := 51) rfl ?_
      rw [show I2 (x + 75) 11 = _ from e11]
      refine Vw.putI (de_putfield (B 51 _ rfl) (B 52 _ rfl) (B 53 _ rfl)) fl_X11_86 hC.k rfl rfl (n := 54) rfl ?_
      refine Vw.iload_n (de_iload_2 (B 54 _ rfl)) 2 rfl (n := 55) rfl ?_
      refine Vw.if_ne (tgt := 65) (n := 58) (de_if_ne (B 55 _ rfl) (B 56 _ rfl) (B 57 _ rfl)) rfl rfl (fun c_55 => ?_) (fun c_55 => ?_)
      · exact absurd c_55 (by decide)
      refine Vw.aload_n (de_aload_0 (B 58 _ rfl)) 0 rfl (n := 59) rfl ?_
      refine Vw.bipush (v := -6) (de_bipush (B 59 _ rfl) (B 60 _ rfl)) rfl (n := 61) rfl ?_
      refine Vw.ivi1 (mi' := mX11_refuse) (de_invokevirtual (B 61 _ rfl) (B 62 _ rfl) (B 63 _ rfl)) ml_X11_100 mv_X11_refuse hC.k (Nat.le_of_ble_eq_true rfl) (n := 64) rfl (c_X11_refuse (j := 6) hC rfl (by decide) ?_)
      exact Vw.iret (de_ireturn (B 64 _ rfl)) rfl ⟨_, rfl, (h0 nlt e I2 ep elen f2)⟩
  refine Vw.aload_n (de_aload_0 (B 22 _ rfl)) 0 rfl (n := 23) rfl ?_
  refine Vw.bipush (v := -5) (de_bipush (B 23 _ rfl) (B 24 _ rfl)) rfl (n := 25) rfl ?_
  refine Vw.ivi1 (mi' := mX11_refuse) (de_invokevirtual (B 25 _ rfl) (B 26 _ rfl) (B 27 _ rfl)) ml_X11_100 mv_X11_refuse hC.k (Nat.le_of_ble_eq_true rfl) (n := 28) rfl (c_X11_refuse (j := 5) hC rfl (by decide) ?_)
  exact Vw.iret (de_ireturn (B 28 _ rfl)) rfl ⟨_, rfl, (h1 (by rcases Nat.lt_or_ge nl 6 with z | z; exact absurd (i32_lt.mpr (by rw [nI_ti (by omega)]; show (nl : Int) < 6; omega)) c_19; omega))⟩
/-- class and reference in one memory -/
def mix (A B : vI) (r : Nat) : vI := fun b => if r ≤ b ∧ b < r + 28 then B b else A b
theorem mix_r {A B : vI} {r b : Nat} (h1 : r ≤ b) (h2 : b < r + 28) : mix A B r b = B b := if_pos ⟨h1, h2⟩
theorem mix_x {A B : vI} {r b : Nat} (h : ¬ (r ≤ b ∧ b < r + 28)) : mix A B r b = A b := if_neg h
theorem rf_mix {A B : vI} {x r j : Nat} {k : Int32} (h : ∀ b, ¬ (r ≤ b ∧ b < r + 28) → B b = cRef A x k j b) (hx : x + 857 < r) : mRef B r k j = mRef (cRef (mix A B r) x k j) r k j := by
  have e : ∀ b, r ≤ b → b < r + 28 → cRef (mix A B r) x k j b = B b := fun b h1 h2 => by rw [cRef_o (by omega) (by omega), mix_r h1 h2]
  funext b i
  by_cases hb : r ≤ b ∧ b < r + 28
  · unfold mRef
    rw [e (r + 1) (by omega) (by omega)]
    by_cases h1 : b = r + 1 ∧ i = j
    · rw [h1.1, h1.2, up2_s, up2_s]
    · rw [up2_n h1, up2_n h1]
      by_cases h2 : b = r ∧ i = 0
      · rw [h2.1, h2.2, up2_s, up2_s]
      · rw [up2_n h2, up2_n h2, e b hb.1 hb.2]
  · rw [mRef_o (by omega) (by omega), mRef_o (by omega) (by omega), h b hb]
    unfold cRef
    rw [mix_x (b := x + 857) (by omega)]
    by_cases h1 : b = x + 857 ∧ i = j
    · rw [h1.1, h1.2, up2_s, up2_s]
    · rw [up2_n h1, up2_n h1]
      by_cases h2 : b = x ∧ i = 16
      · rw [h2.1, h2.2, up2_s, up2_s]
      · rw [up2_n h2, up2_n h2, mix_x hb]
/-- the shape has changed by what is read alone -/
def SKr (x : Nat) (S S2 : vS) : Prop := S2.1 = S.1 ∧ S2.2.2 = S.2.2 ∧ ∀ b k, ¬ (b = x + 75 ∧ k = 5) → S2.2.1 b k = S.2.1 b k
theorem SKr.rfl {x : Nat} {S : vS} : SKr x S S := ⟨Eq.refl _, Eq.refl _, fun _ _ _ => Eq.refl _⟩
theorem SKr.sup {x : Nat} {S : vS} {w : Option Nat} : SKr x S (sUp S (x + 1 + 74) 5 w) := ⟨Eq.refl _, Eq.refl _, fun b k q => up2_n q⟩
theorem SKr.sc {x lb : Nat} {S S2 : vS} (h : SKr x S S2) (hl : x + 75 < lb) : ∀ a cs m, lb ≤ a → ScS S a cs m → ScS S2 a cs m := fun a cs m ha q => q.rg (fun b g1 g2 => ⟨by rw [h.1], funext fun k => h.2.2 b k (by omega)⟩)
theorem SKr.sp {x r lb : Nat} {S S2 : vS} (h : SKr x S S2) (hP : SPx S x r lb) : SPx S2 x r lb := by
  have w := hP.2.2.2.2.2.2
  have of : ∀ s, s + 24 ≠ x + 75 → LWS S lb s → LWS S2 lb s := fun s hs q => q.of (fun t _ => h.2.2 _ _ (by omega)) (by rw [h.2.1]; exact Nat.le_refl _) (fun b _ => by rw [h.1])
  exact hP.sk ⟨fun b _ => by rw [h.1], fun b k _ _ _ _ q => h.2.2 b k q⟩ (by rw [h.2.1]; exact Nat.le_refl _) (of _ (by omega) w.1) (of _ (by omega) w.2.1) (of _ (by omega) w.2.2)
/-- read in vain: the tape is empty, the fault is told, nothing else has changed -/
theorem REL.tape {S S2 : vS} {I J : vI} {x r lb np nc ns nl : Nat} {l : List tH} (hR : CP S I x lb (I (r + 2)) l (I (r + 7)) (I r) (I (r + 1)) (I (r + 3)) (I (r + 4)) (I (r + 26)) (I (r + 27)) np nc ns nl) (hL : LfR (I (r + 14)) l np) (h32 : I r 32 = nI l.length) (hW : Wd (I (r + 6)) WL 0) (hP : SPx S x r lb) (hS2 : SKr x S S2)
    (row : ∀ b k, ¬ (x + 75 ≤ b ∧ b ≤ x + 87) → ¬ (b = x ∧ (k = 12 ∨ k = 14 ∨ k = 15)) → ¬ (b = r ∧ (k = 8 ∨ k = 11 ∨ k = 12 ∨ (16 ≤ k ∧ k ≤ 19) ∨ k = 43)) → b ≠ r + 9 → b ≠ r + 10 → b ≠ r + 11 → J b k = I b k) (x12 : J x 12 = 0) (r11 : J r 11 = 0) (e14 : J x 14 = J r 12) (e15 : J x 15 = J r 43) : REL S2 J x r lb := by
  have hs := hR.1
  obtain ⟨-, hH, hold, ⟨n, n4, zn, xn⟩, hu, h13, h14, h15, h16, hrf, him, hy, nd, nd8, z54, hyr⟩ := id hR
  have er := hP.2.2.2.1
  have el := hP.2.2.2.2.1
  have rw_ : ∀ b, ¬ (x + 75 ≤ b ∧ b ≤ x + 87) → b ≠ x → b ≠ r → b ≠ r + 9 → b ≠ r + 10 → b ≠ r + 11 → J b = I b := fun b q1 q2 q3 q4 q5 q6 => funext fun k => row b k q1 (by omega) (by omega) q4 q5 q6
  have sc := hS2.sc (lb := lb) (by omega)
  refine REL.upS (np2 := np) (nc2 := nc) (ns2 := ns) (nl2 := nl) (l2 := l) hR hW (hS2.sp hP) (fun b k hb => row b k (by omega) (by omega) (by omega) (by omega) (by omega) (by omega)) (fun b hb => rw_ b (by omega) (by omega) (by omega) (by omega) (by omega) (by omega)) (row _ _ (by omega) (by omega) (by omega) (by omega) (by omega) (by omega)) (row _ _ (by omega) (by omega) (by omega) (by omega) (by omega) (by omega)) (fun k hk => ?_) ?_ ?_ ?_ ?_ ?_ ⟨0, by decide, r11, x12⟩ (fun j hj => ?_) ?_ e14 e15 ?_ (fun i hi => ?_)
  · rw [rw_ (x + 855) (by omega) (by omega) (by omega) (by omega) (by omega) (by omega), rw_ (r + 4) (by omega) (by omega) (by omega) (by omega) (by omega) (by omega), rw_ (r + 3) (by omega) (by omega) (by omega) (by omega) (by omega) (by omega)]
    refine ⟨(him k hk).1, fun q => ?_⟩
    obtain ⟨a, b, c, e, st⟩ := (him k hk).2 q
    exact ⟨a, b, c, e, (st.sk (fun t _ => hS2.2.2 _ _ (by omega)) sc).of (fun b g1 g2 => rw_ b (by omega) (by omega) (by omega) (by omega) (by omega) (by omega)) (fun b hb => rw_ b (by omega) (by omega) (by omega) (by omega) (by omega) (by omega))⟩
  · rw [rw_ (r + 2) (by omega) (by omega) (by omega) (by omega) (by omega) (by omega)]
    exact (hs.sk (fun t _ => hS2.2.2 _ _ (by omega)) sc).of (fun b g1 g2 => rw_ b (by omega) (by omega) (by omega) (by omega) (by omega) (by omega)) (fun b hb => rw_ b (by omega) (by omega) (by omega) (by omega) (by omega) (by omega))
  · exact hH.of hs.tn.1 (fun b g1 g2 => rw_ b (by omega) (by omega) (by omega) (by omega) (by omega) (by omega))
  · rw [rw_ (r + 14) (by omega) (by omega) (by omega) (by omega) (by omega) (by omega)]; exact hL
  · rw [row _ _ (by omega) (by omega) (by omega) (by omega) (by omega) (by omega)]; exact h32
  · rw [rw_ (x + 460) (by omega) (by omega) (by omega) (by omega) (by omega) (by omega)]; exact hold
  · rw [rw_ (x + 856) (by omega) (by omega) (by omega) (by omega) (by omega) (by omega), rw_ (r + 7) (by omega) (by omega) (by omega) (by omega) (by omega) (by omega)]; exact hu j hj
  · rw [row _ _ (by omega) (by omega) (by omega) (by omega) (by omega) (by omega), row _ _ (by omega) (by omega) (by omega) (by omega) (by omega) (by omega)]; exact h13
  · rw [row _ _ (by omega) (by omega) (by omega) (by omega) (by omega) (by omega), row _ _ (by omega) (by omega) (by omega) (by omega) (by omega) (by omega)]; exact h16
  · rw [rw_ (x + 857) (by omega) (by omega) (by omega) (by omega) (by omega) (by omega), rw_ (r + 1) (by omega) (by omega) (by omega) (by omega) (by omega) (by omega)]; exact hrf i hi
theorem STR.grow {S S2 : vS} {I J : vI} {s lb np nc ns nl : Nat} {K : Nat → Int32} (h : STR S I s lb K np nc ns nl) (hw : LWS S lb s) (e0 : ∀ b, s ≤ b → b ≤ s + 27 → J b = I b) (e1 : ∀ b, lb ≤ b → b < S.2.2 → J b = I b) (e : ∀ t, t < 6 → S2.2.1 (s + 24) t = S.2.1 (s + 24) t) (f : ∀ b, lb ≤ b → b < S.2.2 → S2.1 b = S.1 b ∧ S2.2.1 b = S.2.1 b) : STR S2 J s lb K np nc ns nl := by
  have hs := e0 s (Nat.le_refl _) (by omega)
  obtain ⟨l1, l2, l3, l4⟩ := h.lw
  refine ⟨h.tr.of (fun b g1 g2 => e0 b (by omega) (by omega)) h.tn.1 h.tn.2.1, h.tn, h.kb, h.sr.of hs (fun b g1 g2 => e0 b (by omega) (by omega)), h.n143, h.sb, ⟨l1, by rw [hs]; exact l2, l3, fun t ht => ?_⟩, by rw [hs]; exact h.fo, h.fr, by rw [hs]; exact h.fe, by rw [hs]; exact h.mo, h.f10⟩
  obtain ⟨a, cs, m, a1, a2, a3, a4, a5⟩ := l4 t ht
  have a8 : a + 8 ≤ S.2.2 := by
    rcases hw t (by omega) with q | ⟨a', _, b2, b3, _⟩
    · rw [q] at a2; cases a2
    · rw [b3] at a2; cases a2; exact b2
  exact ⟨a, cs, m, a1, (e t (by omega)).trans a2, a3.rg (fun b g1 g2 => f b (by omega) (by omega)), a4.of (fun k hk => e1 _ (by omega) (by omega)), a5⟩
theorem pm_n2 {I : vI} {r : Nat} {t l b : Int32} {a k : Nat} (h : ¬ (a = r ∧ (17 ≤ k ∧ k ≤ 19))) : pm I r t l b a k = I a k := by
  unfold pm; rw [if_neg (by omega), if_neg (by omega), if_neg (by omega)]
theorem mLay_n {I : vI} {r t nt j y : Nat} (h1 : y ≠ 146 + t) (h2 : ¬ (153 + 400 * t ≤ y ∧ y < 153 + 400 * t + j)) (h3 : ¬ (2953 + 400 * t ≤ y ∧ y < 2953 + 400 * t + j)) : mLay I r t nt j (r + 2) y = I (r + 2) y := by
  unfold mLay; rw [if_neg (fun q => h1 q.2), if_neg (fun q => h2 q.2), if_neg (fun q => h3 q.2)]
theorem mLay_c {I : vI} {r t nt j i : Nat} (ht : t < 6) (hj : j ≤ 400) (hi : i < j) : mLay I r t nt j (r + 2) (153 + 400 * t + i) = I (r + 9) i ∧ mLay I r t nt j (r + 2) (2953 + 400 * t + i) = I (r + 10) i := by
  unfold mLay
  refine ⟨?_, ?_⟩
  · rw [if_neg (by omega), if_pos (by omega), show 153 + 400 * t + i - (153 + 400 * t) = i by omega]
  · rw [if_neg (by omega), if_neg (by omega), if_pos (by omega), show 2953 + 400 * t + i - (2953 + 400 * t) = i by omega]
theorem mLay_l {I : vI} {r t nt j : Nat} : mLay I r t nt j (r + 2) (146 + t) = nI nt := by unfold mLay; rw [if_pos ⟨rfl, rfl⟩]
theorem LawOK.low {K G : Nat → Int32} {t : Nat} {cs : List tC} (h : LawOK (fun _ => K) 0 t cs) (e : G (146 + t) = K (146 + t)) (e1 : ∀ i, i < 400 → G (153 + 400 * t + i) = K (153 + 400 * t + i) ∧ G (2953 + 400 * t + i) = K (2953 + 400 * t + i)) : LawOK (fun _ => G) 0 t cs := by
  obtain ⟨cd, vl, nt, h1, h2, h3, h4, h5⟩ := h
  refine ⟨cd, vl, nt, fun i hi => ?_, h2, h3, ?_, h5⟩
  · show G _ = _ ∧ G _ = _
    rw [(e1 i (by omega)).1, (e1 i (by omega)).2]; exact h1 i hi
  · show G _ = _
    rw [e]; exact h4
theorem klO_f : klO false = 8 := rfl
theorem nbX_f : nbX false = 5 := rfl
theorem dNX_f : dNX false = tD1 := rfl
theorem vbX_f : vbX false = vbL := rfl
theorem pr_law {S : vS} {I : vI} {L : vL} {x r lb : Nat} (hR : REL S I x r lb) : PR mX11_law mX12_law 8 480 [] x r lb S I L := by
  intro d Q h
  obtain ⟨l, np, nc, ns, nl, hCP, hL, h32, hWd, hSP⟩ := hR
  have hR : REL S I x r lb := ⟨l, np, nc, ns, nl, hCP, hL, h32, hWd, hSP⟩
  have hs := hCP.1
  have hH := hCP.2.1
  have hN := hs.tn
  obtain ⟨hC, hM, hst, er, el, hl2⟩ := id hSP
  obtain ⟨-, -, hold, ⟨n, n4, zn, xn⟩, hu, h13, h14, h15, h16, hrf, him, hy, nd, nd8, z54, hyr⟩ := id hCP
  have hlw := hSP.2.2.2.2.2.2
  have hlN : lb ≤ S.2.2 := hSP.2.2.2.2.2.1
  have tx : ∀ k, k < 11 → ∃ z, TxS S k z := fun k hk => by obtain ⟨z, b, -, -, z3, z4⟩ := hst k hk; exact ⟨z, hk, z3, b, z4⟩
  obtain ⟨l1, l2', l3, l4⟩ := hs.lw
  refine k_law (n := n) (u := I (r + 7)) hC hs hH (by omega) xn n4 hu tx hlN (fun c1 => h _ S _ L (fun _ _ => rfl) (fun d2 Q2 g => ?_)) (fun c1 e I2 ep en f2 => h _ _ _ L (fun _ _ => rfl) (fun d2 Q2 g => ?_)) (fun c1 cs c S2 I2 M ep s1 s2 s3 s4 s5 hB f2 x12 x14 i2 hsc => h _ S2 _ M (fun b hb => s2 b (by omega)) (fun d2 Q2 g => ?_))
  · refine c_X12_law (d := d2 + 24) (n := n) (nl := nl) hM (by rw [cRef_o (by omega) (by omega), up2_row (by omega)]; exact zn) n4 (by rw [cRef_o (by omega) (by omega), up2_row (by omega)]; exact hWd) (by rw [cRef_o (by omega) (by omega), up2_row (by omega)]; exact l3) l1 (fun _ => ?_) (fun q => absurd q (by omega)) (fun q => absurd q (by omega))
    rw [rf_mix (A := up2 I x 12 0) (x := x) (fun b hb => up2_row (by omega)) (by omega)]
    have R0 : REL S (mix (up2 I x 12 0) (up2 (cRef (up2 I x 12 0) x (-5) 5) r 11 0) r) x r lb := by
      refine REL.tape hCP hL h32 hWd hSP SKr.rfl (fun b k q1 q2 q3 q4 q5 q6 => ?_) (by rw [mix_x (by omega), up2_s]) (by rw [mix_r (by omega) (by omega), up2_s]) ?_ ?_
      · by_cases hb : r ≤ b ∧ b < r + 28
        · rw [mix_r hb.1 hb.2, up2_n (by omega), cRef_o (by omega) (by omega), up2_row (by omega)]
        · rw [mix_x hb, up2_n (by omega)]
      · rw [mix_x (by omega), mix_r (by omega) (by omega), up2_k (by decide), up2_k (by decide), cRef_o (by omega) (by omega), up2_row (by omega)]; exact h14
      · rw [mix_x (by omega), mix_r (by omega) (by omega), up2_k (by decide), up2_k (by decide), cRef_o (by omega) (by omega), up2_row (by omega)]; exact h15
    exact g _ _ (R0.ref (by decide)) (fun b hb => by rw [mRef_o (by omega) (by omega), cRef_o (by omega) (by omega), mix_x (by omega), up2_row (by omega)])
  · have hSP2 := (SKr.sup (w := some (x + 856))).sp hSP
    obtain ⟨A, eA⟩ : ∃ z, z = up2 I2 x 14 (nI (plcT (tkL (I (r + 7)) n 401 0) n e)) := ⟨_, rfl⟩
    rw [← eA]
    have fA : ∀ b k, ¬ (x + 75 ≤ b ∧ b ≤ x + 87) → ¬ (b = x ∧ (k = 12 ∨ k = 14)) → A b k = I b k := fun b k q1 q2 => by rw [eA, up2_n (by omega), f2 b (by omega), up2_n (by omega)]
    have rA : ∀ b, r ≤ b → A b = I b := fun b hb => funext fun k => fA b k (by omega) (by omega)
    have rC : ∀ b, r ≤ b → cRef A x (-6) 6 b = I b := fun b hb => by rw [cRef_o (by omega) (by omega), rA b hb]
    refine c_X12_law (d := d2 + 24) (n := n) (nl := nl) hSP2.2.1 (by rw [rC _ (by omega)]; exact zn) n4 (by rw [rC _ (by omega)]; exact hWd) (by rw [rC _ (by omega)]; exact l3) l1 (fun q => absurd q (by omega)) (fun _ J nt f t l3 rd hnt et hf => ?_) (fun _ J nt cs t l3 rd hnt et => ?_)
    · have rt := rd.rows_
      have tx2 := rd.tx
      rw [up2_row (by omega), rC _ (by omega)] at rt tx2
      rw [up2_s] at tx2
      obtain ⟨t1, t2, t3, t4, t5⟩ := rt
      have ef : f = e := by
        rw [tx2, t1] at et
        have := ep.symm.trans et
        cases this; rfl
      subst ef
      rw [t4 f hf, rf_mix (A := A) (x := x) (fun b hb => funext fun k => by rw [up2_n (by omega), pm_n2 (by omega), rd.same (by omega) (by omega) (by omega) (by omega) (by omega), up2_n (by omega)]) (by omega)]
      have jk : ∀ b k, b ≠ r + 9 → b ≠ r + 10 → b ≠ r + 11 → ¬ (b = r ∧ (k = 8 ∨ k = 11 ∨ k = 16)) → r ≤ b → J b k = I b k := fun b k q1 q2 q3 q4 q5 => by rw [rd.same q1 q2 q3 (by omega) (by omega), up2_n (by omega), rC b q5]
      have R0 : REL (sUp S (x + 1 + 74) 5 (some (x + 856))) (mix A (up2 (pm J r t l3 (nI (plcT (tkL (I (r + 7)) n 401 0) n f))) r 12 (nI (plcT (tkL (I (r + 7)) n 401 0) n f))) r) x r lb := by
        refine REL.tape hCP hL h32 hWd hSP SKr.sup (fun b k q1 q2 q3 q4 q5 q6 => ?_) (by rw [mix_x (by omega), eA, up2_k (by decide), f2 x (by omega), up2_s]) (by rw [mix_r (by omega) (by omega), up2_k (by decide), pm_n2 (by omega)]; exact t5) ?_ ?_
        · by_cases hb : r ≤ b ∧ b < r + 28
          · rw [mix_r hb.1 hb.2, up2_n (by omega), pm_n2 (by omega), jk b k q4 q5 q6 (by omega) hb.1]
          · rw [mix_x hb]; exact fA b k q1 (by omega)
        · rw [mix_x (by omega), mix_r (by omega) (by omega), eA, up2_s, up2_s]
        · rw [mix_x (by omega), mix_r (by omega) (by omega), up2_k (by decide), pm_n2 (by omega), jk r 43 (by omega) (by omega) (by omega) (by omega) (by omega), fA x 15 (by omega) (by omega)]; exact h15
      exact g _ _ (R0.ref (by decide)) (fun b hb => funext fun k => by rw [mRef_o (by omega) (by omega), cRef_o (by omega) (by omega), mix_x (by omega), fA b k (by omega) (by omega)])
    · have rt := rd.rows_
      have tx2 := rd.tx
      rw [up2_row (by omega), rC _ (by omega)] at rt tx2
      rw [up2_s] at tx2
      rw [tx2, rt.1] at et
      exact absurd (ep.symm.trans et) (by intro q; cases q)
  · have sk : SK x S.2.2 S S2 := ⟨s2, fun b k hb q1 _ _ q4 => s3 b k hb q1 q4⟩
    have k7 : (S2.1 S.2.2).1 = 7 := hB.k
    have w0 : LWS S2 lb (x + 1) := fun t ht => by
      by_cases z : t = nl
      · subst z; exact Or.inr ⟨S.2.2, hlN, by omega, s5, k7⟩
      · rcases hlw.1 t ht with q | ⟨a, a1, a2, a3, a4⟩
        · exact Or.inl ((s4 t z).trans q)
        · exact Or.inr ⟨a, a1, by omega, (s4 t z).trans a3, by rw [s2 a (by omega)]; exact a4⟩
    have w1 : LWS S2 lb (x + 858) := hlw.2.1.of (fun t _ => s3 _ _ (by omega) (by omega) (by omega)) (by omega) s2
    have w2 : LWS S2 lb (x + 886) := hlw.2.2.of (fun t _ => s3 _ _ (by omega) (by omega) (by omega)) (by omega) s2
    have hSP2 := hSP.sk sk (by omega) w0 w1 w2
    have rC : ∀ b, r ≤ b → b < S.2.2 → cAcc I2 x b = I b := fun b hb hb2 => funext fun k => by rw [cAcc_o (by omega)]; exact f2 b k hb2 (by omega) (by omega) (by omega)
    refine c_X12_law (d := d2 + 24) (n := n) (nl := nl) hSP2.2.1 (by rw [rC _ (by omega) (by omega)]; exact zn) n4 (by rw [rC _ (by omega) (by omega)]; exact hWd) (by rw [rC _ (by omega) (by omega)]; exact l3) l1 (fun q => absurd q (by omega)) (fun _ J nt f t l3 rd hnt et hf => ?_) (fun _ J nt cs2 t l3 rd hnt et => ?_)
    · have rt := rd.rows_
      have tx2 := rd.tx
      rw [up2_row (by omega), rC _ (by omega) (by omega)] at rt tx2
      rw [up2_s] at tx2
      rw [tx2, rt.1] at et
      exact absurd (ep.symm.trans et) (by intro q; cases q)
    have rt := rd.rows_
    have tx2 := rd.tx
    rw [up2_row (by omega), rC _ (by omega) (by omega)] at rt tx2
    rw [up2_s] at tx2
    obtain ⟨t1, t2, t3, t4, t5⟩ := rt
    have ecs : cs2 = cs := by
      rw [tx2, t1] at et
      have := ep.symm.trans et
      cases this; rfl
    subst ecs
    have vb := all_text (fun i l j l2 c q => verbs_law q) ep
    obtain ⟨Jf, eJ⟩ : ∃ z, z = mGood (up2 (mLay (up2 (pm J r t l3 (-1)) r 12 (-1)) r nl nt nt) (r + 2) 144 (nI (nl + 1))) r := ⟨_, rfl⟩
    rw [← eJ]
    have jx : ∀ b k, b ≠ r + 9 → b ≠ r + 10 → b ≠ r + 11 → ¬ (b = r ∧ (k = 8 ∨ k = 11 ∨ k = 16)) → J b k = cAcc I2 x b k := fun b k q1 q2 q3 q4 => by rw [rd.same q1 q2 q3 (by omega) (by omega), up2_n (by omega)]
    have jo : ∀ b k, b ≠ r + 2 → b ≠ r + 9 → b ≠ r + 10 → b ≠ r + 11 → ¬ (b = r ∧ (k = 0 ∨ k = 8 ∨ k = 11 ∨ k = 12 ∨ (16 ≤ k ∧ k ≤ 19))) → Jf b k = cAcc I2 x b k := fun b k q0 q1 q2 q3 q4 => by
      rw [eJ]; unfold mGood; rw [up2_n (by omega), up2_n (by omega), mLay_o q0, up2_n (by omega), pm_n2 (by omega), jx b k q1 q2 q3 (by omega)]
    have jr : ∀ b, b ≠ r → b ≠ r + 2 → b ≠ r + 9 → b ≠ r + 10 → b ≠ r + 11 → Jf b = cAcc I2 x b := fun b q q0 q1 q2 q3 => funext fun k => jo b k q0 q1 q2 q3 (by omega)
    have kx : ∀ y, Jf (r + 2) y = if y = 144 then nI (nl + 1) else mLay (up2 (pm J r t l3 (-1)) r 12 (-1)) r nl nt nt (r + 2) y := fun y => by
      rw [eJ, mGood_o (by omega)]
      by_cases z : y = 144
      · rw [if_pos z, z, up2_s]
      · rw [if_neg z, up2_k z]
    have kn : ∀ y, y ≠ 144 → y ≠ 146 + nl → ¬ (153 + 400 * nl ≤ y ∧ y < 153 + 400 * nl + nt) → ¬ (2953 + 400 * nl ≤ y ∧ y < 2953 + 400 * nl + nt) → Jf (r + 2) y = I (r + 2) y := fun y q0 q1 q2 q3 => by
      rw [kx, if_neg q0, mLay_n q1 q2 q3, up2_row (by omega), pm_n2 (by omega), jx _ _ (by omega) (by omega) (by omega) (by omega), rC _ (by omega) (by omega)]
    have fI : ∀ b k, b < S.2.2 → ¬ (x + 75 ≤ b ∧ b ≤ x + 87) → ¬ (b = x ∧ (k = 12 ∨ k = 14 ∨ k = 16)) → ¬ (b = x + 1 ∧ k = 2) → b ≠ r + 2 → b ≠ r + 9 → b ≠ r + 10 → b ≠ r + 11 → ¬ (b = r ∧ (k = 0 ∨ k = 8 ∨ k = 11 ∨ k = 12 ∨ (16 ≤ k ∧ k ≤ 19))) → Jf b k = I b k := fun b k q0 q1 q2 q3 q4 q5 q6 q7 q8 => by
      rw [jo b k q4 q5 q6 q7 q8]; unfold cAcc; rw [up2_n (by omega)]; exact f2 b k q0 q1 (by omega) q3
    have fR : ∀ b, b < S.2.2 → ¬ (x + 75 ≤ b ∧ b ≤ x + 87) → b ≠ x → b ≠ x + 1 → b ≠ r → b ≠ r + 2 → b ≠ r + 9 → b ≠ r + 10 → b ≠ r + 11 → Jf b = I b := fun b q0 q1 q2 q3 q4 q5 q6 q7 q8 => funext fun k => fI b k q0 q1 (by omega) (by omega) q5 q6 q7 q8 (by omega)
    have he1 : ∀ b, lb ≤ b → b < S.2.2 → Jf b = I b := fun b h1 h2 => fR b (by omega) (by omega) (by omega) (by omega) (by omega) (by omega) (by omega) (by omega) (by omega)
    have hf : ∀ b, lb ≤ b → b < S.2.2 → S2.1 b = S.1 b ∧ S2.2.1 b = S.2.1 b := fun b h1 h2 => ⟨s2 b h2, funext fun k => s3 b k h2 (by omega) (by omega)⟩
    have kl : ∀ y, y < 144 ∨ y = 145 → Jf (r + 2) y = I (r + 2) y := fun y hy => kn y (by omega) (by omega) (by omega) (by omega)
    refine g _ _ (REL.upS (np2 := np) (nc2 := nc) (ns2 := ns) (nl2 := nl + 1) (l2 := l) hCP hWd hSP2 (fun b k hb => fI b k (by omega) (by omega) (by omega) (by omega) (by omega) (by omega) (by omega) (by omega) (by omega)) (fun b hb => fR b (by omega) (by omega) (by omega) (by omega) (by omega) (by omega) (by omega) (by omega) (by omega)) (fI r 54 (by omega) (by omega) (by omega) (by omega) (by omega) (by omega) (by omega) (by omega) (by omega)) (fI r 56 (by omega) (by omega) (by omega) (by omega) (by omega) (by omega) (by omega) (by omega) (by omega)) (fun k hk => ?_) ?_ ?_ ?_ ?_ ?_ ⟨0, by decide, ?_, ?_⟩ (fun j hj => ?_) ?_ ?_ ?_ ?_ (fun i hi => ?_)) (fun b hb => fR b (by omega) (by omega) (by omega) (by omega) (by omega) (by omega) (by omega) (by omega) (by omega))
    · rw [fR (x + 855) (by omega) (by omega) (by omega) (by omega) (by omega) (by omega) (by omega) (by omega) (by omega), fR (r + 4) (by omega) (by omega) (by omega) (by omega) (by omega) (by omega) (by omega) (by omega) (by omega), fR (r + 3) (by omega) (by omega) (by omega) (by omega) (by omega) (by omega) (by omega) (by omega) (by omega)]
      refine ⟨(him k hk).1, fun q => ?_⟩
      obtain ⟨a, b, c, e, st⟩ := (him k hk).2 q
      exact ⟨a, b, c, e, st.grow (by rcases (show k = 0 ∨ k = 1 by omega) with rfl | rfl; exact hlw.2.1; exact hlw.2.2) (fun b g1 g2 => fR b (by omega) (by omega) (by omega) (by omega) (by omega) (by omega) (by omega) (by omega) (by omega)) he1 (fun t _ => s3 _ _ (by omega) (by omega) (by omega)) hf⟩
    · refine ⟨(hs.tr.of (fun b g1 g2 => fR b (by omega) (by omega) (by omega) (by omega) (by omega) (by omega) (by omega) (by omega) (by omega)) hN.1 hN.2.1).kx hN.1 hN.2.1 (fun y hy => kl y (by omega)), hN.of (fun y q1 q2 => kl y (by omega)), hs.kb.of hN.1 hN.2.1 (fun y hy => kl y (by omega)), ⟨(fI (x + 1) 9 (by omega) (by omega) (by omega) (by omega) (by omega) (by omega) (by omega) (by omega) (by omega)).trans hs.sr.1, hs.sr.2.1, fun i hi => ?_⟩, (kl _ (by omega)).trans hs.n143, fun i hi => ?_, ⟨by omega, ?_, ?_, fun t2' ht => ?_⟩, ?_, ?_, ?_, ?_, ?_⟩
      · have := hs.sr.2.1
        rw [fR (x + 1 + 25) (by omega) (by omega) (by omega) (by omega) (by omega) (by omega) (by omega) (by omega) (by omega), fR (x + 1 + 26) (by omega) (by omega) (by omega) (by omega) (by omega) (by omega) (by omega) (by omega) (by omega), fR (x + 1 + 27) (by omega) (by omega) (by omega) (by omega) (by omega) (by omega) (by omega) (by omega) (by omega), kl _ (by omega), kl _ (by omega), kl _ (by omega)]; exact hs.sr.2.2 i hi
      · have := hs.sr.2.1
        rw [kl _ (by omega)]; exact hs.sb i hi
      · rw [jo (x + 1) 2 (by omega) (by omega) (by omega) (by omega) (by omega), cAcc_o (by omega)]; exact i2
      · rw [kx, if_pos rfl]
      · by_cases z : t2' = nl
        · subst z
          refine ⟨S.2.2, cs2, c, hlN, s5, hB, hsc.of (fun k _ => ?_), vb, cdT (I (r + 7)) n, vlT (I (r + 7)) n, nt, fun i hi => ?_, by rw [t1]; exact cdT_n, hnt, ?_, by rw [t1]; exact ep⟩
          · rw [jr _ (by omega) (by omega) (by omega) (by omega) (by omega), cAcc_o (by omega)]
          · show Jf (r + 2) _ = _ ∧ Jf (r + 2) _ = _
            rw [kx, if_neg (by omega), kx, if_neg (by omega), (mLay_c c1 hnt hi).1, (mLay_c c1 hnt hi).2, up2_row (by omega), up2_row (by omega), pm_n2 (by omega), pm_n2 (by omega)]
            exact ⟨t2 i (by omega), t3 i hi⟩
          · show Jf (r + 2) _ = _
            rw [kx, if_neg (by omega), mLay_l]
        · obtain ⟨a, cs', m, a1, a2, a3, a4, a5, a6⟩ := l4 t2' (by omega)
          have a8 : a + 8 ≤ S.2.2 := by
            rcases hlw.1 t2' (by omega) with q | ⟨a', _, b2, b3, _⟩
            · rw [show x + 1 + 24 = x + 25 from rfl] at q a2; rw [q] at a2; cases a2
            · rw [b3] at a2; cases a2; exact b2
          refine ⟨a, cs', m, a1, (s4 t2' z).trans a2, a3.rg (fun b g1 g2 => hf b (by omega) (by omega)), a4.of (fun k hk => he1 _ (by omega) (by omega)), a5, a6.low (kn _ (by omega) (by omega) (by omega) (by omega)) (fun i hi => ⟨kn _ (by omega) (by omega) (by omega) (by omega), kn _ (by omega) (by omega) (by omega) (by omega)⟩)⟩
      · rw [fI (x + 1) 3 (by omega) (by omega) (by omega) (by omega) (by omega) (by omega) (by omega) (by omega) (by omega), kl _ (by omega)]; exact hs.fo
      · rw [kl _ (by omega)]
        rcases hs.fr with q | ⟨q, q1, q2⟩
        · exact Or.inl q
        · exact Or.inr ⟨q, by omega, q2⟩
      · rw [fI (x + 1) 4 (by omega) (by omega) (by omega) (by omega) (by omega) (by omega) (by omega) (by omega) (by omega), kl _ (by omega)]; exact hs.fe
      · rw [fI (x + 1) 5 (by omega) (by omega) (by omega) (by omega) (by omega) (by omega) (by omega) (by omega) (by omega), kl _ (by omega)]; exact hs.mo
      · rw [kl _ (by omega)]; exact hs.f10
    · exact hH.of hN.1 (fun b g1 g2 => fR b (by omega) (by omega) (by omega) (by omega) (by omega) (by omega) (by omega) (by omega) (by omega))
    · rw [fR (r + 14) (by omega) (by omega) (by omega) (by omega) (by omega) (by omega) (by omega) (by omega) (by omega)]; exact hL
    · rw [fI r 32 (by omega) (by omega) (by omega) (by omega) (by omega) (by omega) (by omega) (by omega) (by omega)]; exact h32
    · rw [fR (x + 460) (by omega) (by omega) (by omega) (by omega) (by omega) (by omega) (by omega) (by omega) (by omega)]; exact hold
    · rw [eJ, mGood_k (by decide), up2_row (by omega), mLay_o (by omega), up2_k (by decide), pm_n2 (by omega)]; exact t5
    · rw [jo x 12 (by omega) (by omega) (by omega) (by omega) (by omega)]; unfold cAcc; rw [up2_k (by decide)]; exact x12
    · rw [fR (x + 856) (by omega) (by omega) (by omega) (by omega) (by omega) (by omega) (by omega) (by omega) (by omega), fR (r + 7) (by omega) (by omega) (by omega) (by omega) (by omega) (by omega) (by omega) (by omega) (by omega)]; exact hu j hj
    · rw [fI x 13 (by omega) (by omega) (by omega) (by omega) (by omega) (by omega) (by omega) (by omega) (by omega), fI r 6 (by omega) (by omega) (by omega) (by omega) (by omega) (by omega) (by omega) (by omega) (by omega)]; exact h13
    · rw [jo x 14 (by omega) (by omega) (by omega) (by omega) (by omega), eJ, mGood_k (by decide), up2_row (by omega), mLay_o (by omega), up2_s]; unfold cAcc; rw [up2_k (by decide)]; exact x14
    · rw [fI x 15 (by omega) (by omega) (by omega) (by omega) (by omega) (by omega) (by omega) (by omega) (by omega), fI r 43 (by omega) (by omega) (by omega) (by omega) (by omega) (by omega) (by omega) (by omega) (by omega)]; exact h15
    · rw [jo x 16 (by omega) (by omega) (by omega) (by omega) (by omega), cAcc_16, eJ, mGood_0]
    · rw [fR (x + 857) (by omega) (by omega) (by omega) (by omega) (by omega) (by omega) (by omega) (by omega) (by omega), fR (r + 1) (by omega) (by omega) (by omega) (by omega) (by omega) (by omega) (by omega) (by omega) (by omega)]; exact hrf i hi
