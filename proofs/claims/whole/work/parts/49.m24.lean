/-! Growing: pure -/
abbrev tP : Type := Int32 × Int32 × Int32 × Int32
/-- the law in force, the mood -/
abbrev tW : Type := Option (List tC) × Int32
def nvA (p age fed size wide tl now mo : Int32) : Nat → Int32
  | 0 => p
  | 1 => age
  | 2 => fed
  | 3 => size
  | 4 => wide
  | 5 => tl
  | 6 => now - now / 4 * 4
  | 7 => mo
  | _ => 0
def growP (W : tW) (p now : Int32) (P : tP) : Int32 := tellsP W.1 1 0 9 (if P.1 < 64 then 1 else 0) (nvA p P.1 P.2.2.2 P.2.1 P.2.2.1 (-1) now W.2)
def widenP (W : tW) (p now : Int32) (P : tP) : Int32 := tellsP W.1 2 (-9) 9 P.2.2.2 (nvA p P.1 P.2.2.2 P.2.1 P.2.2.1 (-1) now W.2)
def clothP (W : tW) (p tl size wide now : Int32) (P : tP) : Int32 := tellsP W.1 3 0 999 (size * wide / 50) (nvA p P.1 P.2.2.2 size wide tl now W.2)
def payP (W : tW) (p tl size wide now : Int32) (P : tP) : Int32 := tellsP W.1 4 0 999 20 (nvA p P.1 P.2.2.2 size wide tl now W.2)
def barP (W : tW) (p tl size wide now : Int32) (P : tP) : Int32 := if tellsP W.1 5 0 1 0 (nvA p P.1 P.2.2.2 size wide tl now W.2) = 1 then 1 else 0
theorem growP_1 {W : tW} {p now : Int32} {P : tP} (h : P.1 < 64) : growP W p now P = tellsP W.1 1 0 9 1 (nvA p P.1 P.2.2.2 P.2.1 P.2.2.1 (-1) now W.2) := by unfold growP; rw [if_pos h]
theorem growP_0 {W : tW} {p now : Int32} {P : tP} (h : ¬ P.1 < 64) : growP W p now P = tellsP W.1 1 0 9 0 (nvA p P.1 P.2.2.2 P.2.1 P.2.2.1 (-1) now W.2) := by unfold growP; rw [if_neg h]
theorem barP_1 {W : tW} {p tl size wide now : Int32} {P : tP} (h : tellsP W.1 5 0 1 0 (nvA p P.1 P.2.2.2 size wide tl now W.2) = 1) : barP W p tl size wide now P = 1 := by unfold barP; rw [if_pos h]
theorem barP_0 {W : tW} {p tl size wide now : Int32} {P : tP} (h : ¬ tellsP W.1 5 0 1 0 (nvA p P.1 P.2.2.2 size wide tl now W.2) = 1) : barP W p tl size wide now P = 0 := by unfold barP; rw [if_neg h]
theorem qv {Q : Int32 → vS → vI → vL → Prop} {v w : Int32} {S : vS} {I : vI} {L : vL} (e : v = w) (h : Q v S I L) : Q w S I L := e ▸ h
def stepP (W : tW) (p now : Int32) (P : tP) : tP := (zMin 999 (P.1 + 1), zWithin (P.2.1 + growP W p now P) 20 250, zWithin (P.2.2.1 + widenP W p now P) 5 200, P.2.2.2)
def feastP (P : tP) : tP := (P.1, P.2.1, zMin 200 (P.2.2.1 + 1), P.2.2.2)
def walkP (W : tW) (p now : Int32) (P : tP) : Nat → tP
  | 0 => P
  | k + 1 => stepP W p (now + nI k) (walkP W p now P k)
/-! the reference: what lies in kept -/
def LawIn (K : Nat → Int32) (law : Option (List tC)) : Prop := (∃ np, np ≤ 8 ∧ K 142 = nI np) ∧ ((K 145 = -1 ∧ law = none) ∨ ∃ t cs, t < 6 ∧ K 145 = nI t ∧ LawOK (fun _ => K) 0 t cs ∧ law = some cs)
def WD (K : Nat → Int32) (W : tW) : Prop := LawIn K W.1 ∧ K 141 = W.2
def PP (I : vI) (r : Nat) : tP := (I r 26, I r 27, I r 28, I r 29)
def perP (K : Nat → Int32) (q : Nat) : tP := (K (4 * q), K (4 * q + 1), K (4 * q + 2), K (4 * q + 3))
/-- nothing but what is asked and the one that is taken has changed -/
def Fr (r : Nat) (I I2 : vI) : Prop := ∀ a k, ¬ (a = r ∧ 20 ≤ k ∧ k ≤ 29) → a ≠ r + 12 → I2 a k = I a k
theorem Fr.rfl {r : Nat} {I : vI} : Fr r I I := fun _ _ _ _ => Eq.refl _
theorem Fr.trans {r : Nat} {I I2 I3 : vI} (h : Fr r I I2) (g : Fr r I2 I3) : Fr r I I3 := fun a k h1 h2 => (g a k h1 h2).trans (h a k h1 h2)
theorem Fr.k {r : Nat} {I I2 : vI} (h : Fr r I I2) : I2 (r + 2) = I (r + 2) := funext fun k => h _ _ (by omega) (by omega)
theorem Fr.a {r : Nat} {I I2 : vI} (h : Fr r I I2) (a : Nat) (h1 : a ≠ r) (h2 : a ≠ r + 12) : I2 a = I a := funext fun k => h _ _ (by omega) h2
theorem SameQ.fr {r : Nat} {I I2 : vI} (h : SameQ r I I2) : Fr r I I2 ∧ PP I2 r = PP I r := by
  refine ⟨fun a k h1 h2 => h a k (by omega), ?_⟩
  unfold PP
  rw [h r 26 (by omega), h r 27 (by omega), h r 28 (by omega), h r 29 (by omega)]
theorem PPe {r : Nat} {I : vI} {P : tP} (h : PP I r = P) : I r 26 = P.1 ∧ I r 27 = P.2.1 ∧ I r 28 = P.2.2.1 ∧ I r 29 = P.2.2.2 := by subst h; exact ⟨rfl, rfl, rfl, rfl⟩
theorem c_X12_tellsW {d : Nat} {S : vS} {I : vI} {L : vL} {Q : Int32 → vS → vI → vL → Prop} {r : Nat} {hd lo hi wo : Int32} {nv : Nat → Int32} {W : tW} (hM : MS S r) (hW : WD (I (r + 2)) W) (hN : ∀ x, x < 8 → nv x = I (r + 12) x) (h : ∀ I2, Fr r I I2 → PP I2 r = PP I r → Q (tellsP W.1 hd lo hi wo nv) S I2 L) : Vc mX12_tells (d + 42) 0 0 [.ref r, .int hd, .int lo, .int hi, .int wo] S I L (ViQ Q) := by
  obtain ⟨⟨⟨np, h1, h2⟩, h3⟩, h4⟩ := hW
  rcases h3 with ⟨h5, h6⟩ | ⟨t, cs, h5, h6, h7, h8⟩
  · refine c_X12_tells_0 hM h5 ?_
    have e := h I Fr.rfl rfl
    rw [h6] at e
    exact e
  · refine c_X12_tells hM h6 h5 h7 hN h2 h1 (fun I2 q => ?_)
    rw [h8] at h
    exact h I2 q.fr.1 q.fr.2
theorem c_X12_takes {d : Nat} {S : vS} {I : vI} {L : vL} {Q : vS → vI → vL → Prop} {r : Nat} {q : Nat}  (hM : MS S r) (hq : q < 8) (h : ∀ I2, Fr r I I2 → PP I2 r = perP (I (r + 2)) q → Q S I2 L) : Vc mX12_takes (d + 1) 0 0 [.ref r, .int (nI q)] S I L (VvQ Q) := by
  refine Vc.of rfl (Nat.le_of_ble_eq_true rfl) ?_
  have B := bs_X12_takes
  show Vw mX12_takes (d + 1) 0 0 0 0 (VvQ Q) 0 [(0, .ref r), (1, .int (nI q))] [] S I L
  refine Vw.aload_n (de_aload_0 (B 0 _ rfl)) 0 rfl (n := 1) rfl ?_
  refine Vw.aload_n (de_aload_0 (B 1 _ rfl)) 0 rfl (n := 2) rfl ?_
  refine Vw.iload_n (de_iload_1 (B 2 _ rfl)) 1 rfl (n := 3) rfl ?_
  refine Vw.iconst (v := 0) (de_iconst_0 (B 3 _ rfl)) rfl (n := 4) rfl ?_
  refine Vw.ivi2 (mi' := mX12_fact) (de_invokevirtual (B 4 _ rfl) (B 5 _ rfl) (B 6 _ rfl)) ml_X12_144 mv_X12_fact hM.k (Nat.le_of_ble_eq_true rfl) (n := 7) rfl (c_X12_fact hM (vIx_n (k := 4 * q) (by simp only [nI_A, nI_M, Int32.zero_add, Int32.add_zero] <;> rfl) (by omega)) ?_)
  refine Vw.putI (de_putfield (B 7 _ rfl) (B 8 _ rfl) (B 9 _ rfl)) fl_X12_318 hM.k rfl rfl (n := 10) rfl ?_
  refine Vw.aload_n (de_aload_0 (B 10 _ rfl)) 0 rfl (n := 11) rfl ?_
  refine Vw.aload_n (de_aload_0 (B 11 _ rfl)) 0 rfl (n := 12) rfl ?_
  refine Vw.iload_n (de_iload_1 (B 12 _ rfl)) 1 rfl (n := 13) rfl ?_
  refine Vw.iconst (v := 1) (de_iconst_1 (B 13 _ rfl)) rfl (n := 14) rfl ?_
  refine Vw.ivi2 (mi' := mX12_fact) (de_invokevirtual (B 14 _ rfl) (B 15 _ rfl) (B 16 _ rfl)) ml_X12_144 mv_X12_fact hM.k (Nat.le_of_ble_eq_true rfl) (n := 17) rfl (c_X12_fact hM (vIx_n (k := 4 * q + 1) (by simp only [nI_A, nI_M, Int32.zero_add, Int32.add_zero] <;> rfl) (by omega)) ?_)
  refine Vw.putI (de_putfield (B 17 _ rfl) (B 18 _ rfl) (B 19 _ rfl)) fl_X12_321 hM.k rfl rfl (n := 20) rfl ?_
  refine Vw.aload_n (de_aload_0 (B 20 _ rfl)) 0 rfl (n := 21) rfl ?_
  refine Vw.aload_n (de_aload_0 (B 21 _ rfl)) 0 rfl (n := 22) rfl ?_
  refine Vw.iload_n (de_iload_1 (B 22 _ rfl)) 1 rfl (n := 23) rfl ?_
  refine Vw.iconst (v := 2) (de_iconst_2 (B 23 _ rfl)) rfl (n := 24) rfl ?_
  refine Vw.ivi2 (mi' := mX12_fact) (de_invokevirtual (B 24 _ rfl) (B 25 _ rfl) (B 26 _ rfl)) ml_X12_144 mv_X12_fact hM.k (Nat.le_of_ble_eq_true rfl) (n := 27) rfl (c_X12_fact hM (vIx_n (k := 4 * q + 2) (by simp only [nI_A, nI_M, Int32.zero_add, Int32.add_zero] <;> rfl) (by omega)) ?_)
  refine Vw.putI (de_putfield (B 27 _ rfl) (B 28 _ rfl) (B 29 _ rfl)) fl_X12_324 hM.k rfl rfl (n := 30) rfl ?_
  refine Vw.aload_n (de_aload_0 (B 30 _ rfl)) 0 rfl (n := 31) rfl ?_
  refine Vw.aload_n (de_aload_0 (B 31 _ rfl)) 0 rfl (n := 32) rfl ?_
  refine Vw.iload_n (de_iload_1 (B 32 _ rfl)) 1 rfl (n := 33) rfl ?_
  refine Vw.iconst (v := 3) (de_iconst_3 (B 33 _ rfl)) rfl (n := 34) rfl ?_
  refine Vw.ivi2 (mi' := mX12_fact) (de_invokevirtual (B 34 _ rfl) (B 35 _ rfl) (B 36 _ rfl)) ml_X12_144 mv_X12_fact hM.k (Nat.le_of_ble_eq_true rfl) (n := 37) rfl (c_X12_fact hM (vIx_n (k := 4 * q + 3) (by simp only [nI_A, nI_M, Int32.zero_add, Int32.add_zero] <;> rfl) (by omega)) ?_)
  refine Vw.putI (de_putfield (B 37 _ rfl) (B 38 _ rfl) (B 39 _ rfl)) fl_X12_327 hM.k rfl rfl (n := 40) rfl ?_
  exact Vw.vret (de_return_ (B 40 _ rfl)) rfl ⟨rfl, h _ (fun a k h1 h2 => by simp (disch := omega) only [up2_n]) (by simp (disch := omega) only [PP, perP, up2_s, up2_k, up2_a, Nat.add_zero, Nat.mul_zero])⟩
theorem c_X12_sets {d : Nat} {S : vS} {I : vI} {L : vL} {Q : vS → vI → vL → Prop} {r : Nat} {p sz wd tl nw : Int32}  (hM : MS S r)  (h : ∀ I2, Fr r I I2 → PP I2 r = PP I r → (∀ x, x < 8 → nvA p (I r 26) (I r 29) sz wd tl nw (I (r + 2) 141) x = I2 (r + 12) x) → Q S I2 L) : Vc mX12_sets d 0 0 [.ref r, .int p, .int sz, .int wd, .int tl, .int nw] S I L (VvQ Q) := by
  refine Vc.of rfl (Nat.le_of_ble_eq_true rfl) ?_
  have B := bs_X12_sets
  show Vw mX12_sets d 0 0 0 0 (VvQ Q) 0 [(0, .ref r), (1, .int p), (2, .int sz), (3, .int wd), (4, .int tl), (5, .int nw)] [] S I L
  refine Vw.aload_n (de_aload_0 (B 0 _ rfl)) 0 rfl (n := 1) rfl ?_
  refine Vw.getR (de_getfield (B 1 _ rfl) (B 2 _ rfl) (B 3 _ rfl)) fl_X12_59 rfl hM.k (MS_asked hM).1 (n := 4) rfl ?_
  refine Vw.iconst (v := 0) (de_iconst_0 (B 4 _ rfl)) rfl (n := 5) rfl ?_
  refine Vw.iload_n (de_iload_1 (B 5 _ rfl)) 1 rfl (n := 6) rfl ?_
  refine Vw.iast (de_iastore (B 6 _ rfl)) (MS_asked hM).2 (j := 0) ⟨rfl, by decide, by decide⟩ (n := 7) rfl ?_
  refine Vw.aload_n (de_aload_0 (B 7 _ rfl)) 0 rfl (n := 8) rfl ?_
  refine Vw.getR (de_getfield (B 8 _ rfl) (B 9 _ rfl) (B 10 _ rfl)) fl_X12_59 rfl hM.k (MS_asked hM).1 (n := 11) rfl ?_
  refine Vw.iconst (v := 1) (de_iconst_1 (B 11 _ rfl)) rfl (n := 12) rfl ?_
  refine Vw.aload_n (de_aload_0 (B 12 _ rfl)) 0 rfl (n := 13) rfl ?_
  refine Vw.getI (de_getfield (B 13 _ rfl) (B 14 _ rfl) (B 15 _ rfl)) fl_X12_318 rfl hM.k (n := 16) rfl ?_
  refine Vw.iast (de_iastore (B 16 _ rfl)) (MS_asked hM).2 (j := 1) ⟨rfl, by decide, by decide⟩ (n := 17) rfl ?_
  refine Vw.aload_n (de_aload_0 (B 17 _ rfl)) 0 rfl (n := 18) rfl ?_
  refine Vw.getR (de_getfield (B 18 _ rfl) (B 19 _ rfl) (B 20 _ rfl)) fl_X12_59 rfl hM.k (MS_asked hM).1 (n := 21) rfl ?_
  refine Vw.iconst (v := 2) (de_iconst_2 (B 21 _ rfl)) rfl (n := 22) rfl ?_
  refine Vw.aload_n (de_aload_0 (B 22 _ rfl)) 0 rfl (n := 23) rfl ?_
  refine Vw.getI (de_getfield (B 23 _ rfl) (B 24 _ rfl) (B 25 _ rfl)) fl_X12_327 rfl hM.k (n := 26) rfl ?_
  refine Vw.iast (de_iastore (B 26 _ rfl)) (MS_asked hM).2 (j := 2) ⟨rfl, by decide, by decide⟩ (n := 27) rfl ?_
  refine Vw.aload_n (de_aload_0 (B 27 _ rfl)) 0 rfl (n := 28) rfl ?_
  refine Vw.getR (de_getfield (B 28 _ rfl) (B 29 _ rfl) (B 30 _ rfl)) fl_X12_59 rfl hM.k (MS_asked hM).1 (n := 31) rfl ?_
  refine Vw.iconst (v := 3) (de_iconst_3 (B 31 _ rfl)) rfl (n := 32) rfl ?_
  refine Vw.iload_n (de_iload_2 (B 32 _ rfl)) 2 rfl (n := 33) rfl ?_
  refine Vw.iast (de_iastore (B 33 _ rfl)) (MS_asked hM).2 (j := 3) ⟨rfl, by decide, by decide⟩ (n := 34) rfl ?_
  refine Vw.aload_n (de_aload_0 (B 34 _ rfl)) 0 rfl (n := 35) rfl ?_
  refine Vw.getR (de_getfield (B 35 _ rfl) (B 36 _ rfl) (B 37 _ rfl)) fl_X12_59 rfl hM.k (MS_asked hM).1 (n := 38) rfl ?_
  refine Vw.iconst (v := 4) (de_iconst_4 (B 38 _ rfl)) rfl (n := 39) rfl ?_
  refine Vw.iload_n (de_iload_3 (B 39 _ rfl)) 3 rfl (n := 40) rfl ?_
  refine Vw.iast (de_iastore (B 40 _ rfl)) (MS_asked hM).2 (j := 4) ⟨rfl, by decide, by decide⟩ (n := 41) rfl ?_
  refine Vw.aload_n (de_aload_0 (B 41 _ rfl)) 0 rfl (n := 42) rfl ?_
  refine Vw.getR (de_getfield (B 42 _ rfl) (B 43 _ rfl) (B 44 _ rfl)) fl_X12_59 rfl hM.k (MS_asked hM).1 (n := 45) rfl ?_
  refine Vw.iconst (v := 5) (de_iconst_5 (B 45 _ rfl)) rfl (n := 46) rfl ?_
  refine Vw.iload (de_iload (B 46 _ rfl) (B 47 _ rfl)) 4 rfl (n := 48) rfl ?_
  refine Vw.iast (de_iastore (B 48 _ rfl)) (MS_asked hM).2 (j := 5) ⟨rfl, by decide, by decide⟩ (n := 49) rfl ?_
  refine Vw.aload_n (de_aload_0 (B 49 _ rfl)) 0 rfl (n := 50) rfl ?_
  refine Vw.getR (de_getfield (B 50 _ rfl) (B 51 _ rfl) (B 52 _ rfl)) fl_X12_59 rfl hM.k (MS_asked hM).1 (n := 53) rfl ?_
  refine Vw.bipush (v := 6) (de_bipush (B 53 _ rfl) (B 54 _ rfl)) rfl (n := 55) rfl ?_
  refine Vw.iload (de_iload (B 55 _ rfl) (B 56 _ rfl)) 5 rfl (n := 57) rfl ?_
  refine Vw.iconst (v := 4) (de_iconst_4 (B 57 _ rfl)) rfl (n := 58) rfl ?_
  refine Vw.irem (de_irem (B 58 _ rfl)) (by decide) (n := 59) rfl ?_
  refine Vw.iast (de_iastore (B 59 _ rfl)) (MS_asked hM).2 (j := 6) ⟨rfl, by decide, by decide⟩ (n := 60) rfl ?_
  refine Vw.aload_n (de_aload_0 (B 60 _ rfl)) 0 rfl (n := 61) rfl ?_
  refine Vw.getR (de_getfield (B 61 _ rfl) (B 62 _ rfl) (B 63 _ rfl)) fl_X12_59 rfl hM.k (MS_asked hM).1 (n := 64) rfl ?_
  refine Vw.bipush (v := 7) (de_bipush (B 64 _ rfl) (B 65 _ rfl)) rfl (n := 66) rfl ?_
  refine Vw.aload_n (de_aload_0 (B 66 _ rfl)) 0 rfl (n := 67) rfl ?_
  refine Vw.getR (de_getfield (B 67 _ rfl) (B 68 _ rfl) (B 69 _ rfl)) fl_X12_24 rfl hM.k (MS_kept hM).1 (n := 70) rfl ?_
  refine Vw.sipush (v := 141) (de_sipush (B 70 _ rfl) (B 71 _ rfl) (B 72 _ rfl)) rfl (n := 73) rfl ?_
  refine Vw.iald (de_iaload (B 73 _ rfl)) (MS_kept hM).2 (j := 141) ⟨rfl, by decide, by decide⟩ (n := 74) rfl ?_
  refine Vw.iast (de_iastore (B 74 _ rfl)) (MS_asked hM).2 (j := 7) ⟨rfl, by decide, by decide⟩ (n := 75) rfl ?_
  exact Vw.vret (de_return_ (B 75 _ rfl)) rfl ⟨rfl, h _ (fun a k h1 h2 => by simp (disch := omega) only [up2_n]) (by simp (disch := omega) only [PP, perP, up2_s, up2_k, up2_a, Nat.add_zero, Nat.mul_zero]) (by
    intro x hx
    have h8 : x = 0 ∨ x = 1 ∨ x = 2 ∨ x = 3 ∨ x = 4 ∨ x = 5 ∨ x = 6 ∨ x = 7 := by omega
    rcases h8 with rfl | rfl | rfl | rfl | rfl | rfl | rfl | rfl <;> (simp (disch := omega) only [up2_s, up2_k, up2_a, nvA]))⟩
theorem c_X12_grows {d : Nat} {S : vS} {I : vI} {L : vL} {Q : Int32 → vS → vI → vL → Prop} {r : Nat} {p nw : Int32} {W : tW}  (hM : MS S r) (hW : WD (I (r + 2)) W) (h : ∀ I2, Fr r I I2 → PP I2 r = PP I r → Q (growP W p nw (PP I r)) S I2 L) : Vc mX12_grows (d + 43) 0 0 [.ref r, .int p, .int nw] S I L (ViQ Q) := by
  refine Vc.of rfl (Nat.le_of_ble_eq_true rfl) ?_
  have B := bs_X12_grows
  show Vw mX12_grows (d + 43) 0 0 0 0 (ViQ Q) 0 [(0, .ref r), (1, .int p), (2, .int nw)] [] S I L
  refine Vw.aload_n (de_aload_0 (B 0 _ rfl)) 0 rfl (n := 1) rfl ?_
  refine Vw.iload_n (de_iload_1 (B 1 _ rfl)) 1 rfl (n := 2) rfl ?_
  refine Vw.aload_n (de_aload_0 (B 2 _ rfl)) 0 rfl (n := 3) rfl ?_
  refine Vw.getI (de_getfield (B 3 _ rfl) (B 4 _ rfl) (B 5 _ rfl)) fl_X12_321 rfl hM.k (n := 6) rfl ?_
  refine Vw.aload_n (de_aload_0 (B 6 _ rfl)) 0 rfl (n := 7) rfl ?_
  refine Vw.getI (de_getfield (B 7 _ rfl) (B 8 _ rfl) (B 9 _ rfl)) fl_X12_324 rfl hM.k (n := 10) rfl ?_
  refine Vw.iconst (v := -1) (de_iconst_m1 (B 10 _ rfl)) rfl (n := 11) rfl ?_
  refine Vw.iload_n (de_iload_2 (B 11 _ rfl)) 2 rfl (n := 12) rfl ?_
  refine Vw.ivv5 (mi' := mX12_sets) (de_invokevirtual (B 12 _ rfl) (B 13 _ rfl) (B 14 _ rfl)) ml_X12_330 mv_X12_sets hM.k (Nat.le_of_ble_eq_true rfl) (n := 15) rfl (c_X12_sets hM (fun I2 f2 e2 n2 => ?_))
  refine Vw.aload_n (de_aload_0 (B 15 _ rfl)) 0 rfl (n := 16) rfl ?_
  refine Vw.iconst (v := 1) (de_iconst_1 (B 16 _ rfl)) rfl (n := 17) rfl ?_
  refine Vw.iconst (v := 0) (de_iconst_0 (B 17 _ rfl)) rfl (n := 18) rfl ?_
  refine Vw.bipush (v := 9) (de_bipush (B 18 _ rfl) (B 19 _ rfl)) rfl (n := 20) rfl ?_
  refine Vw.aload_n (de_aload_0 (B 20 _ rfl)) 0 rfl (n := 21) rfl ?_
  refine Vw.getI (de_getfield (B 21 _ rfl) (B 22 _ rfl) (B 23 _ rfl)) fl_X12_318 rfl hM.k (n := 24) rfl ?_
  rw [show I2 r 26 = I r 26 from (PPe e2).1]
  refine Vw.bipush (v := 64) (de_bipush (B 24 _ rfl) (B 25 _ rfl)) rfl (n := 26) rfl ?_
  refine Vw.icmp_ge (tgt := 33) (n := 29) (de_icmp_ge (B 26 _ rfl) (B 27 _ rfl) (B 28 _ rfl)) rfl rfl (fun c_26 => ?_) (fun c_26 => ?_)
  · refine Vw.iconst (v := 0) (de_iconst_0 (B 33 _ rfl)) rfl (n := 34) rfl ?_
    refine Vw.ivi4 (mi' := mX12_tells) (de_invokevirtual (B 34 _ rfl) (B 35 _ rfl) (B 36 _ rfl)) ml_X12_334 mv_X12_tells hM.k (Nat.le_of_ble_eq_true rfl) (n := 37) rfl (c_X12_tellsW hM (by rw [f2.k]; exact hW) n2 (fun I3 f3 e3 => ?_))
    exact Vw.iret (de_ireturn (B 37 _ rfl)) rfl ⟨_, rfl, (by have e := h _ (f2.trans f3) (e3.trans e2); first | (rw [growP_0 (P := PP I r) (Int32.not_lt.mpr c_26), ← hW.2] at e; exact e) | (rw [growP_1 (P := PP I r) (Int32.not_le.mp c_26), ← hW.2] at e; exact e))⟩
  refine Vw.iconst (v := 1) (de_iconst_1 (B 29 _ rfl)) rfl (n := 30) rfl ?_
  refine Vw.goto_ (n := 34) (de_goto_ (B 30 _ rfl) (B 31 _ rfl) (B 32 _ rfl)) rfl ?_
  refine Vw.ivi4 (mi' := mX12_tells) (de_invokevirtual (B 34 _ rfl) (B 35 _ rfl) (B 36 _ rfl)) ml_X12_334 mv_X12_tells hM.k (Nat.le_of_ble_eq_true rfl) (n := 37) rfl (c_X12_tellsW hM (by rw [f2.k]; exact hW) n2 (fun I3 f3 e3 => ?_))
  exact Vw.iret (de_ireturn (B 37 _ rfl)) rfl ⟨_, rfl, (by have e := h _ (f2.trans f3) (e3.trans e2); first | (rw [growP_0 (P := PP I r) (Int32.not_lt.mpr c_26), ← hW.2] at e; exact e) | (rw [growP_1 (P := PP I r) (Int32.not_le.mp c_26), ← hW.2] at e; exact e))⟩
theorem c_X12_widens {d : Nat} {S : vS} {I : vI} {L : vL} {Q : Int32 → vS → vI → vL → Prop} {r : Nat} {p nw : Int32} {W : tW}  (hM : MS S r) (hW : WD (I (r + 2)) W) (h : ∀ I2, Fr r I I2 → PP I2 r = PP I r → Q (widenP W p nw (PP I r)) S I2 L) : Vc mX12_widens (d + 43) 0 0 [.ref r, .int p, .int nw] S I L (ViQ Q) := by
  refine Vc.of rfl (Nat.le_of_ble_eq_true rfl) ?_
  have B := bs_X12_widens
  show Vw mX12_widens (d + 43) 0 0 0 0 (ViQ Q) 0 [(0, .ref r), (1, .int p), (2, .int nw)] [] S I L
  refine Vw.aload_n (de_aload_0 (B 0 _ rfl)) 0 rfl (n := 1) rfl ?_
  refine Vw.iload_n (de_iload_1 (B 1 _ rfl)) 1 rfl (n := 2) rfl ?_
  refine Vw.aload_n (de_aload_0 (B 2 _ rfl)) 0 rfl (n := 3) rfl ?_
  refine Vw.getI (de_getfield (B 3 _ rfl) (B 4 _ rfl) (B 5 _ rfl)) fl_X12_321 rfl hM.k (n := 6) rfl ?_
  refine Vw.aload_n (de_aload_0 (B 6 _ rfl)) 0 rfl (n := 7) rfl ?_
  refine Vw.getI (de_getfield (B 7 _ rfl) (B 8 _ rfl) (B 9 _ rfl)) fl_X12_324 rfl hM.k (n := 10) rfl ?_
  refine Vw.iconst (v := -1) (de_iconst_m1 (B 10 _ rfl)) rfl (n := 11) rfl ?_
  refine Vw.iload_n (de_iload_2 (B 11 _ rfl)) 2 rfl (n := 12) rfl ?_
  refine Vw.ivv5 (mi' := mX12_sets) (de_invokevirtual (B 12 _ rfl) (B 13 _ rfl) (B 14 _ rfl)) ml_X12_330 mv_X12_sets hM.k (Nat.le_of_ble_eq_true rfl) (n := 15) rfl (c_X12_sets hM (fun I2 f2 e2 n2 => ?_))
  refine Vw.aload_n (de_aload_0 (B 15 _ rfl)) 0 rfl (n := 16) rfl ?_
  refine Vw.iconst (v := 2) (de_iconst_2 (B 16 _ rfl)) rfl (n := 17) rfl ?_
  refine Vw.bipush (v := -9) (de_bipush (B 17 _ rfl) (B 18 _ rfl)) rfl (n := 19) rfl ?_
  refine Vw.bipush (v := 9) (de_bipush (B 19 _ rfl) (B 20 _ rfl)) rfl (n := 21) rfl ?_
  refine Vw.aload_n (de_aload_0 (B 21 _ rfl)) 0 rfl (n := 22) rfl ?_
  refine Vw.getI (de_getfield (B 22 _ rfl) (B 23 _ rfl) (B 24 _ rfl)) fl_X12_327 rfl hM.k (n := 25) rfl ?_
  rw [show I2 r 29 = I r 29 from (PPe e2).2.2.2]
  refine Vw.ivi4 (mi' := mX12_tells) (de_invokevirtual (B 25 _ rfl) (B 26 _ rfl) (B 27 _ rfl)) ml_X12_334 mv_X12_tells hM.k (Nat.le_of_ble_eq_true rfl) (n := 28) rfl (c_X12_tellsW hM (by rw [f2.k]; exact hW) n2 (fun I3 f3 e3 => ?_))
  exact Vw.iret (de_ireturn (B 28 _ rfl)) rfl ⟨_, rfl, (by have e := h _ (f2.trans f3) (e3.trans e2); unfold widenP at e; rw [← hW.2] at e; exact e)⟩
theorem c_X12_clothOf {d : Nat} {S : vS} {I : vI} {L : vL} {Q : Int32 → vS → vI → vL → Prop} {r : Nat} {p tl sz wd nw : Int32} {W : tW}  (hM : MS S r) (hW : WD (I (r + 2)) W) (h : ∀ I2, Fr r I I2 → PP I2 r = PP I r → Q (clothP W p tl sz wd nw (PP I r)) S I2 L) : Vc mX12_clothOf (d + 43) 0 0 [.ref r, .int p, .int tl, .int sz, .int wd, .int nw] S I L (ViQ Q) := by
  refine Vc.of rfl (Nat.le_of_ble_eq_true rfl) ?_
  have B := bs_X12_clothOf
  show Vw mX12_clothOf (d + 43) 0 0 0 0 (ViQ Q) 0 [(0, .ref r), (1, .int p), (2, .int tl), (3, .int sz), (4, .int wd), (5, .int nw)] [] S I L
  refine Vw.aload_n (de_aload_0 (B 0 _ rfl)) 0 rfl (n := 1) rfl ?_
  refine Vw.iload_n (de_iload_1 (B 1 _ rfl)) 1 rfl (n := 2) rfl ?_
  refine Vw.iload_n (de_iload_3 (B 2 _ rfl)) 3 rfl (n := 3) rfl ?_
  refine Vw.iload (de_iload (B 3 _ rfl) (B 4 _ rfl)) 4 rfl (n := 5) rfl ?_
  refine Vw.iload_n (de_iload_2 (B 5 _ rfl)) 2 rfl (n := 6) rfl ?_
  refine Vw.iload (de_iload (B 6 _ rfl) (B 7 _ rfl)) 5 rfl (n := 8) rfl ?_
  refine Vw.ivv5 (mi' := mX12_sets) (de_invokevirtual (B 8 _ rfl) (B 9 _ rfl) (B 10 _ rfl)) ml_X12_330 mv_X12_sets hM.k (Nat.le_of_ble_eq_true rfl) (n := 11) rfl (c_X12_sets hM (fun I2 f2 e2 n2 => ?_))
  refine Vw.aload_n (de_aload_0 (B 11 _ rfl)) 0 rfl (n := 12) rfl ?_
  refine Vw.iconst (v := 3) (de_iconst_3 (B 12 _ rfl)) rfl (n := 13) rfl ?_
  refine Vw.iconst (v := 0) (de_iconst_0 (B 13 _ rfl)) rfl (n := 14) rfl ?_
  refine Vw.sipush (v := 999) (de_sipush (B 14 _ rfl) (B 15 _ rfl) (B 16 _ rfl)) rfl (n := 17) rfl ?_
  refine Vw.iload_n (de_iload_3 (B 17 _ rfl)) 3 rfl (n := 18) rfl ?_
  refine Vw.iload (de_iload (B 18 _ rfl) (B 19 _ rfl)) 4 rfl (n := 20) rfl ?_
  refine Vw.imul (de_imul (B 20 _ rfl)) (n := 21) rfl ?_
  refine Vw.bipush (v := 50) (de_bipush (B 21 _ rfl) (B 22 _ rfl)) rfl (n := 23) rfl ?_
  refine Vw.idiv (de_idiv (B 23 _ rfl)) (by decide) (n := 24) rfl ?_
  refine Vw.ivi4 (mi' := mX12_tells) (de_invokevirtual (B 24 _ rfl) (B 25 _ rfl) (B 26 _ rfl)) ml_X12_334 mv_X12_tells hM.k (Nat.le_of_ble_eq_true rfl) (n := 27) rfl (c_X12_tellsW hM (by rw [f2.k]; exact hW) n2 (fun I3 f3 e3 => ?_))
  exact Vw.iret (de_ireturn (B 27 _ rfl)) rfl ⟨_, rfl, (by have e := h _ (f2.trans f3) (e3.trans e2); unfold clothP at e; rw [← hW.2] at e; exact e)⟩
theorem c_X12_paysOf {d : Nat} {S : vS} {I : vI} {L : vL} {Q : Int32 → vS → vI → vL → Prop} {r : Nat} {p tl sz wd nw : Int32} {W : tW}  (hM : MS S r) (hW : WD (I (r + 2)) W) (h : ∀ I2, Fr r I I2 → PP I2 r = PP I r → Q (payP W p tl sz wd nw (PP I r)) S I2 L) : Vc mX12_paysOf (d + 43) 0 0 [.ref r, .int p, .int tl, .int sz, .int wd, .int nw] S I L (ViQ Q) := by
  refine Vc.of rfl (Nat.le_of_ble_eq_true rfl) ?_
  have B := bs_X12_paysOf
  show Vw mX12_paysOf (d + 43) 0 0 0 0 (ViQ Q) 0 [(0, .ref r), (1, .int p), (2, .int tl), (3, .int sz), (4, .int wd), (5, .int nw)] [] S I L
  refine Vw.aload_n (de_aload_0 (B 0 _ rfl)) 0 rfl (n := 1) rfl ?_
  refine Vw.iload_n (de_iload_1 (B 1 _ rfl)) 1 rfl (n := 2) rfl ?_
  refine Vw.iload_n (de_iload_3 (B 2 _ rfl)) 3 rfl (n := 3) rfl ?_
  refine Vw.iload (de_iload (B 3 _ rfl) (B 4 _ rfl)) 4 rfl (n := 5) rfl ?_
  refine Vw.iload_n (de_iload_2 (B 5 _ rfl)) 2 rfl (n := 6) rfl ?_
  refine Vw.iload (de_iload (B 6 _ rfl) (B 7 _ rfl)) 5 rfl (n := 8) rfl ?_
  refine Vw.ivv5 (mi' := mX12_sets) (de_invokevirtual (B 8 _ rfl) (B 9 _ rfl) (B 10 _ rfl)) ml_X12_330 mv_X12_sets hM.k (Nat.le_of_ble_eq_true rfl) (n := 11) rfl (c_X12_sets hM (fun I2 f2 e2 n2 => ?_))
  refine Vw.aload_n (de_aload_0 (B 11 _ rfl)) 0 rfl (n := 12) rfl ?_
  refine Vw.iconst (v := 4) (de_iconst_4 (B 12 _ rfl)) rfl (n := 13) rfl ?_
  refine Vw.iconst (v := 0) (de_iconst_0 (B 13 _ rfl)) rfl (n := 14) rfl ?_
  refine Vw.sipush (v := 999) (de_sipush (B 14 _ rfl) (B 15 _ rfl) (B 16 _ rfl)) rfl (n := 17) rfl ?_
  refine Vw.bipush (v := 20) (de_bipush (B 17 _ rfl) (B 18 _ rfl)) rfl (n := 19) rfl ?_
  refine Vw.ivi4 (mi' := mX12_tells) (de_invokevirtual (B 19 _ rfl) (B 20 _ rfl) (B 21 _ rfl)) ml_X12_334 mv_X12_tells hM.k (Nat.le_of_ble_eq_true rfl) (n := 22) rfl (c_X12_tellsW hM (by rw [f2.k]; exact hW) n2 (fun I3 f3 e3 => ?_))
  exact Vw.iret (de_ireturn (B 22 _ rfl)) rfl ⟨_, rfl, (by have e := h _ (f2.trans f3) (e3.trans e2); unfold payP at e; rw [← hW.2] at e; exact e)⟩
theorem c_X12_isBarred {d : Nat} {S : vS} {I : vI} {L : vL} {Q : Int32 → vS → vI → vL → Prop} {r : Nat} {p tl sz wd nw : Int32} {W : tW}  (hM : MS S r) (hW : WD (I (r + 2)) W) (h : ∀ I2, Fr r I I2 → PP I2 r = PP I r → Q (barP W p tl sz wd nw (PP I r)) S I2 L) : Vc mX12_isBarred (d + 43) 0 0 [.ref r, .int p, .int tl, .int sz, .int wd, .int nw] S I L (ViQ Q) := by
  refine Vc.of rfl (Nat.le_of_ble_eq_true rfl) ?_
  have B := bs_X12_isBarred
  show Vw mX12_isBarred (d + 43) 0 0 0 0 (ViQ Q) 0 [(0, .ref r), (1, .int p), (2, .int tl), (3, .int sz), (4, .int wd), (5, .int nw)] [] S I L
  refine Vw.aload_n (de_aload_0 (B 0 _ rfl)) 0 rfl (n := 1) rfl ?_
  refine Vw.iload_n (de_iload_1 (B 1 _ rfl)) 1 rfl (n := 2) rfl ?_
  refine Vw.iload_n (de_iload_3 (B 2 _ rfl)) 3 rfl (n := 3) rfl ?_
  refine Vw.iload (de_iload (B 3 _ rfl) (B 4 _ rfl)) 4 rfl (n := 5) rfl ?_
  refine Vw.iload_n (de_iload_2 (B 5 _ rfl)) 2 rfl (n := 6) rfl ?_
  refine Vw.iload (de_iload (B 6 _ rfl) (B 7 _ rfl)) 5 rfl (n := 8) rfl ?_
  refine Vw.ivv5 (mi' := mX12_sets) (de_invokevirtual (B 8 _ rfl) (B 9 _ rfl) (B 10 _ rfl)) ml_X12_330 mv_X12_sets hM.k (Nat.le_of_ble_eq_true rfl) (n := 11) rfl (c_X12_sets hM (fun I2 f2 e2 n2 => ?_))
  refine Vw.aload_n (de_aload_0 (B 11 _ rfl)) 0 rfl (n := 12) rfl ?_
  refine Vw.iconst (v := 5) (de_iconst_5 (B 12 _ rfl)) rfl (n := 13) rfl ?_
  refine Vw.iconst (v := 0) (de_iconst_0 (B 13 _ rfl)) rfl (n := 14) rfl ?_
  refine Vw.iconst (v := 1) (de_iconst_1 (B 14 _ rfl)) rfl (n := 15) rfl ?_
  refine Vw.iconst (v := 0) (de_iconst_0 (B 15 _ rfl)) rfl (n := 16) rfl ?_
  refine Vw.ivi4 (mi' := mX12_tells) (de_invokevirtual (B 16 _ rfl) (B 17 _ rfl) (B 18 _ rfl)) ml_X12_334 mv_X12_tells hM.k (Nat.le_of_ble_eq_true rfl) (n := 19) rfl (c_X12_tellsW hM (by rw [f2.k]; exact hW) n2 (fun I3 f3 e3 => ?_))
  refine Vw.iconst (v := 1) (de_iconst_1 (B 19 _ rfl)) rfl (n := 20) rfl ?_
  refine Vw.icmp_ne (tgt := 27) (n := 23) (de_icmp_ne (B 20 _ rfl) (B 21 _ rfl) (B 22 _ rfl)) rfl rfl (fun c_20 => ?_) (fun c_20 => ?_)
  · refine Vw.iconst (v := 0) (de_iconst_0 (B 27 _ rfl)) rfl (n := 28) rfl ?_
    exact Vw.zret (de_ireturn (B 28 _ rfl)) rfl rfl ⟨_, rfl, (by have e := h _ (f2.trans f3) (e3.trans e2); rw [hW.2] at c_20; first | exact qv (barP_1 (P := PP I r) c_20) e | exact qv (barP_0 (P := PP I r) c_20) e)⟩
  refine Vw.iconst (v := 1) (de_iconst_1 (B 23 _ rfl)) rfl (n := 24) rfl ?_
  refine Vw.goto_ (n := 28) (de_goto_ (B 24 _ rfl) (B 25 _ rfl) (B 26 _ rfl)) rfl ?_
  exact Vw.zret (de_ireturn (B 28 _ rfl)) rfl rfl ⟨_, rfl, (by have e := h _ (f2.trans f3) (e3.trans e2); rw [hW.2] at c_20; first | exact qv (barP_1 (P := PP I r) c_20) e | exact qv (barP_0 (P := PP I r) c_20) e)⟩
theorem c_X12_goesOn {d : Nat} {S : vS} {I : vI} {L : vL} {Q : vS → vI → vL → Prop} {r : Nat} {p nw : Int32} {W : tW}  (hM : MS S r) (hW : WD (I (r + 2)) W) (h : ∀ I2, Fr r I I2 → PP I2 r = stepP W p nw (PP I r) → Q S I2 L) : Vc mX12_goesOn (d + 44) 0 0 [.ref r, .int p, .int nw] S I L (VvQ Q) := by
  refine Vc.of rfl (Nat.le_of_ble_eq_true rfl) ?_
  have B := bs_X12_goesOn
  show Vw mX12_goesOn (d + 44) 0 0 0 0 (VvQ Q) 0 [(0, .ref r), (1, .int p), (2, .int nw)] [] S I L
  refine Vw.aload_n (de_aload_0 (B 0 _ rfl)) 0 rfl (n := 1) rfl ?_
  refine Vw.iload_n (de_iload_1 (B 1 _ rfl)) 1 rfl (n := 2) rfl ?_
  refine Vw.iload_n (de_iload_2 (B 2 _ rfl)) 2 rfl (n := 3) rfl ?_
  refine Vw.ivi2 (mi' := mX12_grows) (de_invokevirtual (B 3 _ rfl) (B 4 _ rfl) (B 5 _ rfl)) ml_X12_147 mv_X12_grows hM.k (Nat.le_of_ble_eq_true rfl) (n := 6) rfl (c_X12_grows hM hW (fun I2 f2 e2 => ?_))
  refine Vw.istore_n (lv2 := [(0, _), (1, _), (2, _), (3, _)]) (de_istore_3 (B 6 _ rfl)) rfl (by decide) [1, 2, 3, 0] rfl (n := 7) rfl ?_
  refine Vw.aload_n (de_aload_0 (B 7 _ rfl)) 0 rfl (n := 8) rfl ?_
  refine Vw.iload_n (de_iload_1 (B 8 _ rfl)) 1 rfl (n := 9) rfl ?_
  refine Vw.iload_n (de_iload_2 (B 9 _ rfl)) 2 rfl (n := 10) rfl ?_
  refine Vw.ivi2 (mi' := mX12_widens) (de_invokevirtual (B 10 _ rfl) (B 11 _ rfl) (B 12 _ rfl)) ml_X12_150 mv_X12_widens hM.k (Nat.le_of_ble_eq_true rfl) (n := 13) rfl (c_X12_widens hM (by rw [f2.k]; exact hW) (fun I3 f3 e3 => ?_))
  refine Vw.istore (lv2 := [(0, _), (1, _), (2, _), (3, _), (4, _)]) (de_istore (B 13 _ rfl) (B 14 _ rfl)) (by decide) [1, 2, 3, 4, 0] rfl (n := 15) rfl ?_
  rw [e2]
  have q3 := PPe (e3.trans e2)
  refine Vw.aload_n (de_aload_0 (B 15 _ rfl)) 0 rfl (n := 16) rfl ?_
  refine Vw.aload_n (de_aload_0 (B 16 _ rfl)) 0 rfl (n := 17) rfl ?_
  refine Vw.getI (de_getfield (B 17 _ rfl) (B 18 _ rfl) (B 19 _ rfl)) fl_X12_321 rfl hM.k (n := 20) rfl ?_
  refine Vw.iload_n (de_iload_3 (B 20 _ rfl)) 3 rfl (n := 21) rfl ?_
  refine Vw.iadd (de_iadd (B 21 _ rfl)) (n := 22) rfl ?_
  refine Vw.bipush (v := 20) (de_bipush (B 22 _ rfl) (B 23 _ rfl)) rfl (n := 24) rfl ?_
  refine Vw.sipush (v := 250) (de_sipush (B 24 _ rfl) (B 25 _ rfl) (B 26 _ rfl)) rfl (n := 27) rfl ?_
  refine Vw.isi3 (mi' := mX12_within) (de_invokestatic (B 27 _ rfl) (B 28 _ rfl) (B 29 _ rfl)) ml_X12_338 ms_X12_within (Nat.le_of_ble_eq_true rfl) (n := 30) rfl (c_X12_within ?_)
  refine Vw.putI (de_putfield (B 30 _ rfl) (B 31 _ rfl) (B 32 _ rfl)) fl_X12_321 hM.k rfl rfl (n := 33) rfl ?_
  refine Vw.aload_n (de_aload_0 (B 33 _ rfl)) 0 rfl (n := 34) rfl ?_
  refine Vw.aload_n (de_aload_0 (B 34 _ rfl)) 0 rfl (n := 35) rfl ?_
  refine Vw.getI (de_getfield (B 35 _ rfl) (B 36 _ rfl) (B 37 _ rfl)) fl_X12_324 rfl hM.k (n := 38) rfl ?_
  refine Vw.iload (de_iload (B 38 _ rfl) (B 39 _ rfl)) 4 rfl (n := 40) rfl ?_
  refine Vw.iadd (de_iadd (B 40 _ rfl)) (n := 41) rfl ?_
  refine Vw.iconst (v := 5) (de_iconst_5 (B 41 _ rfl)) rfl (n := 42) rfl ?_
  refine Vw.sipush (v := 200) (de_sipush (B 42 _ rfl) (B 43 _ rfl) (B 44 _ rfl)) rfl (n := 45) rfl ?_
  refine Vw.isi3 (mi' := mX12_within) (de_invokestatic (B 45 _ rfl) (B 46 _ rfl) (B 47 _ rfl)) ml_X12_338 ms_X12_within (Nat.le_of_ble_eq_true rfl) (n := 48) rfl (c_X12_within ?_)
  refine Vw.putI (de_putfield (B 48 _ rfl) (B 49 _ rfl) (B 50 _ rfl)) fl_X12_324 hM.k rfl rfl (n := 51) rfl ?_
  refine Vw.aload_n (de_aload_0 (B 51 _ rfl)) 0 rfl (n := 52) rfl ?_
  refine Vw.sipush (v := 999) (de_sipush (B 52 _ rfl) (B 53 _ rfl) (B 54 _ rfl)) rfl (n := 55) rfl ?_
  refine Vw.aload_n (de_aload_0 (B 55 _ rfl)) 0 rfl (n := 56) rfl ?_
  refine Vw.getI (de_getfield (B 56 _ rfl) (B 57 _ rfl) (B 58 _ rfl)) fl_X12_318 rfl hM.k (n := 59) rfl ?_
  refine Vw.iconst (v := 1) (de_iconst_1 (B 59 _ rfl)) rfl (n := 60) rfl ?_
  refine Vw.iadd (de_iadd (B 60 _ rfl)) (n := 61) rfl ?_
  refine Vw.isi2 (mi' := mX12_lesser) (de_invokestatic (B 61 _ rfl) (B 62 _ rfl) (B 63 _ rfl)) ml_X12_341 ms_X12_lesser (Nat.le_of_ble_eq_true rfl) (n := 64) rfl (c_X12_lesser ?_)
  refine Vw.putI (de_putfield (B 64 _ rfl) (B 65 _ rfl) (B 66 _ rfl)) fl_X12_318 hM.k rfl rfl (n := 67) rfl ?_
  exact Vw.vret (de_return_ (B 67 _ rfl)) rfl ⟨rfl, (h _ ((f2.trans f3).trans (fun a k h1 h2 => by simp (disch := omega) only [up2_n])) (by
    simp (disch := omega) only [PP, perP, up2_s, up2_k, up2_a, Nat.add_zero, Nat.mul_zero]
    rw [q3.1, q3.2.1, q3.2.2.1, q3.2.2.2]
    rfl))⟩
theorem c_X12_feasts {d : Nat} {S : vS} {I : vI} {L : vL} {Q : vS → vI → vL → Prop} {r : Nat}   (hM : MS S r)  (h : ∀ I2, Fr r I I2 → PP I2 r = feastP (PP I r) → Q S I2 L) : Vc mX12_feasts (d + 1) 0 0 [.ref r] S I L (VvQ Q) := by
  refine Vc.of rfl (Nat.le_of_ble_eq_true rfl) ?_
  have B := bs_X12_feasts
  show Vw mX12_feasts (d + 1) 0 0 0 0 (VvQ Q) 0 [(0, .ref r)] [] S I L
  refine Vw.aload_n (de_aload_0 (B 0 _ rfl)) 0 rfl (n := 1) rfl ?_
  refine Vw.sipush (v := 200) (de_sipush (B 1 _ rfl) (B 2 _ rfl) (B 3 _ rfl)) rfl (n := 4) rfl ?_
  refine Vw.aload_n (de_aload_0 (B 4 _ rfl)) 0 rfl (n := 5) rfl ?_
  refine Vw.getI (de_getfield (B 5 _ rfl) (B 6 _ rfl) (B 7 _ rfl)) fl_X12_324 rfl hM.k (n := 8) rfl ?_
  refine Vw.iconst (v := 1) (de_iconst_1 (B 8 _ rfl)) rfl (n := 9) rfl ?_
  refine Vw.iadd (de_iadd (B 9 _ rfl)) (n := 10) rfl ?_
  refine Vw.isi2 (mi' := mX12_lesser) (de_invokestatic (B 10 _ rfl) (B 11 _ rfl) (B 12 _ rfl)) ml_X12_341 ms_X12_lesser (Nat.le_of_ble_eq_true rfl) (n := 13) rfl (c_X12_lesser ?_)
  refine Vw.putI (de_putfield (B 13 _ rfl) (B 14 _ rfl) (B 15 _ rfl)) fl_X12_324 hM.k rfl rfl (n := 16) rfl ?_
  exact Vw.vret (de_return_ (B 16 _ rfl)) rfl ⟨rfl, (h _ (fun a k h1 h2 => by simp (disch := omega) only [up2_n]) (by simp (disch := omega) only [PP, perP, up2_s, up2_k, up2_a, Nat.add_zero, Nat.mul_zero]; rfl))⟩
/-- the person that is taken is put back -/
def mPut (I : vI) (r q : Nat) : vI := up2 (up2 (up2 I (r + 2) (4 * q) (I r 26)) (r + 2) (4 * q + 1) (I r 27)) (r + 2) (4 * q + 2) (I r 28)
theorem c_X12_puts {d : Nat} {S : vS} {I : vI} {L : vL} {Q : vS → vI → vL → Prop} {r : Nat} {q : Nat}  (hM : MS S r) (hq : q < 8) (h : Q S (mPut I r q) L) : Vc mX12_puts d 0 0 [.ref r, .int (nI q)] S I L (VvQ Q) := by
  refine Vc.of rfl (Nat.le_of_ble_eq_true rfl) ?_
  have B := bs_X12_puts
  show Vw mX12_puts d 0 0 0 0 (VvQ Q) 0 [(0, .ref r), (1, .int (nI q))] [] S I L
  refine Vw.iconst (v := 0) (de_iconst_0 (B 0 _ rfl)) rfl (n := 1) rfl ?_
  refine Vw.iconst (v := 4) (de_iconst_4 (B 1 _ rfl)) rfl (n := 2) rfl ?_
  refine Vw.iload_n (de_iload_1 (B 2 _ rfl)) 1 rfl (n := 3) rfl ?_
  refine Vw.imul (de_imul (B 3 _ rfl)) (n := 4) rfl ?_
  refine Vw.iadd (de_iadd (B 4 _ rfl)) (n := 5) rfl ?_
  refine Vw.istore_n (lv2 := [(0, _), (1, _), (2, _)]) (de_istore_2 (B 5 _ rfl)) rfl (by decide) [1, 2, 0] rfl (n := 6) rfl ?_
  refine Vw.aload_n (de_aload_0 (B 6 _ rfl)) 0 rfl (n := 7) rfl ?_
  refine Vw.getR (de_getfield (B 7 _ rfl) (B 8 _ rfl) (B 9 _ rfl)) fl_X12_24 rfl hM.k (MS_kept hM).1 (n := 10) rfl ?_
  refine Vw.iload_n (de_iload_2 (B 10 _ rfl)) 2 rfl (n := 11) rfl ?_
  refine Vw.iconst (v := 0) (de_iconst_0 (B 11 _ rfl)) rfl (n := 12) rfl ?_
  refine Vw.iadd (de_iadd (B 12 _ rfl)) (n := 13) rfl ?_
  refine Vw.aload_n (de_aload_0 (B 13 _ rfl)) 0 rfl (n := 14) rfl ?_
  refine Vw.getI (de_getfield (B 14 _ rfl) (B 15 _ rfl) (B 16 _ rfl)) fl_X12_318 rfl hM.k (n := 17) rfl ?_
  skip
  refine Vw.iast (de_iastore (B 17 _ rfl)) (MS_kept hM).2 (vIx_n (k := 4 * q) (by simp only [nI_A, nI_M, Int32.zero_add, Int32.add_zero] <;> rfl) (by omega)) (n := 18) rfl ?_
  refine Vw.aload_n (de_aload_0 (B 18 _ rfl)) 0 rfl (n := 19) rfl ?_
  refine Vw.getR (de_getfield (B 19 _ rfl) (B 20 _ rfl) (B 21 _ rfl)) fl_X12_24 rfl hM.k (MS_kept hM).1 (n := 22) rfl ?_
  refine Vw.iload_n (de_iload_2 (B 22 _ rfl)) 2 rfl (n := 23) rfl ?_
  refine Vw.iconst (v := 1) (de_iconst_1 (B 23 _ rfl)) rfl (n := 24) rfl ?_
  refine Vw.iadd (de_iadd (B 24 _ rfl)) (n := 25) rfl ?_
  refine Vw.aload_n (de_aload_0 (B 25 _ rfl)) 0 rfl (n := 26) rfl ?_
  refine Vw.getI (de_getfield (B 26 _ rfl) (B 27 _ rfl) (B 28 _ rfl)) fl_X12_321 rfl hM.k (n := 29) rfl ?_
  refine Vw.iast (de_iastore (B 29 _ rfl)) (MS_kept hM).2 (vIx_n (k := 4 * q + 1) (by simp only [nI_A, nI_M, Int32.zero_add, Int32.add_zero] <;> rfl) (by omega)) (n := 30) rfl ?_
  refine Vw.aload_n (de_aload_0 (B 30 _ rfl)) 0 rfl (n := 31) rfl ?_
  refine Vw.getR (de_getfield (B 31 _ rfl) (B 32 _ rfl) (B 33 _ rfl)) fl_X12_24 rfl hM.k (MS_kept hM).1 (n := 34) rfl ?_
  refine Vw.iload_n (de_iload_2 (B 34 _ rfl)) 2 rfl (n := 35) rfl ?_
  refine Vw.iconst (v := 2) (de_iconst_2 (B 35 _ rfl)) rfl (n := 36) rfl ?_
  refine Vw.iadd (de_iadd (B 36 _ rfl)) (n := 37) rfl ?_
  refine Vw.aload_n (de_aload_0 (B 37 _ rfl)) 0 rfl (n := 38) rfl ?_
  refine Vw.getI (de_getfield (B 38 _ rfl) (B 39 _ rfl) (B 40 _ rfl)) fl_X12_324 rfl hM.k (n := 41) rfl ?_
  refine Vw.iast (de_iastore (B 41 _ rfl)) (MS_kept hM).2 (vIx_n (k := 4 * q + 2) (by simp only [nI_A, nI_M, Int32.zero_add, Int32.add_zero] <;> rfl) (by omega)) (n := 42) rfl ?_
  exact Vw.vret (de_return_ (B 42 _ rfl)) rfl ⟨rfl, (by unfold mPut at h; simpa (disch := omega) only [up2_a] using h)⟩
def shareP (v : Int32) (f : Bool) : Int32 := if f = true then (v + 1) / 2 else v / 2
def shareT (t a b v : Int32) : Int32 := (if a = t then (v + 1) / 2 else 0) + (if b = t then v / 2 else 0)
theorem c_X12_shareBy {d : Nat} {S : vS} {I : vI} {L : vL} {Q : Int32 → vS → vI → vL → Prop} {v f : Int32}    (h : Q (if f = 0 then v / 2 else (v + 1) / 2) S I L) : Vc mX12_shareBy d 0 0 [.int v, .int f] S I L (ViQ Q) := by
  refine Vc.of rfl (Nat.le_of_ble_eq_true rfl) ?_
  have B := bs_X12_shareBy
  show Vw mX12_shareBy d 0 0 0 0 (ViQ Q) 0 [(0, .int v), (1, .int f)] [] S I L
  refine Vw.iload_n (de_iload_1 (B 0 _ rfl)) 1 rfl (n := 1) rfl ?_
  refine Vw.if_eq (tgt := 12) (n := 4) (de_if_eq (B 1 _ rfl) (B 2 _ rfl) (B 3 _ rfl)) rfl rfl (fun c_1 => ?_) (fun c_1 => ?_)
  · refine Vw.iload_n (de_iload_0 (B 12 _ rfl)) 0 rfl (n := 13) rfl ?_
    refine Vw.iconst (v := 2) (de_iconst_2 (B 13 _ rfl)) rfl (n := 14) rfl ?_
    refine Vw.idiv (de_idiv (B 14 _ rfl)) (by decide) (n := 15) rfl ?_
    exact Vw.iret (de_ireturn (B 15 _ rfl)) rfl ⟨_, rfl, (by first | (rw [if_pos c_1] at h; exact h) | (rw [if_neg c_1] at h; exact h))⟩
  refine Vw.iload_n (de_iload_0 (B 4 _ rfl)) 0 rfl (n := 5) rfl ?_
  refine Vw.iconst (v := 1) (de_iconst_1 (B 5 _ rfl)) rfl (n := 6) rfl ?_
  refine Vw.iadd (de_iadd (B 6 _ rfl)) (n := 7) rfl ?_
  refine Vw.iconst (v := 2) (de_iconst_2 (B 7 _ rfl)) rfl (n := 8) rfl ?_
  refine Vw.idiv (de_idiv (B 8 _ rfl)) (by decide) (n := 9) rfl ?_
  refine Vw.goto_ (n := 15) (de_goto_ (B 9 _ rfl) (B 10 _ rfl) (B 11 _ rfl)) rfl ?_
  exact Vw.iret (de_ireturn (B 15 _ rfl)) rfl ⟨_, rfl, (by first | (rw [if_pos c_1] at h; exact h) | (rw [if_neg c_1] at h; exact h))⟩
theorem c_X12_shareOf {d : Nat} {S : vS} {I : vI} {L : vL} {Q : Int32 → vS → vI → vL → Prop} {r : Nat} {t v : Int32} {c : Nat}  (hM : MS S r) (hc : c < 10) (h : Q (shareT t (I (r + 2) (32 + 8 * c + 2)) (I (r + 2) (32 + 8 * c + 3)) v) S I L) : Vc mX12_shareOf (d + 1) 0 0 [.ref r, .int t, .int (nI c), .int v] S I L (ViQ Q) := by
  refine Vc.of rfl (Nat.le_of_ble_eq_true rfl) ?_
  have B := bs_X12_shareOf
  show Vw mX12_shareOf (d + 1) 0 0 0 0 (ViQ Q) 0 [(0, .ref r), (1, .int t), (2, .int (nI c)), (3, .int v)] [] S I L
  refine Vw.aload_n (de_aload_0 (B 0 _ rfl)) 0 rfl (n := 1) rfl ?_
  refine Vw.iload_n (de_iload_2 (B 1 _ rfl)) 2 rfl (n := 2) rfl ?_
  refine Vw.iconst (v := 2) (de_iconst_2 (B 2 _ rfl)) rfl (n := 3) rfl ?_
  refine Vw.ivi2 (mi' := mX12_part) (de_invokevirtual (B 3 _ rfl) (B 4 _ rfl) (B 5 _ rfl)) ml_X12_136 mv_X12_part hM.k (Nat.le_of_ble_eq_true rfl) (n := 6) rfl (c_X12_part hM (vIx_n (k := 32 + 8 * c + 2) (by simp only [nI_A, nI_M, Int32.zero_add, Int32.add_zero] <;> rfl) (by omega)) ?_)
  refine Vw.iload_n (de_iload_1 (B 6 _ rfl)) 1 rfl (n := 7) rfl ?_
  refine Vw.icmp_ne (tgt := 18) (n := 10) (de_icmp_ne (B 7 _ rfl) (B 8 _ rfl) (B 9 _ rfl)) rfl rfl (fun c_7 => ?_) (fun c_7 => ?_)
  · refine Vw.iconst (v := 0) (de_iconst_0 (B 18 _ rfl)) rfl (n := 19) rfl ?_
    refine Vw.aload_n (de_aload_0 (B 19 _ rfl)) 0 rfl (n := 20) rfl ?_
    refine Vw.iload_n (de_iload_2 (B 20 _ rfl)) 2 rfl (n := 21) rfl ?_
    refine Vw.iconst (v := 3) (de_iconst_3 (B 21 _ rfl)) rfl (n := 22) rfl ?_
    refine Vw.ivi2 (mi' := mX12_part) (de_invokevirtual (B 22 _ rfl) (B 23 _ rfl) (B 24 _ rfl)) ml_X12_136 mv_X12_part hM.k (Nat.le_of_ble_eq_true rfl) (n := 25) rfl (c_X12_part hM (vIx_n (k := 32 + 8 * c + 3) (by simp only [nI_A, nI_M, Int32.zero_add, Int32.add_zero] <;> rfl) (by omega)) ?_)
    refine Vw.iload_n (de_iload_1 (B 25 _ rfl)) 1 rfl (n := 26) rfl ?_
    refine Vw.icmp_ne (tgt := 37) (n := 29) (de_icmp_ne (B 26 _ rfl) (B 27 _ rfl) (B 28 _ rfl)) rfl rfl (fun c_26 => ?_) (fun c_26 => ?_)
    · refine Vw.iconst (v := 0) (de_iconst_0 (B 37 _ rfl)) rfl (n := 38) rfl ?_
      refine Vw.iadd (de_iadd (B 38 _ rfl)) (n := 39) rfl ?_
      exact Vw.iret (de_ireturn (B 39 _ rfl)) rfl ⟨_, rfl, (by unfold shareT at h; first | (rw [if_pos c_7, if_pos c_26] at h; simpa using h) | (rw [if_pos c_7, if_neg c_26] at h; simpa using h) | (rw [if_neg c_7, if_pos c_26] at h; simpa using h) | (rw [if_neg c_7, if_neg c_26] at h; simpa using h))⟩
    refine Vw.iload_n (de_iload_3 (B 29 _ rfl)) 3 rfl (n := 30) rfl ?_
    refine Vw.iconst (v := 0) (de_iconst_0 (B 30 _ rfl)) rfl (n := 31) rfl ?_
    refine Vw.isi2 (mi' := mX12_shareBy) (de_invokestatic (B 31 _ rfl) (B 32 _ rfl) (B 33 _ rfl)) ml_X12_344 ms_X12_shareBy (Nat.le_of_ble_eq_true rfl) (n := 34) rfl (c_X12_shareBy ?_)
    refine Vw.goto_ (n := 38) (de_goto_ (B 34 _ rfl) (B 35 _ rfl) (B 36 _ rfl)) rfl ?_
    refine Vw.iadd (de_iadd (B 38 _ rfl)) (n := 39) rfl ?_
    exact Vw.iret (de_ireturn (B 39 _ rfl)) rfl ⟨_, rfl, (by unfold shareT at h; first | (rw [if_pos c_7, if_pos c_26] at h; simpa using h) | (rw [if_pos c_7, if_neg c_26] at h; simpa using h) | (rw [if_neg c_7, if_pos c_26] at h; simpa using h) | (rw [if_neg c_7, if_neg c_26] at h; simpa using h))⟩
  refine Vw.iload_n (de_iload_3 (B 10 _ rfl)) 3 rfl (n := 11) rfl ?_
  refine Vw.iconst (v := 1) (de_iconst_1 (B 11 _ rfl)) rfl (n := 12) rfl ?_
  refine Vw.isi2 (mi' := mX12_shareBy) (de_invokestatic (B 12 _ rfl) (B 13 _ rfl) (B 14 _ rfl)) ml_X12_344 ms_X12_shareBy (Nat.le_of_ble_eq_true rfl) (n := 15) rfl (c_X12_shareBy ?_)
  refine Vw.goto_ (n := 19) (de_goto_ (B 15 _ rfl) (B 16 _ rfl) (B 17 _ rfl)) rfl ?_
  refine Vw.aload_n (de_aload_0 (B 19 _ rfl)) 0 rfl (n := 20) rfl ?_
  refine Vw.iload_n (de_iload_2 (B 20 _ rfl)) 2 rfl (n := 21) rfl ?_
  refine Vw.iconst (v := 3) (de_iconst_3 (B 21 _ rfl)) rfl (n := 22) rfl ?_
  refine Vw.ivi2 (mi' := mX12_part) (de_invokevirtual (B 22 _ rfl) (B 23 _ rfl) (B 24 _ rfl)) ml_X12_136 mv_X12_part hM.k (Nat.le_of_ble_eq_true rfl) (n := 25) rfl (c_X12_part hM (vIx_n (k := 32 + 8 * c + 3) (by simp only [nI_A, nI_M, Int32.zero_add, Int32.add_zero] <;> rfl) (by omega)) ?_)
  refine Vw.iload_n (de_iload_1 (B 25 _ rfl)) 1 rfl (n := 26) rfl ?_
  refine Vw.icmp_ne (tgt := 37) (n := 29) (de_icmp_ne (B 26 _ rfl) (B 27 _ rfl) (B 28 _ rfl)) rfl rfl (fun c_26 => ?_) (fun c_26 => ?_)
  · refine Vw.iconst (v := 0) (de_iconst_0 (B 37 _ rfl)) rfl (n := 38) rfl ?_
    refine Vw.iadd (de_iadd (B 38 _ rfl)) (n := 39) rfl ?_
    exact Vw.iret (de_ireturn (B 39 _ rfl)) rfl ⟨_, rfl, (by unfold shareT at h; first | (rw [if_pos c_7, if_pos c_26] at h; simpa using h) | (rw [if_pos c_7, if_neg c_26] at h; simpa using h) | (rw [if_neg c_7, if_pos c_26] at h; simpa using h) | (rw [if_neg c_7, if_neg c_26] at h; simpa using h))⟩
  refine Vw.iload_n (de_iload_3 (B 29 _ rfl)) 3 rfl (n := 30) rfl ?_
  refine Vw.iconst (v := 0) (de_iconst_0 (B 30 _ rfl)) rfl (n := 31) rfl ?_
  refine Vw.isi2 (mi' := mX12_shareBy) (de_invokestatic (B 31 _ rfl) (B 32 _ rfl) (B 33 _ rfl)) ml_X12_344 ms_X12_shareBy (Nat.le_of_ble_eq_true rfl) (n := 34) rfl (c_X12_shareBy ?_)
  refine Vw.goto_ (n := 38) (de_goto_ (B 34 _ rfl) (B 35 _ rfl) (B 36 _ rfl)) rfl ?_
  refine Vw.iadd (de_iadd (B 38 _ rfl)) (n := 39) rfl ?_
  exact Vw.iret (de_ireturn (B 39 _ rfl)) rfl ⟨_, rfl, (by unfold shareT at h; first | (rw [if_pos c_7, if_pos c_26] at h; simpa using h) | (rw [if_pos c_7, if_neg c_26] at h; simpa using h) | (rw [if_neg c_7, if_pos c_26] at h; simpa using h) | (rw [if_neg c_7, if_neg c_26] at h; simpa using h))⟩
/-- a coat: length, width, first, second, wearer, hems, buttons, paid -/
def cW (K : Nat → Int32) (c w : Nat) : Int32 := K (32 + 8 * c + w)
def fitP (a b : Int32) (P : tP) : Int32 := if P.2.1 ≤ a then (if P.2.2.1 ≤ b then 1 else 0) else 0
theorem fitP_1 {a b : Int32} {P : tP} (h1 : ¬ a < P.2.1) (h2 : ¬ b < P.2.2.1) : fitP a b P = 1 := by unfold fitP; rw [if_pos (Int32.not_lt.mp h1), if_pos (Int32.not_lt.mp h2)]
theorem fitP_a {a b : Int32} {P : tP} (h1 : a < P.2.1) : fitP a b P = 0 := by unfold fitP; rw [if_neg (Int32.not_le.mpr h1)]
theorem fitP_b {a b : Int32} {P : tP} (h1 : ¬ a < P.2.1) (h2 : b < P.2.2.1) : fitP a b P = 0 := by unfold fitP; rw [if_pos (Int32.not_lt.mp h1), if_neg (Int32.not_le.mpr h2)]
theorem c_X12_fits {d : Nat} {S : vS} {I : vI} {L : vL} {Q : Int32 → vS → vI → vL → Prop} {r : Nat} {c : Nat}  (hM : MS S r) (hc : c < 10) (h : Q (fitP (I (r + 2) (32 + 8 * c)) (I (r + 2) (32 + 8 * c + 1)) (PP I r)) S I L) : Vc mX12_fits (d + 1) 0 0 [.ref r, .int (nI c)] S I L (ViQ Q) := by
  refine Vc.of rfl (Nat.le_of_ble_eq_true rfl) ?_
  have B := bs_X12_fits
  show Vw mX12_fits (d + 1) 0 0 0 0 (ViQ Q) 0 [(0, .ref r), (1, .int (nI c))] [] S I L
  refine Vw.aload_n (de_aload_0 (B 0 _ rfl)) 0 rfl (n := 1) rfl ?_
  refine Vw.getI (de_getfield (B 1 _ rfl) (B 2 _ rfl) (B 3 _ rfl)) fl_X12_321 rfl hM.k (n := 4) rfl ?_
  refine Vw.aload_n (de_aload_0 (B 4 _ rfl)) 0 rfl (n := 5) rfl ?_
  refine Vw.iload_n (de_iload_1 (B 5 _ rfl)) 1 rfl (n := 6) rfl ?_
  refine Vw.iconst (v := 0) (de_iconst_0 (B 6 _ rfl)) rfl (n := 7) rfl ?_
  refine Vw.ivi2 (mi' := mX12_part) (de_invokevirtual (B 7 _ rfl) (B 8 _ rfl) (B 9 _ rfl)) ml_X12_136 mv_X12_part hM.k (Nat.le_of_ble_eq_true rfl) (n := 10) rfl (c_X12_part hM (vIx_n (k := 32 + 8 * c) (by simp only [nI_A, nI_M, Int32.zero_add, Int32.add_zero] <;> rfl) (by omega)) ?_)
  refine Vw.icmp_gt (tgt := 30) (n := 13) (de_icmp_gt (B 10 _ rfl) (B 11 _ rfl) (B 12 _ rfl)) rfl rfl (fun c_10 => ?_) (fun c_10 => ?_)
  · refine Vw.iconst (v := 0) (de_iconst_0 (B 30 _ rfl)) rfl (n := 31) rfl ?_
    exact Vw.zret (de_ireturn (B 31 _ rfl)) rfl rfl ⟨_, rfl, (by first | exact qv (fitP_a (P := PP I r) c_10) h | exact qv (fitP_b (P := PP I r) c_10 c_23) h | exact qv (fitP_1 (P := PP I r) c_10 c_23) h)⟩
  refine Vw.aload_n (de_aload_0 (B 13 _ rfl)) 0 rfl (n := 14) rfl ?_
  refine Vw.getI (de_getfield (B 14 _ rfl) (B 15 _ rfl) (B 16 _ rfl)) fl_X12_324 rfl hM.k (n := 17) rfl ?_
  refine Vw.aload_n (de_aload_0 (B 17 _ rfl)) 0 rfl (n := 18) rfl ?_
  refine Vw.iload_n (de_iload_1 (B 18 _ rfl)) 1 rfl (n := 19) rfl ?_
  refine Vw.iconst (v := 1) (de_iconst_1 (B 19 _ rfl)) rfl (n := 20) rfl ?_
  refine Vw.ivi2 (mi' := mX12_part) (de_invokevirtual (B 20 _ rfl) (B 21 _ rfl) (B 22 _ rfl)) ml_X12_136 mv_X12_part hM.k (Nat.le_of_ble_eq_true rfl) (n := 23) rfl (c_X12_part hM (vIx_n (k := 32 + 8 * c + 1) (by simp only [nI_A, nI_M, Int32.zero_add, Int32.add_zero] <;> rfl) (by omega)) ?_)
  refine Vw.icmp_gt (tgt := 30) (n := 26) (de_icmp_gt (B 23 _ rfl) (B 24 _ rfl) (B 25 _ rfl)) rfl rfl (fun c_23 => ?_) (fun c_23 => ?_)
  · refine Vw.iconst (v := 0) (de_iconst_0 (B 30 _ rfl)) rfl (n := 31) rfl ?_
    exact Vw.zret (de_ireturn (B 31 _ rfl)) rfl rfl ⟨_, rfl, (by first | exact qv (fitP_a (P := PP I r) c_10) h | exact qv (fitP_b (P := PP I r) c_10 c_23) h | exact qv (fitP_1 (P := PP I r) c_10 c_23) h)⟩
  refine Vw.iconst (v := 1) (de_iconst_1 (B 26 _ rfl)) rfl (n := 27) rfl ?_
  refine Vw.goto_ (n := 31) (de_goto_ (B 27 _ rfl) (B 28 _ rfl) (B 29 _ rfl)) rfl ?_
  exact Vw.zret (de_ireturn (B 31 _ rfl)) rfl rfl ⟨_, rfl, (by first | exact qv (fitP_a (P := PP I r) c_10) h | exact qv (fitP_b (P := PP I r) c_10 c_23) h | exact qv (fitP_1 (P := PP I r) c_10 c_23) h)⟩
theorem c_X12_fitsNow {d : Nat} {S : vS} {I : vI} {L : vL} {Q : Int32 → vS → vI → vL → Prop} {r : Nat} {c q : Nat}  (hM : MS S r) (hc : c < 10) (hq : q < 8) (h : ∀ I2, Fr r I I2 → Q (fitP (I (r + 2) (32 + 8 * c)) (I (r + 2) (32 + 8 * c + 1)) (perP (I (r + 2)) q)) S I2 L) : Vc mX12_fitsNow (d + 2) 0 0 [.ref r, .int (nI c), .int (nI q)] S I L (ViQ Q) := by
  refine Vc.of rfl (Nat.le_of_ble_eq_true rfl) ?_
  have B := bs_X12_fitsNow
  show Vw mX12_fitsNow (d + 2) 0 0 0 0 (ViQ Q) 0 [(0, .ref r), (1, .int (nI c)), (2, .int (nI q))] [] S I L
  refine Vw.aload_n (de_aload_0 (B 0 _ rfl)) 0 rfl (n := 1) rfl ?_
  refine Vw.iload_n (de_iload_2 (B 1 _ rfl)) 2 rfl (n := 2) rfl ?_
  refine Vw.ivv1 (mi' := mX12_takes) (de_invokevirtual (B 2 _ rfl) (B 3 _ rfl) (B 4 _ rfl)) ml_X12_140 mv_X12_takes hM.k (Nat.le_of_ble_eq_true rfl) (n := 5) rfl (c_X12_takes hM hq (fun I2 f2 e2 => ?_))
  refine Vw.aload_n (de_aload_0 (B 5 _ rfl)) 0 rfl (n := 6) rfl ?_
  refine Vw.iload_n (de_iload_1 (B 6 _ rfl)) 1 rfl (n := 7) rfl ?_
  refine Vw.ivi1 (mi' := mX12_fits) (de_invokevirtual (B 7 _ rfl) (B 8 _ rfl) (B 9 _ rfl)) ml_X12_352 mv_X12_fits hM.k (Nat.le_of_ble_eq_true rfl) (n := 10) rfl (c_X12_fits hM hc ?_)
  exact Vw.zret (de_ireturn (B 10 _ rfl)) rfl (by unfold fitP; split <;> (try split) <;> rfl) ⟨_, rfl, (by rw [e2, f2.k]; exact h _ f2)⟩
theorem c_X12_paysNow {d : Nat} {S : vS} {I : vI} {L : vL} {Q : Int32 → vS → vI → vL → Prop} {r : Nat} {c q : Nat} {W : tW}  (hM : MS S r) (hW : WD (I (r + 2)) W) (hc : c < 10) (hq : q < 8) (hwr : I (r + 2) (32 + 8 * c + 4) = nI q) (h : ∀ I2, Fr r I I2 → Q (payP W (nI q) (I (r + 2) (32 + 8 * c + 2)) (I (r + 2) (32 + 8 * c)) (I (r + 2) (32 + 8 * c + 1)) (I (r + 2) 121) (perP (I (r + 2)) q)) S I2 L) : Vc mX12_paysNow (d + 44) 0 0 [.ref r, .int (nI c)] S I L (ViQ Q) := by
  refine Vc.of rfl (Nat.le_of_ble_eq_true rfl) ?_
  have B := bs_X12_paysNow
  show Vw mX12_paysNow (d + 44) 0 0 0 0 (ViQ Q) 0 [(0, .ref r), (1, .int (nI c))] [] S I L
  refine Vw.aload_n (de_aload_0 (B 0 _ rfl)) 0 rfl (n := 1) rfl ?_
  refine Vw.aload_n (de_aload_0 (B 1 _ rfl)) 0 rfl (n := 2) rfl ?_
  refine Vw.iload_n (de_iload_1 (B 2 _ rfl)) 1 rfl (n := 3) rfl ?_
  refine Vw.iconst (v := 4) (de_iconst_4 (B 3 _ rfl)) rfl (n := 4) rfl ?_
  refine Vw.ivi2 (mi' := mX12_part) (de_invokevirtual (B 4 _ rfl) (B 5 _ rfl) (B 6 _ rfl)) ml_X12_136 mv_X12_part hM.k (Nat.le_of_ble_eq_true rfl) (n := 7) rfl (c_X12_part hM (vIx_n (k := 32 + 8 * c + 4) (by simp only [nI_A, nI_M, Int32.zero_add, Int32.add_zero] <;> rfl) (by omega)) ?_)
  rw [hwr]
  refine Vw.ivv1 (mi' := mX12_takes) (de_invokevirtual (B 7 _ rfl) (B 8 _ rfl) (B 9 _ rfl)) ml_X12_140 mv_X12_takes hM.k (Nat.le_of_ble_eq_true rfl) (n := 10) rfl (c_X12_takes hM hq (fun I2 f2 e2 => ?_))
  refine Vw.aload_n (de_aload_0 (B 10 _ rfl)) 0 rfl (n := 11) rfl ?_
  refine Vw.aload_n (de_aload_0 (B 11 _ rfl)) 0 rfl (n := 12) rfl ?_
  refine Vw.iload_n (de_iload_1 (B 12 _ rfl)) 1 rfl (n := 13) rfl ?_
  refine Vw.iconst (v := 4) (de_iconst_4 (B 13 _ rfl)) rfl (n := 14) rfl ?_
  refine Vw.ivi2 (mi' := mX12_part) (de_invokevirtual (B 14 _ rfl) (B 15 _ rfl) (B 16 _ rfl)) ml_X12_136 mv_X12_part hM.k (Nat.le_of_ble_eq_true rfl) (n := 17) rfl (c_X12_part hM (vIx_n (k := 32 + 8 * c + 4) (by simp only [nI_A, nI_M, Int32.zero_add, Int32.add_zero] <;> rfl) (by omega)) ?_)
  rw [f2.k, hwr]
  refine Vw.aload_n (de_aload_0 (B 17 _ rfl)) 0 rfl (n := 18) rfl ?_
  refine Vw.iload_n (de_iload_1 (B 18 _ rfl)) 1 rfl (n := 19) rfl ?_
  refine Vw.iconst (v := 2) (de_iconst_2 (B 19 _ rfl)) rfl (n := 20) rfl ?_
  refine Vw.ivi2 (mi' := mX12_part) (de_invokevirtual (B 20 _ rfl) (B 21 _ rfl) (B 22 _ rfl)) ml_X12_136 mv_X12_part hM.k (Nat.le_of_ble_eq_true rfl) (n := 23) rfl (c_X12_part hM (vIx_n (k := 32 + 8 * c + 2) (by simp only [nI_A, nI_M, Int32.zero_add, Int32.add_zero] <;> rfl) (by omega)) ?_)
  refine Vw.aload_n (de_aload_0 (B 23 _ rfl)) 0 rfl (n := 24) rfl ?_
  refine Vw.iload_n (de_iload_1 (B 24 _ rfl)) 1 rfl (n := 25) rfl ?_
  refine Vw.iconst (v := 0) (de_iconst_0 (B 25 _ rfl)) rfl (n := 26) rfl ?_
  refine Vw.ivi2 (mi' := mX12_part) (de_invokevirtual (B 26 _ rfl) (B 27 _ rfl) (B 28 _ rfl)) ml_X12_136 mv_X12_part hM.k (Nat.le_of_ble_eq_true rfl) (n := 29) rfl (c_X12_part hM (vIx_n (k := 32 + 8 * c) (by simp only [nI_A, nI_M, Int32.zero_add, Int32.add_zero] <;> rfl) (by omega)) ?_)
  refine Vw.aload_n (de_aload_0 (B 29 _ rfl)) 0 rfl (n := 30) rfl ?_
  refine Vw.iload_n (de_iload_1 (B 30 _ rfl)) 1 rfl (n := 31) rfl ?_
  refine Vw.iconst (v := 1) (de_iconst_1 (B 31 _ rfl)) rfl (n := 32) rfl ?_
  refine Vw.ivi2 (mi' := mX12_part) (de_invokevirtual (B 32 _ rfl) (B 33 _ rfl) (B 34 _ rfl)) ml_X12_136 mv_X12_part hM.k (Nat.le_of_ble_eq_true rfl) (n := 35) rfl (c_X12_part hM (vIx_n (k := 32 + 8 * c + 1) (by simp only [nI_A, nI_M, Int32.zero_add, Int32.add_zero] <;> rfl) (by omega)) ?_)
  refine Vw.aload_n (de_aload_0 (B 35 _ rfl)) 0 rfl (n := 36) rfl ?_
  refine Vw.getR (de_getfield (B 36 _ rfl) (B 37 _ rfl) (B 38 _ rfl)) fl_X12_24 rfl hM.k (MS_kept hM).1 (n := 39) rfl ?_
  refine Vw.bipush (v := 121) (de_bipush (B 39 _ rfl) (B 40 _ rfl)) rfl (n := 41) rfl ?_
  refine Vw.iald (de_iaload (B 41 _ rfl)) (MS_kept hM).2 (j := 121) ⟨rfl, by decide, by decide⟩ (n := 42) rfl ?_
  refine Vw.ivi5 (mi' := mX12_paysOf) (de_invokevirtual (B 42 _ rfl) (B 43 _ rfl) (B 44 _ rfl)) ml_X12_348 mv_X12_paysOf hM.k (Nat.le_of_ble_eq_true rfl) (n := 45) rfl (c_X12_paysOf hM (by rw [f2.k]; exact hW) (fun I3 f3 e3 => ?_))
  exact Vw.iret (de_ireturn (B 45 _ rfl)) rfl ⟨_, rfl, (by rw [e2, f2.k]; exact h _ (f2.trans f3))⟩
