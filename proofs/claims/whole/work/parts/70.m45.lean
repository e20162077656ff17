/-! ORDERS run -/
abbrev tO : Type := (Nat → Int32) × (Nat → Int32) × Nat × Int32 × Int32
def rndP (W : tW) (np nc : Nat) (c : tC) (s : tO) : Option tO := if clHolds c (nvO s.1 np s.2.2.2.1 s.2.2.2.2) = true then
    (match c.2.1 (nvO s.1 np s.2.2.2.1 s.2.2.2.2), c.2.2.1 (nvO s.1 np s.2.2.2.1 s.2.2.2.2) with
    | some a, some b => if (obeyP W np nc s.1 s.2.1 s.2.2.1 c.1 (smallP a) (smallP b)).1 < 0 then none else some ((obeyP W np nc s.1 s.2.1 s.2.2.1 c.1 (smallP a) (smallP b)).2.1, (obeyP W np nc s.1 s.2.1 s.2.2.1 c.1 (smallP a) (smallP b)).2.2.1, (obeyP W np nc s.1 s.2.1 s.2.2.1 c.1 (smallP a) (smallP b)).2.2.2, s.2.2.2.1 + 1, paidO c.1 (obeyP W np nc s.1 s.2.1 s.2.2.1 c.1 (smallP a) (smallP b)).1 s.2.2.2.2)
    | _, _ => none)
  else some s
def rndsP (W : tW) (np nc : Nat) (c : tC) : Nat → tO → Option tO
  | 0, s => some s
  | n + 1, s => match rndP W np nc c s with
    | none => none
    | some s2 => rndsP W np nc c n s2
def ordsP (W : tW) (np nc : Nat) : List tC → Nat → tO → Except Nat tO
  | [], _, s => .ok s
  | c :: cs, n, s => match rndsP W np nc c c.2.2.2.1.toNatClampNeg s with
    | none => .error n
    | some s2 => ordsP W np nc cs (n + 1) s2
theorem rndP_h {W : tW} {np nc : Nat} {c : tC} {s : tO} (h : clHolds c (nvO s.1 np s.2.2.2.1 s.2.2.2.2) = false) : rndP W np nc c s = some s := by
  unfold rndP; rw [h, if_neg (by decide)]
theorem rndP_b {W : tW} {np nc : Nat} {c : tC} {s : tO} (h : clHolds c (nvO s.1 np s.2.2.2.1 s.2.2.2.2) = true) (h2 : c.2.1 (nvO s.1 np s.2.2.2.1 s.2.2.2.2) = none ∨ c.2.2.1 (nvO s.1 np s.2.2.2.1 s.2.2.2.2) = none) : rndP W np nc c s = none := by
  unfold rndP; rw [if_pos h]
  rcases h2 with h2 | h2
  · rw [h2]
  · rw [h2]; cases c.2.1 (nvO s.1 np s.2.2.2.1 s.2.2.2.2) <;> rfl
theorem rndP_x {W : tW} {np nc : Nat} {c : tC} {s : tO} {a b : Int64} {ob : tOb} (h : clHolds c (nvO s.1 np s.2.2.2.1 s.2.2.2.2) = true) (ha : c.2.1 (nvO s.1 np s.2.2.2.1 s.2.2.2.2) = some a) (hb : c.2.2.1 (nvO s.1 np s.2.2.2.1 s.2.2.2.2) = some b) (ho : obeyP W np nc s.1 s.2.1 s.2.2.1 c.1 (smallP a) (smallP b) = ob) : rndP W np nc c s = if ob.1 < 0 then none else some (ob.2.1, ob.2.2.1, ob.2.2.2, s.2.2.2.1 + 1, paidO c.1 ob.1 s.2.2.2.2) := by
  unfold rndP; rw [if_pos h, ha, hb]; simp only; rw [ho]
def StO (np nc : Nat) (K : Nat → Int32) (s : tO) : Prop := TN s.1 np nc ∧ (∀ x, 122 ≤ x → s.1 x = K x) ∧ s.2.2.1 ≤ 16
/-- the state of a run lies in the reference's rows -/
def OS (I : vI) (r : Nat) (s : tO) : Prop := I (r + 2) = s.1 ∧ I (r + 14) = s.2.1 ∧ I r 32 = nI s.2.2.1 ∧ I r 44 = s.2.2.2.1 ∧ I r 45 = s.2.2.2.2
def Fz (r : Nat) (I I2 : vI) : Prop := ∀ a k, ¬ (a = r ∧ (20 ≤ k ∧ k ≤ 29 ∨ k = 32 ∨ 44 ≤ k ∧ k ≤ 50 ∨ k = 55)) → a ≠ r + 2 → a ≠ r + 12 → a ≠ r + 13 → a ≠ r + 14 → I2 a k = I a k
theorem Fz.rfl {r : Nat} {I : vI} : Fz r I I := fun _ _ _ _ _ _ _ => Eq.refl _
theorem Fz.trans {r : Nat} {I I2 I3 : vI} (h : Fz r I I2) (g : Fz r I2 I3) : Fz r I I3 := fun a k h1 h2 h3 h4 h5 => (g a k h1 h2 h3 h4 h5).trans (h a k h1 h2 h3 h4 h5)
theorem Fo.fz {r : Nat} {I I2 : vI} (h : Fo r I I2) : Fz r I I2 := fun a k h1 _ _ h4 _ => h a k (by omega) h4
theorem Fq.fz {r : Nat} {I I2 : vI} (h : Fq r I I2) : Fz r I I2 := fun a k h1 h2 h3 _ h5 => h a k (by omega) h2 h3 h5
theorem Fz.u {r k : Nat} {I J : vI} {v : Int32} (h : Fz r I J) (hk : 44 ≤ k ∧ k ≤ 50) : Fz r I (up2 J r k v) := fun a j h1 h2 h3 h4 h5 => by rw [up2_n (by omega)]; exact h a j h1 h2 h3 h4 h5
theorem Fo.os {I I2 : vI} {r : Nat} {s : tO} (h : Fo r I I2) (g : OS I r s) : OS I2 r s := ⟨h.k.trans g.1, (funext fun k => h _ _ (by omega) (by omega)).trans g.2.1, (h _ _ (by omega) (by omega)).trans g.2.2.1, (h _ _ (by omega) (by omega)).trans g.2.2.2.1, (h _ _ (by omega) (by omega)).trans g.2.2.2.2⟩
theorem pOrder_t {cd vl : Nat → Int32} {o : Bool} {i l j l2 : Nat} {c : tC} (h : pOrder cd vl o i l = .ok (j, l2, c)) : (∃ tm, tm ≤ 20 ∧ c.2.2.2.1 = nI tm) ∧ (c.1 = 21 ∨ c.1 = 23 ∨ c.1 = 25 ∨ c.1 = 26 ∨ c.1 = 16) := by
  obtain ⟨j0, l0, ab, h1, h2⟩ := pOrder_inv h
  have hv : cd i = 21 ∨ cd i = 23 ∨ cd i = 25 ∨ cd i = 26 ∨ cd i = 16 := by
    rcases pHead_inv h1 with ⟨e, _⟩ | ⟨e, _⟩ | ⟨e, _⟩ | ⟨e, _⟩
    · exact Or.inl e
    · exact Or.inr (Or.inl e)
    · rcases e with e | e
      · exact Or.inr (Or.inr (Or.inl e))
      · exact Or.inr (Or.inr (Or.inr (Or.inl e)))
    · exact Or.inr (Or.inr (Or.inr (Or.inr e)))
  rcases pTimes_inv h2 with ⟨_, _, e, q⟩ | ⟨_, q⟩
  · have z := pTail_v q
    obtain ⟨tm, _, t2, t3⟩ := lie_m (a := 1) (N := 20) (by decide) (by decide) e
    exact ⟨⟨tm, t2, by rw [z.2.2.2]; exact t3⟩, by rw [z.1]; exact hv⟩
  · have z := pTail_v q
    exact ⟨⟨1, by decide, by rw [z.2.2.2]; rfl⟩, by rw [z.1]; exact hv⟩
theorem pOrder_b {cd vl : Nat → Int32} {o : Bool} {nt i l j l2 : Nat} {c : tC} (h0 : cd nt = 0) (hi : i ≤ nt) (h : pOrder cd vl o i l = .ok (j, l2, c)) : i < nt ∧ j ≤ nt := by
  obtain ⟨j0, l0, ab, h1, h2⟩ := pOrder_inv h
  have e := pHead_b h0 hi h1
  exact ⟨by omega, pTimes_b h0 e.2 h2⟩
def RowO (K : Nat → Int32) (nt : Nat) (cd vl : Nat → Int32) : Prop := (∀ i, i < nt → K (153 + 2400 + i) = cd i ∧ K (2953 + 2400 + i) = vl i) ∧ cd nt = 0 ∧ nt ≤ 400
theorem c_X12_runs {d : Nat} {S : vS} {I : vI} {L : vL} {Q : Int32 → vS → vI → vL → Prop} {r : Nat} {np nc nt k l j l2 : Nat} {W : tW} {cd vl : Nat → Int32} {c : tC} {s : tO} (hM : MS S r) (hW : WD (I (r + 2)) W) (hR : RowO (I (r + 2)) nt cd vl) (hat : I r 46 = nI (2400 + k)) (hk : k ≤ nt) (hP : pOrder cd vl true k l = .ok (j, l2, c)) (hS : OS I r s) (hOK : StO np nc s.1 s)
  (h1 : rndsP W np nc c c.2.2.2.1.toNatClampNeg s = none → ∀ I2 M, Fz r I I2 → Ls r L M → (∀ x, 122 ≤ x → I2 (r + 2) x = I (r + 2) x) → Q 0 S I2 M)
  (h : ∀ s2, rndsP W np nc c c.2.2.2.1.toNatClampNeg s = some s2 → ∀ I2 M, Fz r I I2 → Ls r L M → OS I2 r s2 → StO np nc s.1 s2 → I2 r 46 = nI (2400 + (j + 1)) → Q 1 S I2 M) : Vc mX12_runs (d + 49) 0 0 [.ref r, .int (nI (2400 + nt))] S I L (ViQ Q) := by
  refine Vc.of rfl (Nat.le_of_ble_eq_true rfl) ?_
  have B := bs_X12_runs
  show Vw mX12_runs (d + 49) 0 0 0 0 (ViQ Q) 0 [(0, .ref r), (1, .int (nI (2400 + nt)))] [] S I L
  obtain ⟨⟨tm, ht20, etm⟩, hv⟩ := pOrder_t hP
  rw [etm, nI_cl (by omega)] at h1 h
  obtain ⟨hR1, hR2, hR3⟩ := hR
  have eIs := hS.1
  have GA : ∀ (J : vI) (s2 : tO), J (r + 2) = s2.1 → StO np nc s.1 s2 → (J (r + 2) 142 = nI np ∧ np ≤ 8) ∧ (∀ i, i < nt → J (r + 2) (153 + 2400 + i) = cd i ∧ J (r + 2) (2953 + 2400 + i) = vl i) ∧ WD (J (r + 2)) W ∧ TN (J (r + 2)) np nc := by
    intro J s2 e g
    rw [e]
    refine ⟨⟨g.1.2.2.1, g.1.1⟩, fun i hi => ?_, hW.of (fun x hx => by rw [eIs]; exact g.2.1 x (by omega)), g.1⟩
    rw [g.2.1 _ (by omega), g.2.1 _ (by omega), ← eIs]
    exact hR1 i hi
  have loop : ∀ q, q ≤ tm → ∀ s2, rndsP W np nc c tm s = rndsP W np nc c (tm - q) s2 → StO np nc s.1 s2 → ∀ J M, Fz r I J → Ls r L M → OS J r s2 → J r 46 = nI (2400 + k) → Vw mX12_runs (d + 49) 0 0 0 0 (ViQ Q) 19 [(0, .ref r), (1, .int (nI (2400 + nt))), (2, .int (nI tm)), (3, .int (nI (2400 + (j + 1)))), (4, .int (nI q))] [] S J M := by
    refine loop_up (fun q hq ih => ?_)
    intro s2 es g2 J M fJ fM oJ aJ
    obtain ⟨⟨e142, hnp⟩, eR, eW, eT⟩ := GA J s2 oJ.1 g2
    refine Vw.iload (de_iload (B 19 _ rfl) (B 20 _ rfl)) 4 rfl (n := 21) rfl ?_
    refine Vw.iload_n (de_iload_2 (B 21 _ rfl)) 2 rfl (n := 22) rfl ?_
    refine Vw.icmp_ge (tgt := 73) (n := 25) (de_icmp_ge (B 22 _ rfl) (B 23 _ rfl) (B 24 _ rfl)) rfl rfl (fun c_22 => ?_) (fun c_22 => ?_)
    · have z_22 : tm ≤ q := ((nI_leI (a := tm) (b := q) (by omega) (by omega)).mp c_22)
      obtain rfl : q = tm := by omega
      rw [Nat.sub_self, rndsP] at es
      refine Vw.aload_n (de_aload_0 (B 73 _ rfl)) 0 rfl (n := 74) rfl ?_
      refine Vw.iload_n (de_iload_3 (B 74 _ rfl)) 3 rfl (n := 75) rfl ?_
      refine Vw.putI (de_putfield (B 75 _ rfl) (B 76 _ rfl) (B 77 _ rfl)) fl_X12_440 hM.k rfl rfl (n := 78) rfl ?_
      refine Vw.iconst (v := 1) (de_iconst_1 (B 78 _ rfl)) rfl (n := 79) rfl ?_
      exact Vw.zret (de_ireturn (B 79 _ rfl)) rfl rfl ⟨_, rfl, (h s2 es _ M (fJ.u (by omega)) fM ⟨by rw [up2_row (by omega)]; exact oJ.1, by rw [up2_row (by omega)]; exact oJ.2.1, by rw [up2_k (by decide)]; exact oJ.2.2.1, by rw [up2_k (by decide)]; exact oJ.2.2.2.1, by rw [up2_k (by decide)]; exact oJ.2.2.2.2⟩ g2 (up2_s _ _ _ _))⟩
    have z_22 : q < tm := by rcases Nat.lt_or_ge q tm with z | z; exact z; exact absurd ((nI_leI (a := tm) (b := q) (by omega) (by omega)).mpr z) c_22
    rw [show tm - q = (tm - (q + 1)) + 1 by omega, rndsP] at es
    refine Vw.aload_n (de_aload_0 (B 25 _ rfl)) 0 rfl (n := 26) rfl ?_
    refine Vw.iload_n (de_iload_1 (B 26 _ rfl)) 1 rfl (n := 27) rfl ?_
    refine Vw.iconst (v := 1) (de_iconst_1 (B 27 _ rfl)) rfl (n := 28) rfl ?_
    refine Vw.ivv2 (mi' := mX12_goesAlong) (de_invokevirtual (B 28 _ rfl) (B 29 _ rfl) (B 30 _ rfl)) ml_X12_470 mv_X12_goesAlong hM.k (Nat.le_of_ble_eq_true rfl) (n := 31) rfl (c_X12_goesAlong (np := np) (nt := nt) (k := k) (l := l) (j := j) (l2 := l2) (cd := cd) (vl := vl) (c := c) hM (Or.inr rfl) e142 hnp aJ hk eR hR2 hR3 hP (fun I3 M3 f3 m3 g20 g47 h48 g3 => ?_))
    have o3 := f3.os oJ
    have eNV : nvO (J (r + 2)) np (J r 44) (J r 45) = nvO s2.1 np s2.2.2.2.1 s2.2.2.2.2 := by rw [oJ.1, oJ.2.2.2.1, oJ.2.2.2.2]
    have gl := g3 rfl
    rw [eNV] at gl
    have fJ3 := fJ.trans f3.fz
    have fM3 : Ls r L M3 := fun a k q => (m3 a k q).trans (fM a k q)
    refine Vw.aload_n (de_aload_0 (B 31 _ rfl)) 0 rfl (n := 32) rfl ?_
    refine Vw.getI (de_getfield (B 32 _ rfl) (B 33 _ rfl) (B 34 _ rfl)) fl_X12_458 rfl hM.k (n := 35) rfl ?_
    refine Vw.if_ne (tgt := 41) (n := 38) (de_if_ne (B 35 _ rfl) (B 36 _ rfl) (B 37 _ rfl)) rfl rfl (fun c_35 => ?_) (fun c_35 => ?_)
    · refine Vw.aload_n (de_aload_0 (B 41 _ rfl)) 0 rfl (n := 42) rfl ?_
      refine Vw.getI (de_getfield (B 42 _ rfl) (B 43 _ rfl) (B 44 _ rfl)) fl_X12_452 rfl hM.k (n := 45) rfl ?_
      refine Vw.if_eq (tgt := 55) (n := 48) (de_if_eq (B 45 _ rfl) (B 46 _ rfl) (B 47 _ rfl)) rfl rfl (fun c_45 => ?_) (fun c_45 => ?_)
      · refine Vw.iconst (v := 0) (de_iconst_0 (B 55 _ rfl)) rfl (n := 56) rfl ?_
        exact Vw.zret (de_ireturn (B 56 _ rfl)) rfl rfl ⟨_, rfl, (by
    first
    | (rw [rndP_b (gl.2.1 c_35) (gl.2.2.1 c_45)] at es
       exact h1 es I3 M3 fJ3 fM3 (fun x hx => by rw [o3.1, eIs]; exact g2.2.1 x hx))
    | (rw [er, if_pos (Int32.not_le.mp c_52)] at es
       exact h1 es I4 M3 fJ4 fM3 (fun x hx => by rw [k4, eIs]; exact (ook.2.1 x hx).trans (g2.2.1 x hx))))⟩
      obtain ⟨va, vb, hva, hvb, hM0, hM1⟩ := gl.2.2.2 c_45
      obtain ⟨_, _, eW3, eT3⟩ := GA I3 s2 o3.1 g2
      have hob : obeyP W np nc (I3 (r + 2)) (I3 (r + 14)) s2.2.2.1 (I3 r 48) (smallP (M3 (r + 25) 0)) (smallP (M3 (r + 25) 1)) = obeyP W np nc s2.1 s2.2.1 s2.2.2.1 c.1 (smallP va) (smallP vb) := by
        rw [o3.1, o3.2.1, h48]
        exact obeyP_c (fun z => by rw [hM0 z]) (fun z => by rw [hM1 z]) hv
      have ook := obeyP_ok (W := W) (F := s2.2.1) (v := c.1) (a := smallP va) (b := smallP vb) g2.1 g2.2.2
      have er := rndP_x (W := W) (np := np) (nc := nc) (gl.2.1 c_35) hva hvb rfl
      refine Vw.aload_n (de_aload_0 (B 48 _ rfl)) 0 rfl (n := 49) rfl ?_
      refine Vw.ivi0 (mi' := mX12_obeys) (de_invokevirtual (B 49 _ rfl) (B 50 _ rfl) (B 51 _ rfl)) ml_X12_474 mv_X12_obeys hM.k (Nat.le_of_ble_eq_true rfl) (n := 52) rfl (c_X12_obeys (W := W) (np := np) (nc := nc) (u := s2.2.2.1) hM eW3 eT3 o3.2.2.1 g2.2.2 (fun I4 f4 k4 l4 u4 p4 => ?_))
      rw [hob] at k4 l4 u4 p4 ⊢
      rw [h48, o3.2.2.2.2] at p4
      have fJ4 := fJ3.trans f4.fz
      refine Vw.if_ge (tgt := 57) (n := 55) (de_if_ge (B 52 _ rfl) (B 53 _ rfl) (B 54 _ rfl)) rfl rfl (fun c_52 => ?_) (fun c_52 => ?_)
      · rw [if_neg (Int32.not_lt.mpr c_52)] at er
        rw [er] at es
        refine Vw.aload_n (de_aload_0 (B 57 _ rfl)) 0 rfl (n := 58) rfl ?_
        refine Vw.dup (de_dup (B 58 _ rfl)) rfl (n := 59) rfl ?_
        refine Vw.getI (de_getfield (B 59 _ rfl) (B 60 _ rfl) (B 61 _ rfl)) fl_X12_434 rfl hM.k (n := 62) rfl ?_
        rw [show I4 r 44 = s2.2.2.2.1 from (f4 _ _ (by omega) (by omega) (by omega) (by omega)).trans o3.2.2.2.1]
        refine Vw.iconst (v := 1) (de_iconst_1 (B 62 _ rfl)) rfl (n := 63) rfl ?_
        refine Vw.iadd (de_iadd (B 63 _ rfl)) (n := 64) rfl ?_
        refine Vw.putI (de_putfield (B 64 _ rfl) (B 65 _ rfl) (B 66 _ rfl)) fl_X12_434 hM.k rfl rfl (n := 67) rfl ?_
        refine Vw.iinc (v := nI (q + 1)) (lv2 := [(0, _), (1, _), (2, _), (3, _), (4, _)]) (de_iinc (B 67 _ rfl) (B 68 _ rfl) (B 69 _ rfl)) 4 rfl (nI_1 q) (by decide) [1, 2, 3, 4, 0] rfl (n := 70) rfl ?_
        refine Vw.goto_ (n := 19) (de_goto_ (B 70 _ rfl) (B 71 _ rfl) (B 72 _ rfl)) rfl ?_
        first
        | (rw [rndP_h (gl.1 c_35)] at es
           exact ih z_22 s2 es g2 I3 M3 fJ3 fM3 o3 ((f3 _ _ (by omega) (by omega)).trans aJ))
        | (refine ih z_22 _ es ⟨ook.1, fun x hx => (ook.2.1 x hx).trans (g2.2.1 x hx), ook.2.2⟩ _ M3 (fJ4.u (by omega)) fM3 ⟨?_, ?_, ?_, ?_, ?_⟩ ?_
           · rw [up2_row (by omega)]; exact k4
           · rw [up2_row (by omega)]; exact l4
           · rw [up2_k (by decide)]; exact u4
           · rw [up2_s]
           · rw [up2_k (by decide)]; exact p4
           · rw [up2_k (by decide), f4 _ _ (by omega) (by omega) (by omega) (by omega), f3 _ _ (by omega) (by omega)]; exact aJ)
      refine Vw.iconst (v := 0) (de_iconst_0 (B 55 _ rfl)) rfl (n := 56) rfl ?_
      exact Vw.zret (de_ireturn (B 56 _ rfl)) rfl rfl ⟨_, rfl, (by
    first
    | (rw [rndP_b (gl.2.1 c_35) (gl.2.2.1 c_45)] at es
       exact h1 es I3 M3 fJ3 fM3 (fun x hx => by rw [o3.1, eIs]; exact g2.2.1 x hx))
    | (rw [er, if_pos (Int32.not_le.mp c_52)] at es
       exact h1 es I4 M3 fJ4 fM3 (fun x hx => by rw [k4, eIs]; exact (ook.2.1 x hx).trans (g2.2.1 x hx))))⟩
    refine Vw.goto_ (n := 67) (de_goto_ (B 38 _ rfl) (B 39 _ rfl) (B 40 _ rfl)) rfl ?_
    refine Vw.iinc (v := nI (q + 1)) (lv2 := [(0, _), (1, _), (2, _), (3, _), (4, _)]) (de_iinc (B 67 _ rfl) (B 68 _ rfl) (B 69 _ rfl)) 4 rfl (nI_1 q) (by decide) [1, 2, 3, 4, 0] rfl (n := 70) rfl ?_
    refine Vw.goto_ (n := 19) (de_goto_ (B 70 _ rfl) (B 71 _ rfl) (B 72 _ rfl)) rfl ?_
    first
    | (rw [rndP_h (gl.1 c_35)] at es
       exact ih z_22 s2 es g2 I3 M3 fJ3 fM3 o3 ((f3 _ _ (by omega) (by omega)).trans aJ))
    | (refine ih z_22 _ es ⟨ook.1, fun x hx => (ook.2.1 x hx).trans (g2.2.1 x hx), ook.2.2⟩ _ M3 (fJ4.u (by omega)) fM3 ⟨?_, ?_, ?_, ?_, ?_⟩ ?_
       · rw [up2_row (by omega)]; exact k4
       · rw [up2_row (by omega)]; exact l4
       · rw [up2_k (by decide)]; exact u4
       · rw [up2_s]
       · rw [up2_k (by decide)]; exact p4
       · rw [up2_k (by decide), f4 _ _ (by omega) (by omega) (by omega) (by omega), f3 _ _ (by omega) (by omega)]; exact aJ)
  obtain ⟨⟨e142, hnp⟩, eR, eW, eT⟩ := GA I s eIs hOK
  refine Vw.aload_n (de_aload_0 (B 0 _ rfl)) 0 rfl (n := 1) rfl ?_
  refine Vw.iload_n (de_iload_1 (B 1 _ rfl)) 1 rfl (n := 2) rfl ?_
  refine Vw.iconst (v := 0) (de_iconst_0 (B 2 _ rfl)) rfl (n := 3) rfl ?_
  refine Vw.ivv2 (mi' := mX12_goesAlong) (de_invokevirtual (B 3 _ rfl) (B 4 _ rfl) (B 5 _ rfl)) ml_X12_470 mv_X12_goesAlong hM.k (Nat.le_of_ble_eq_true rfl) (n := 6) rfl (c_X12_goesAlong (np := np) (nt := nt) (k := k) (l := l) (j := j) (l2 := l2) (cd := cd) (vl := vl) (c := c) hM (Or.inl rfl) e142 hnp hat hk hR1 hR2 hR3 hP (fun I3 M3 f3 m3 g20 g47 h48 g3 => ?_))
  refine Vw.aload_n (de_aload_0 (B 6 _ rfl)) 0 rfl (n := 7) rfl ?_
  refine Vw.getI (de_getfield (B 7 _ rfl) (B 8 _ rfl) (B 9 _ rfl)) fl_X12_455 rfl hM.k (n := 10) rfl ?_
  rw [g47, etm]
  refine Vw.istore_n (lv2 := [(0, _), (1, _), (2, _)]) (de_istore_2 (B 10 _ rfl)) rfl (by decide) [1, 2, 0] rfl (n := 11) rfl ?_
  refine Vw.aload_n (de_aload_0 (B 11 _ rfl)) 0 rfl (n := 12) rfl ?_
  refine Vw.getI (de_getfield (B 12 _ rfl) (B 13 _ rfl) (B 14 _ rfl)) fl_X12_270 rfl hM.k (n := 15) rfl ?_
  rw [g20]
  refine Vw.istore_n (lv2 := [(0, _), (1, _), (2, _), (3, _)]) (de_istore_3 (B 15 _ rfl)) rfl (by decide) [1, 2, 3, 0] rfl (n := 16) rfl ?_
  refine Vw.iconst (v := 0) (de_iconst_0 (B 16 _ rfl)) rfl (n := 17) rfl ?_
  refine Vw.istore (lv2 := [(0, _), (1, _), (2, _), (3, _), (4, _)]) (de_istore (B 17 _ rfl) (B 18 _ rfl)) (by decide) [1, 2, 3, 4, 0] rfl (n := 19) rfl ?_
  exact loop 0 (Nat.zero_le _) s rfl hOK I3 M3 f3.fz m3 (f3.os hS) ((f3 _ _ (by omega) (by omega)).trans hat)
