/-! ORDERS in the class -/
def vbO (c : Int32) : Int32 := if c = 21 then 0 else if c = 23 then 1 else if c = 25 then 2 else if c = 26 then 3 else 4
def obeyL (W : tW) (np nc : Nat) (K : Nat → Int32) (l : List tH) (v a b : Int32) : tOl := if v = 21 then feedL K l np a b else if v = 25 then letL K l nc a 0 else if v = 26 then letL K l nc a 1 else if v = 23 then handL W K l np nc a b else quarL W K l np nc
abbrev tQ : Type := (Nat → Int32) × List tH × Int32 × Int32
def rndL (W : tW) (np nc : Nat) (c : tC) (s : tQ) : Option tQ := if clHolds c (nvO s.1 np s.2.2.1 s.2.2.2) = true then
    (match c.2.1 (nvO s.1 np s.2.2.1 s.2.2.2), c.2.2.1 (nvO s.1 np s.2.2.1 s.2.2.2) with
    | some a, some b => if (obeyL W np nc s.1 s.2.1 c.1 a.toInt32 b.toInt32).1 < 0 then none else some ((obeyL W np nc s.1 s.2.1 c.1 a.toInt32 b.toInt32).2.1, (obeyL W np nc s.1 s.2.1 c.1 a.toInt32 b.toInt32).2.2, s.2.2.1 + 1, paidO c.1 (obeyL W np nc s.1 s.2.1 c.1 a.toInt32 b.toInt32).1 s.2.2.2)
    | _, _ => none)
  else some s
def rndsL (W : tW) (np nc : Nat) (c : tC) : Nat → tQ → Option tQ
  | 0, s => some s
  | n + 1, s => match rndL W np nc c s with
    | none => none
    | some s2 => rndsL W np nc c n s2
def ordsL (W : tW) (np nc : Nat) : List tC → Nat → tQ → Except Nat tQ
  | [], _, s => .ok s
  | c :: cs, n, s => match rndsL W np nc c c.2.2.2.1.toNatClampNeg s with
    | none => .error n
    | some s2 => ordsL W np nc cs (n + 1) s2
theorem rndL_h {W : tW} {np nc : Nat} {c : tC} {s : tQ} (h : clHolds c (nvO s.1 np s.2.2.1 s.2.2.2) = false) : rndL W np nc c s = some s := by
  unfold rndL; rw [h, if_neg (by decide)]
theorem rndL_b {W : tW} {np nc : Nat} {c : tC} {s : tQ} (h : clHolds c (nvO s.1 np s.2.2.1 s.2.2.2) = true) (h2 : c.2.1 (nvO s.1 np s.2.2.1 s.2.2.2) = none ∨ c.2.2.1 (nvO s.1 np s.2.2.1 s.2.2.2) = none) : rndL W np nc c s = none := by
  unfold rndL; rw [if_pos h]
  rcases h2 with h2 | h2
  · rw [h2]
  · rw [h2]; cases c.2.1 (nvO s.1 np s.2.2.1 s.2.2.2) <;> rfl
theorem rndL_x {W : tW} {np nc : Nat} {c : tC} {s : tQ} {a b : Int64} {ob : tOl} (h : clHolds c (nvO s.1 np s.2.2.1 s.2.2.2) = true) (ha : c.2.1 (nvO s.1 np s.2.2.1 s.2.2.2) = some a) (hb : c.2.2.1 (nvO s.1 np s.2.2.1 s.2.2.2) = some b) (ho : obeyL W np nc s.1 s.2.1 c.1 a.toInt32 b.toInt32 = ob) : rndL W np nc c s = if ob.1 < 0 then none else some (ob.2.1, ob.2.2, s.2.2.1 + 1, paidO c.1 ob.1 s.2.2.2) := by
  unfold rndL; rw [if_pos h, ha, hb]; simp only; rw [ho]
def Ow (s : Nat) (I I2 : vI) : Prop := ∀ b, b ≠ s + 31 → b ≠ s + 32 → I2 b = I b
theorem c_X10_fillWords {d : Nat} {S : vS} {I : vI} {L : vL} {Q : vS → vI → vL → Prop} {s np nc : Nat} {K : Nat → Int32} (hw : WorksS S (s + 31) s (s + 28)) (hK : TR I (s + 1) K np nc) (hN : TN K np nc) (h : ∀ I2, Oa (s + 32) I I2 → (∀ x, x < 19 → I2 (s + 32) x = nvO K np (I (s + 31) 3) (I (s + 31) 4) x) → Q S I2 L) : Vc mX10_fillWords (d + 1) 0 0 [.ref (s + 31)] S I L (VvQ Q) := by
  refine Vc.of rfl (Nat.le_of_ble_eq_true rfl) ?_
  have B := bs_X10_fillWords
  show Vw mX10_fillWords (d + 1) 0 0 0 0 (VvQ Q) 0 [(0, .ref (s + 31))] [] S I L
  have h8 := hN.1
  have h10 := hN.2.1
  have hT := hw.p0.p0
  have loop : ∀ n, n ≤ 8 → ∀ J, Oa (s + 32) I J → (∀ x, x < 3 + n → J (s + 32) x = nvO K np (I (s + 31) 3) (I (s + 31) 4) x) → (∀ x, 11 ≤ x → x < 11 + n → J (s + 32) x = nvO K np (I (s + 31) 3) (I (s + 31) 4) x) → Vw mX10_fillWords (d + 1) 0 0 0 0 (VvQ Q) 40 [(0, .ref (s + 31)), (1, .ref (s + 1)), (2, .int (nI n))] [] S J L := by
    refine loop_up (fun n hn ih => ?_)
    intro J fJ e1 e2
    have kJ : TR J (s + 1) K np nc := hK.of (fun b g1 g2 => fJ b (by omega)) h8 h10
    have fin : n < 8 → ∀ v1 v2, v1 = nvO K np (I (s + 31) 3) (I (s + 31) 4) (3 + n) → v2 = nvO K np (I (s + 31) 3) (I (s + 31) 4) (11 + n) → Vw mX10_fillWords (d + 1) 0 0 0 0 (VvQ Q) 40 [(0, .ref (s + 31)), (1, .ref (s + 1)), (2, .int (nI (n + 1)))] [] S (up2 (up2 J (s + 32) (3 + n) v1) (s + 32) (11 + n) v2) L := by
      intro hn8 v1 v2 q1 q2
      refine ih hn8 _ (fJ.up.up) (fun x hx => ?_) (fun x hx1 hx2 => ?_)
      · by_cases z : x = 3 + n
        · rw [z, up2_k (by omega), up2_s]; exact q1
        · by_cases z2 : x = 11 + n
          · omega
          · rw [up2_k z2, up2_k z]; exact e1 x (by omega)
      · by_cases z2 : x = 11 + n
        · rw [z2, up2_s]; exact q2
        · by_cases z : x = 3 + n
          · omega
          · rw [up2_k z2, up2_k z]; exact e2 x hx1 (by omega)
    refine Vw.iload_n (de_iload_2 (B 40 _ rfl)) 2 rfl (n := 41) rfl ?_
    refine Vw.bipush (v := 8) (de_bipush (B 41 _ rfl) (B 42 _ rfl)) rfl (n := 43) rfl ?_
    refine Vw.icmp_ge (tgt := 109) (n := 46) (de_icmp_ge (B 43 _ rfl) (B 44 _ rfl) (B 45 _ rfl)) rfl rfl (fun c_43 => ?_) (fun c_43 => ?_)
    · have z_43 : 8 ≤ n := ((nI_leI (a := 8) (b := n) (by omega) (by omega)).mp c_43)
      obtain rfl : n = 8 := by omega
      exact Vw.vret (de_return_ (B 109 _ rfl)) rfl ⟨rfl, (h J fJ (fun x hx => by rcases Nat.lt_or_ge x 11 with z | z; exact e1 x (by omega); exact e2 x z (by omega)))⟩
    have z_43 : n < 8 := by rcases Nat.lt_or_ge n 8 with z | z; exact z; exact absurd ((nI_leI (a := 8) (b := n) (by omega) (by omega)).mpr z) c_43
    refine Vw.aload_n (de_aload_1 (B 46 _ rfl)) 1 rfl (n := 47) rfl ?_
    refine Vw.iload_n (de_iload_2 (B 47 _ rfl)) 2 rfl (n := 48) rfl ?_
    refine Vw.ivi1 (mi' := mX9_hasPerson) (de_invokevirtual (B 48 _ rfl) (B 49 _ rfl) (B 50 _ rfl)) ml_X10_29 mv_X9_hasPerson hT.k (Nat.le_of_ble_eq_true rfl) (n := 51) rfl (c_X9_hasPerson hT kJ.1 (by omega) ?_)
    refine Vw.istore_n (lv2 := [(0, _), (1, _), (2, _), (3, _)]) (de_istore_3 (B 51 _ rfl)) rfl (by decide) [1, 2, 3, 0] rfl (n := 52) rfl ?_
    refine Vw.aload_n (de_aload_0 (B 52 _ rfl)) 0 rfl (n := 53) rfl ?_
    refine Vw.getR (de_getfield (B 53 _ rfl) (B 54 _ rfl) (B 55 _ rfl)) fl_X10_9 rfl hw.k hw.f2 (n := 56) rfl ?_
    refine Vw.iconst (v := 3) (de_iconst_3 (B 56 _ rfl)) rfl (n := 57) rfl ?_
    refine Vw.iload_n (de_iload_2 (B 57 _ rfl)) 2 rfl (n := 58) rfl ?_
    refine Vw.iadd (de_iadd (B 58 _ rfl)) (n := 59) rfl ?_
    refine Vw.iload_n (de_iload_3 (B 59 _ rfl)) 3 rfl (n := 60) rfl ?_
    refine Vw.if_eq (tgt := 75) (n := 63) (de_if_eq (B 60 _ rfl) (B 61 _ rfl) (B 62 _ rfl)) rfl rfl (fun c_60 => ?_) (fun c_60 => ?_)
    · refine Vw.iconst (v := -1) (de_iconst_m1 (B 75 _ rfl)) rfl (n := 76) rfl ?_
      refine Vw.iast (de_iastore (B 76 _ rfl)) hw.r2 (vIx_n (k := 3 + n) (by simp only [nI_A, nI_M, Int32.zero_add, Int32.add_zero] <;> rfl) (by omega)) (n := 77) rfl ?_
      refine Vw.aload_n (de_aload_0 (B 77 _ rfl)) 0 rfl (n := 78) rfl ?_
      refine Vw.getR (de_getfield (B 78 _ rfl) (B 79 _ rfl) (B 80 _ rfl)) fl_X10_9 rfl hw.k hw.f2 (n := 81) rfl ?_
      refine Vw.bipush (v := 11) (de_bipush (B 81 _ rfl) (B 82 _ rfl)) rfl (n := 83) rfl ?_
      refine Vw.iload_n (de_iload_2 (B 83 _ rfl)) 2 rfl (n := 84) rfl ?_
      refine Vw.iadd (de_iadd (B 84 _ rfl)) (n := 85) rfl ?_
      refine Vw.iload_n (de_iload_3 (B 85 _ rfl)) 3 rfl (n := 86) rfl ?_
      refine Vw.if_eq (tgt := 101) (n := 89) (de_if_eq (B 86 _ rfl) (B 87 _ rfl) (B 88 _ rfl)) rfl rfl (fun c_86 => ?_) (fun c_86 => ?_)
      · refine Vw.iconst (v := -1) (de_iconst_m1 (B 101 _ rfl)) rfl (n := 102) rfl ?_
        refine Vw.iast (de_iastore (B 102 _ rfl)) hw.r2 (vIx_n (k := 11 + n) (by simp only [nI_A, nI_M, Int32.zero_add, Int32.add_zero] <;> rfl) (by omega)) (n := 103) rfl ?_
        refine Vw.iinc (v := nI (n + 1)) (lv2 := [(0, _), (1, _), (2, _), (3, _)]) (de_iinc (B 103 _ rfl) (B 104 _ rfl) (B 105 _ rfl)) 2 rfl (nI_1 n) (by decide) [1, 2, 0, 3] rfl (n := 106) rfl ?_
        refine Vw.goto_ (n := 40) (de_goto_ (B 106 _ rfl) (B 107 _ rfl) (B 108 _ rfl)) rfl ?_
        refine Vw.lvs (lv2 := [(0, _), (1, _), (2, _)]) [0, 1, 2] rfl ?_
        first
        | exact absurd c_60 c_86
        | exact absurd c_86 c_60
        | exact fin z_43 _ _ (by rw [nvO_3 z_43, if_neg ((lie_np (by omega) h8).mp c_60)]) (by rw [nvO_11, if_neg ((lie_np (by omega) h8).mp c_60)])
        | exact fin z_43 _ _ (by rw [nvO_3 z_43, if_pos (by rcases Nat.lt_or_ge n np with z | z; exact z; exact absurd ((lie_np (by omega) h8).mpr (by omega)) c_60)]) (by rw [nvO_11, if_pos (by rcases Nat.lt_or_ge n np with z | z; exact z; exact absurd ((lie_np (by omega) h8).mpr (by omega)) c_60)])
      refine Vw.aload_n (de_aload_1 (B 89 _ rfl)) 1 rfl (n := 90) rfl ?_
      refine Vw.getR (de_getfield (B 90 _ rfl) (B 91 _ rfl) (B 92 _ rfl)) fl_X10_35 rfl hT.k hT.f0 (n := 93) rfl ?_
      refine Vw.iload_n (de_iload_2 (B 93 _ rfl)) 2 rfl (n := 94) rfl ?_
      refine Vw.aald3 (b := 0) (de_aaload (B 94 _ rfl)) hT.r0 (vIx_n (k := n) rfl (by omega)) (hT.pr (show n < 8 by omega)) (n := 95) rfl ?_
      refine Vw.getI (de_getfield (B 95 _ rfl) (B 96 _ rfl) (B 97 _ rfl)) fl_X10_151 rfl (hT.pk (show n < 8 by omega)) (n := 98) rfl ?_
      rw [up2_a (show s + 1 + 5 + n ≠ s + 32 by omega), kJ.2.2.2.1 n 2 ((by rcases Nat.lt_or_ge n np with z | z; exact z; exact absurd ((lie_np (by omega) h8).mpr (by omega)) c_86)) (by decide)]
      refine Vw.goto_ (n := 102) (de_goto_ (B 98 _ rfl) (B 99 _ rfl) (B 100 _ rfl)) rfl ?_
      refine Vw.iast (de_iastore (B 102 _ rfl)) hw.r2 (vIx_n (k := 11 + n) (by simp only [nI_A, nI_M, Int32.zero_add, Int32.add_zero] <;> rfl) (by omega)) (n := 103) rfl ?_
      refine Vw.iinc (v := nI (n + 1)) (lv2 := [(0, _), (1, _), (2, _), (3, _)]) (de_iinc (B 103 _ rfl) (B 104 _ rfl) (B 105 _ rfl)) 2 rfl (nI_1 n) (by decide) [1, 2, 0, 3] rfl (n := 106) rfl ?_
      refine Vw.goto_ (n := 40) (de_goto_ (B 106 _ rfl) (B 107 _ rfl) (B 108 _ rfl)) rfl ?_
      refine Vw.lvs (lv2 := [(0, _), (1, _), (2, _)]) [0, 1, 2] rfl ?_
      first
      | exact absurd c_60 c_86
      | exact absurd c_86 c_60
      | exact fin z_43 _ _ (by rw [nvO_3 z_43, if_neg ((lie_np (by omega) h8).mp c_60)]) (by rw [nvO_11, if_neg ((lie_np (by omega) h8).mp c_60)])
      | exact fin z_43 _ _ (by rw [nvO_3 z_43, if_pos (by rcases Nat.lt_or_ge n np with z | z; exact z; exact absurd ((lie_np (by omega) h8).mpr (by omega)) c_60)]) (by rw [nvO_11, if_pos (by rcases Nat.lt_or_ge n np with z | z; exact z; exact absurd ((lie_np (by omega) h8).mpr (by omega)) c_60)])
    refine Vw.aload_n (de_aload_1 (B 63 _ rfl)) 1 rfl (n := 64) rfl ?_
    refine Vw.getR (de_getfield (B 64 _ rfl) (B 65 _ rfl) (B 66 _ rfl)) fl_X10_35 rfl hT.k hT.f0 (n := 67) rfl ?_
    refine Vw.iload_n (de_iload_2 (B 67 _ rfl)) 2 rfl (n := 68) rfl ?_
    refine Vw.aald3 (b := 0) (de_aaload (B 68 _ rfl)) hT.r0 (vIx_n (k := n) rfl (by omega)) (hT.pr (show n < 8 by omega)) (n := 69) rfl ?_
    refine Vw.getI (de_getfield (B 69 _ rfl) (B 70 _ rfl) (B 71 _ rfl)) fl_X10_150 rfl (hT.pk (show n < 8 by omega)) (n := 72) rfl ?_
    rw [kJ.2.2.2.1 n 1 ((by rcases Nat.lt_or_ge n np with z | z; exact z; exact absurd ((lie_np (by omega) h8).mpr (by omega)) c_60)) (by decide)]
    refine Vw.goto_ (n := 76) (de_goto_ (B 72 _ rfl) (B 73 _ rfl) (B 74 _ rfl)) rfl ?_
    refine Vw.iast (de_iastore (B 76 _ rfl)) hw.r2 (vIx_n (k := 3 + n) (by simp only [nI_A, nI_M, Int32.zero_add, Int32.add_zero] <;> rfl) (by omega)) (n := 77) rfl ?_
    refine Vw.aload_n (de_aload_0 (B 77 _ rfl)) 0 rfl (n := 78) rfl ?_
    refine Vw.getR (de_getfield (B 78 _ rfl) (B 79 _ rfl) (B 80 _ rfl)) fl_X10_9 rfl hw.k hw.f2 (n := 81) rfl ?_
    refine Vw.bipush (v := 11) (de_bipush (B 81 _ rfl) (B 82 _ rfl)) rfl (n := 83) rfl ?_
    refine Vw.iload_n (de_iload_2 (B 83 _ rfl)) 2 rfl (n := 84) rfl ?_
    refine Vw.iadd (de_iadd (B 84 _ rfl)) (n := 85) rfl ?_
    refine Vw.iload_n (de_iload_3 (B 85 _ rfl)) 3 rfl (n := 86) rfl ?_
    refine Vw.if_eq (tgt := 101) (n := 89) (de_if_eq (B 86 _ rfl) (B 87 _ rfl) (B 88 _ rfl)) rfl rfl (fun c_86 => ?_) (fun c_86 => ?_)
    · refine Vw.iconst (v := -1) (de_iconst_m1 (B 101 _ rfl)) rfl (n := 102) rfl ?_
      refine Vw.iast (de_iastore (B 102 _ rfl)) hw.r2 (vIx_n (k := 11 + n) (by simp only [nI_A, nI_M, Int32.zero_add, Int32.add_zero] <;> rfl) (by omega)) (n := 103) rfl ?_
      refine Vw.iinc (v := nI (n + 1)) (lv2 := [(0, _), (1, _), (2, _), (3, _)]) (de_iinc (B 103 _ rfl) (B 104 _ rfl) (B 105 _ rfl)) 2 rfl (nI_1 n) (by decide) [1, 2, 0, 3] rfl (n := 106) rfl ?_
      refine Vw.goto_ (n := 40) (de_goto_ (B 106 _ rfl) (B 107 _ rfl) (B 108 _ rfl)) rfl ?_
      refine Vw.lvs (lv2 := [(0, _), (1, _), (2, _)]) [0, 1, 2] rfl ?_
      first
      | exact absurd c_60 c_86
      | exact absurd c_86 c_60
      | exact fin z_43 _ _ (by rw [nvO_3 z_43, if_neg ((lie_np (by omega) h8).mp c_60)]) (by rw [nvO_11, if_neg ((lie_np (by omega) h8).mp c_60)])
      | exact fin z_43 _ _ (by rw [nvO_3 z_43, if_pos (by rcases Nat.lt_or_ge n np with z | z; exact z; exact absurd ((lie_np (by omega) h8).mpr (by omega)) c_60)]) (by rw [nvO_11, if_pos (by rcases Nat.lt_or_ge n np with z | z; exact z; exact absurd ((lie_np (by omega) h8).mpr (by omega)) c_60)])
    refine Vw.aload_n (de_aload_1 (B 89 _ rfl)) 1 rfl (n := 90) rfl ?_
    refine Vw.getR (de_getfield (B 90 _ rfl) (B 91 _ rfl) (B 92 _ rfl)) fl_X10_35 rfl hT.k hT.f0 (n := 93) rfl ?_
    refine Vw.iload_n (de_iload_2 (B 93 _ rfl)) 2 rfl (n := 94) rfl ?_
    refine Vw.aald3 (b := 0) (de_aaload (B 94 _ rfl)) hT.r0 (vIx_n (k := n) rfl (by omega)) (hT.pr (show n < 8 by omega)) (n := 95) rfl ?_
    refine Vw.getI (de_getfield (B 95 _ rfl) (B 96 _ rfl) (B 97 _ rfl)) fl_X10_151 rfl (hT.pk (show n < 8 by omega)) (n := 98) rfl ?_
    rw [up2_a (show s + 1 + 5 + n ≠ s + 32 by omega), kJ.2.2.2.1 n 2 ((by rcases Nat.lt_or_ge n np with z | z; exact z; exact absurd ((lie_np (by omega) h8).mpr (by omega)) c_86)) (by decide)]
    refine Vw.goto_ (n := 102) (de_goto_ (B 98 _ rfl) (B 99 _ rfl) (B 100 _ rfl)) rfl ?_
    refine Vw.iast (de_iastore (B 102 _ rfl)) hw.r2 (vIx_n (k := 11 + n) (by simp only [nI_A, nI_M, Int32.zero_add, Int32.add_zero] <;> rfl) (by omega)) (n := 103) rfl ?_
    refine Vw.iinc (v := nI (n + 1)) (lv2 := [(0, _), (1, _), (2, _), (3, _)]) (de_iinc (B 103 _ rfl) (B 104 _ rfl) (B 105 _ rfl)) 2 rfl (nI_1 n) (by decide) [1, 2, 0, 3] rfl (n := 106) rfl ?_
    refine Vw.goto_ (n := 40) (de_goto_ (B 106 _ rfl) (B 107 _ rfl) (B 108 _ rfl)) rfl ?_
    refine Vw.lvs (lv2 := [(0, _), (1, _), (2, _)]) [0, 1, 2] rfl ?_
    first
    | exact absurd c_60 c_86
    | exact absurd c_86 c_60
    | exact fin z_43 _ _ (by rw [nvO_3 z_43, if_neg ((lie_np (by omega) h8).mp c_60)]) (by rw [nvO_11, if_neg ((lie_np (by omega) h8).mp c_60)])
    | exact fin z_43 _ _ (by rw [nvO_3 z_43, if_pos (by rcases Nat.lt_or_ge n np with z | z; exact z; exact absurd ((lie_np (by omega) h8).mpr (by omega)) c_60)]) (by rw [nvO_11, if_pos (by rcases Nat.lt_or_ge n np with z | z; exact z; exact absurd ((lie_np (by omega) h8).mpr (by omega)) c_60)])
  refine Vw.aload_n (de_aload_0 (B 0 _ rfl)) 0 rfl (n := 1) rfl ?_
  refine Vw.getR (de_getfield (B 1 _ rfl) (B 2 _ rfl) (B 3 _ rfl)) fl_X10_15 rfl hw.k hw.f0 (n := 4) rfl ?_
  refine Vw.getR (de_getfield (B 4 _ rfl) (B 5 _ rfl) (B 6 _ rfl)) fl_X10_23 rfl hw.p0.k hw.p0.f0 (n := 7) rfl ?_
  refine Vw.astore_n (lv2 := [(0, _), (1, _)]) (de_astore_1 (B 7 _ rfl)) rfl (by decide) [1, 0] rfl (n := 8) rfl ?_
  refine Vw.aload_n (de_aload_0 (B 8 _ rfl)) 0 rfl (n := 9) rfl ?_
  refine Vw.getR (de_getfield (B 9 _ rfl) (B 10 _ rfl) (B 11 _ rfl)) fl_X10_9 rfl hw.k hw.f2 (n := 12) rfl ?_
  refine Vw.iconst (v := 0) (de_iconst_0 (B 12 _ rfl)) rfl (n := 13) rfl ?_
  refine Vw.aload_n (de_aload_1 (B 13 _ rfl)) 1 rfl (n := 14) rfl ?_
  refine Vw.getI (de_getfield (B 14 _ rfl) (B 15 _ rfl) (B 16 _ rfl)) fl_X10_55 rfl hw.p0.p0.k (n := 17) rfl ?_
  rw [hK.2.2.1]
  refine Vw.iast (de_iastore (B 17 _ rfl)) hw.r2 (j := 0) ⟨rfl, by decide, by decide⟩ (n := 18) rfl ?_
  refine Vw.aload_n (de_aload_0 (B 18 _ rfl)) 0 rfl (n := 19) rfl ?_
  refine Vw.getR (de_getfield (B 19 _ rfl) (B 20 _ rfl) (B 21 _ rfl)) fl_X10_9 rfl hw.k hw.f2 (n := 22) rfl ?_
  refine Vw.iconst (v := 1) (de_iconst_1 (B 22 _ rfl)) rfl (n := 23) rfl ?_
  refine Vw.aload_n (de_aload_0 (B 23 _ rfl)) 0 rfl (n := 24) rfl ?_
  refine Vw.getI (de_getfield (B 24 _ rfl) (B 25 _ rfl) (B 26 _ rfl)) fl_X10_119 rfl hw.k (n := 27) rfl ?_
  rw [up2_a (show s + 31 ≠ s + 32 by omega)]
  refine Vw.iast (de_iastore (B 27 _ rfl)) hw.r2 (j := 1) ⟨rfl, by decide, by decide⟩ (n := 28) rfl ?_
  refine Vw.aload_n (de_aload_0 (B 28 _ rfl)) 0 rfl (n := 29) rfl ?_
  refine Vw.getR (de_getfield (B 29 _ rfl) (B 30 _ rfl) (B 31 _ rfl)) fl_X10_9 rfl hw.k hw.f2 (n := 32) rfl ?_
  refine Vw.iconst (v := 2) (de_iconst_2 (B 32 _ rfl)) rfl (n := 33) rfl ?_
  refine Vw.aload_n (de_aload_0 (B 33 _ rfl)) 0 rfl (n := 34) rfl ?_
  refine Vw.getI (de_getfield (B 34 _ rfl) (B 35 _ rfl) (B 36 _ rfl)) fl_X10_122 rfl hw.k (n := 37) rfl ?_
  rw [up2_a (show s + 31 ≠ s + 32 by omega), up2_a (show s + 31 ≠ s + 32 by omega)]
  refine Vw.iast (de_iastore (B 37 _ rfl)) hw.r2 (j := 2) ⟨rfl, by decide, by decide⟩ (n := 38) rfl ?_
  refine Vw.iconst (v := 0) (de_iconst_0 (B 38 _ rfl)) rfl (n := 39) rfl ?_
  refine Vw.istore_n (lv2 := [(0, _), (1, _), (2, _)]) (de_istore_2 (B 39 _ rfl)) rfl (by decide) [1, 2, 0] rfl (n := 40) rfl ?_
  refine loop 0 (Nat.zero_le _) _ (Oa.rfl.up.up.up) (fun x hx => ?_) (fun x hx1 hx2 => absurd hx2 (by omega))
  rcases (show x = 0 ∨ x = 1 ∨ x = 2 by omega) with rfl | rfl | rfl <;> simp (disch := omega) only [up2_k, up2_s] <;> rfl
theorem c_X10_isSo {d : Nat} {S : vS} {I : vI} {L : vL} {Q : Int32 → vS → vI → vL → Prop} {s a i m : Nat} {c : tC} {cw : Nat → Nat × Nat} {nv : Nat → Int32} (hw : WorksS S (s + 31) s (s + 28)) (hA : ScS S a 12 400) (hcl : ClR I a i c cw 19 m 16 tD0) (hm : m ≤ 400) (hi : i < 12) (hcw : CWk (I (a + 7)) cw m) (hN : ∀ x, x < 19 → I (s + 32) x = nv x) (h : ∀ M, Lev (s + 28) L M → Q (bI (clHolds c nv)) S I M) : Vc mX10_isSo (d + 1) 0 0 [.ref (s + 31), .ref a, .int (nI i)] S I L (ViQ Q) := by
  refine Vc.of rfl (Nat.le_of_ble_eq_true rfl) ?_
  have B := bs_X10_isSo
  show Vw mX10_isSo (d + 1) 0 0 0 0 (ViQ Q) 0 [(0, .ref (s + 31)), (1, .ref a), (2, .int (nI i))] [] S I L
  have hR := hw.p1
  obtain ⟨st, fe, se, te, q1, q2, q3, q4, b1, b2, b3, b4, q5, p1, p2, p3⟩ := hcl
  refine Vw.aload_n (de_aload_1 (B 0 _ rfl)) 1 rfl (n := 1) rfl ?_
  refine Vw.iload_n (de_iload_2 (B 1 _ rfl)) 2 rfl (n := 2) rfl ?_
  refine Vw.ivi1 (mi' := mX7_hasTest) (de_invokevirtual (B 2 _ rfl) (B 3 _ rfl) (B 4 _ rfl)) ml_X10_152 mv_X7_hasTest hA.k (Nat.le_of_ble_eq_true rfl) (n := 5) rfl (c_X7_hasTest hA hi (by decide) q4 q3 (by omega) (by omega) (fun g => ?_) (fun g => ?_))
  · obtain ⟨_, ts, D, ets, hD, hCp⟩ := p3.resolve_left (fun z => by omega)
    have eE := hCp.eval hD (by omega) nv
    refine Vw.if_ne (tgt := 10) (n := 8) (de_if_ne (B 5 _ rfl) (B 6 _ rfl) (B 7 _ rfl)) rfl rfl (fun c_5 => ?_) (fun c_5 => ?_)
    · refine Vw.aload_n (de_aload_1 (B 10 _ rfl)) 1 rfl (n := 11) rfl ?_
      refine Vw.getR (de_getfield (B 11 _ rfl) (B 12 _ rfl) (B 13 _ rfl)) fl_X10_155 rfl hA.k hA.f5 (n := 14) rfl ?_
      refine Vw.iload_n (de_iload_2 (B 14 _ rfl)) 2 rfl (n := 15) rfl ?_
      refine Vw.iald (de_iaload (B 15 _ rfl)) hA.r5 (vIx_n (k := i) rfl hi) (n := 16) rfl ?_
      rw [q3]
      refine Vw.istore_n (lv2 := [(0, _), (1, _), (2, _), (3, _)]) (de_istore_3 (B 16 _ rfl)) rfl (by decide) [1, 2, 3, 0] rfl (n := 17) rfl ?_
      refine Vw.aload_n (de_aload_0 (B 17 _ rfl)) 0 rfl (n := 18) rfl ?_
      refine Vw.getR (de_getfield (B 18 _ rfl) (B 19 _ rfl) (B 20 _ rfl)) fl_X10_19 rfl hw.k hw.f1 (n := 21) rfl ?_
      refine Vw.aload_n (de_aload_1 (B 21 _ rfl)) 1 rfl (n := 22) rfl ?_
      refine Vw.getR (de_getfield (B 22 _ rfl) (B 23 _ rfl) (B 24 _ rfl)) fl_X10_158 rfl hA.k hA.f7 (n := 25) rfl ?_
      refine Vw.iload_n (de_iload_3 (B 25 _ rfl)) 3 rfl (n := 26) rfl ?_
      refine Vw.aload_n (de_aload_1 (B 26 _ rfl)) 1 rfl (n := 27) rfl ?_
      refine Vw.getR (de_getfield (B 27 _ rfl) (B 28 _ rfl) (B 29 _ rfl)) fl_X10_161 rfl hA.k hA.f6 (n := 30) rfl ?_
      refine Vw.iload_n (de_iload_2 (B 30 _ rfl)) 2 rfl (n := 31) rfl ?_
      refine Vw.iald (de_iaload (B 31 _ rfl)) hA.r6 (vIx_n (k := i) rfl hi) (n := 32) rfl ?_
      rw [q4]
      refine Vw.aload_n (de_aload_0 (B 32 _ rfl)) 0 rfl (n := 33) rfl ?_
      refine Vw.getR (de_getfield (B 33 _ rfl) (B 34 _ rfl) (B 35 _ rfl)) fl_X10_9 rfl hw.k hw.f2 (n := 36) rfl ?_
      refine Vw.ivi4 (mi' := mX6_evaluate) (de_invokevirtual (B 36 _ rfl) (B 37 _ rfl) (B 38 _ rfl)) ml_X10_164 mv_X6_evaluate hw.p1.k (Nat.le_of_ble_eq_true rfl) (n := 39) rfl (c_X6_evaluate (cw := cw) (nv := nv) hR.k hR.f2 hR.r2 hA.r7 hw.r2 (by decide) (by omega) (by omega) (by decide) (fun i hi => hcw i (by omega)) hN (fun sv M2 f2 e4 e5 => ?_) (fun M2 f2 e4 => ?_))
      · rw [eE] at e4
        refine Vw.if_eq (tgt := 58) (n := 42) (de_if_eq (B 39 _ rfl) (B 40 _ rfl) (B 41 _ rfl)) rfl rfl (fun c_39 => ?_) (fun c_39 => ?_)
        · exact absurd c_39 (by decide)
        refine Vw.aload_n (de_aload_0 (B 42 _ rfl)) 0 rfl (n := 43) rfl ?_
        refine Vw.getR (de_getfield (B 43 _ rfl) (B 44 _ rfl) (B 45 _ rfl)) fl_X10_19 rfl hw.k hw.f1 (n := 46) rfl ?_
        refine Vw.getL (de_getfield (B 46 _ rfl) (B 47 _ rfl) (B 48 _ rfl)) fl_X10_168 rfl hw.p1.k (n := 49) rfl ?_
        rw [e5]
        refine Vw.lconst (v := 0) (de_lconst_0 (B 49 _ rfl)) rfl (n := 50) rfl ?_
        refine Vw.lcmp (de_lcmp (B 50 _ rfl)) (n := 51) rfl ?_
        refine Vw.if_eq (tgt := 58) (n := 54) (de_if_eq (B 51 _ rfl) (B 52 _ rfl) (B 53 _ rfl)) rfl rfl (fun c_51 => ?_) (fun c_51 => ?_)
        · refine Vw.iconst (v := 0) (de_iconst_0 (B 58 _ rfl)) rfl (n := 59) rfl ?_
          exact Vw.zret (de_ireturn (B 59 _ rfl)) rfl rfl ⟨_, rfl, (by
    have e := h M2 f2
    first
    | (rw [show clHolds c nv = true from by unfold clHolds; rw [ets]; simp only; rw [e4]; simp only; exact decide_eq_true (fun z => c_51 ((lg_cmp_eq _ _).mpr z))] at e; exact e)
    | (rw [show clHolds c nv = false from by unfold clHolds; rw [ets]; simp only; rw [e4]; simp only; exact decide_eq_false (fun z => z ((lg_cmp_eq _ _).mp c_51))] at e; exact e))⟩
        refine Vw.iconst (v := 1) (de_iconst_1 (B 54 _ rfl)) rfl (n := 55) rfl ?_
        refine Vw.goto_ (n := 59) (de_goto_ (B 55 _ rfl) (B 56 _ rfl) (B 57 _ rfl)) rfl ?_
        exact Vw.zret (de_ireturn (B 59 _ rfl)) rfl rfl ⟨_, rfl, (by
    have e := h M2 f2
    first
    | (rw [show clHolds c nv = true from by unfold clHolds; rw [ets]; simp only; rw [e4]; simp only; exact decide_eq_true (fun z => c_51 ((lg_cmp_eq _ _).mpr z))] at e; exact e)
    | (rw [show clHolds c nv = false from by unfold clHolds; rw [ets]; simp only; rw [e4]; simp only; exact decide_eq_false (fun z => z ((lg_cmp_eq _ _).mp c_51))] at e; exact e))⟩
      · rw [eE] at e4
        refine Vw.if_eq (tgt := 58) (n := 42) (de_if_eq (B 39 _ rfl) (B 40 _ rfl) (B 41 _ rfl)) rfl rfl (fun c_39 => ?_) (fun c_39 => ?_)
        · refine Vw.iconst (v := 0) (de_iconst_0 (B 58 _ rfl)) rfl (n := 59) rfl ?_
          exact Vw.zret (de_ireturn (B 59 _ rfl)) rfl rfl ⟨_, rfl, (by have e := h M2 f2; rw [show clHolds c nv = false from by unfold clHolds; rw [ets]; simp only; rw [e4]] at e; exact e)⟩
        exact absurd c_39 (by decide)
    exact absurd c_5 (by decide)
  · obtain ⟨_, en⟩ := p3.resolve_right (fun z => by omega)
    refine Vw.if_ne (tgt := 10) (n := 8) (de_if_ne (B 5 _ rfl) (B 6 _ rfl) (B 7 _ rfl)) rfl rfl (fun c_5 => ?_) (fun c_5 => ?_)
    · exact absurd c_5 (by decide)
    refine Vw.iconst (v := 1) (de_iconst_1 (B 8 _ rfl)) rfl (n := 9) rfl ?_
    exact Vw.zret (de_ireturn (B 9 _ rfl)) rfl rfl ⟨_, rfl, (by have e := h L Lev.rfl; rw [show clHolds c nv = true from by unfold clHolds; rw [en]] at e; exact e)⟩
def SmO (I2 : vI) (s : Nat) (c : tC) (va vb : Int64) : Prop := (¬ c.1 = 16 → I2 (s + 31) 5 = va.toInt32) ∧ (c.1 = 21 ∨ c.1 = 23 → I2 (s + 31) 6 = vb.toInt32)
theorem c_X10_findSums {d : Nat} {S : vS} {I : vI} {L : vL} {Q : Int32 → vS → vI → vL → Prop} {s a i m : Nat} {c : tC} {cw : Nat → Nat × Nat} {nv : Nat → Int32} (hw : WorksS S (s + 31) s (s + 28)) (hA : ScS S a 12 400) (hcl : ClR I a i c cw 19 m 16 tD0) (hm : m ≤ 400) (hi : i < 12) (hcw : CWk (I (a + 7)) cw m) (hN : ∀ x, x < 19 → I (s + 32) x = nv x) (ha : s + 33 ≤ a) (h0 : ∀ I2 M, Oa (s + 31) I I2 → (∀ k, k ≠ 5 → k ≠ 6 → I2 (s + 31) k = I (s + 31) k) → Lev (s + 28) L M → c.2.1 nv = none ∨ c.2.2.1 nv = none → Q 0 S I2 M) (h : ∀ I2 M, Oa (s + 31) I I2 → (∀ k, k ≠ 5 → k ≠ 6 → I2 (s + 31) k = I (s + 31) k) → Lev (s + 28) L M → ∀ va vb, c.2.1 nv = some va → c.2.2.1 nv = some vb → SmO I2 s c va vb → Q 1 S I2 M) : Vc mX10_findSums (d + 1) 0 0 [.ref (s + 31), .ref a, .int (nI i)] S I L (ViQ Q) := by
  refine Vc.of rfl (Nat.le_of_ble_eq_true rfl) ?_
  have B := bs_X10_findSums
  show Vw mX10_findSums (d + 1) 0 0 0 0 (ViQ Q) 0 [(0, .ref (s + 31)), (1, .ref a), (2, .int (nI i))] [] S I L
  have hR := hw.p1
  obtain ⟨st, fe, se, te, q1, q2, q3, q4, b1, b2, b3, b4, q5, p1, p2, p3⟩ := hcl
  have snd : ∀ (J : vI) (M : vL) va, Oa (s + 31) I J → (∀ k, k ≠ 5 → k ≠ 6 → J (s + 31) k = I (s + 31) k) → Lev (s + 28) L M → c.2.1 nv = some va → (¬ c.1 = 16 → J (s + 31) 5 = va.toInt32) → Vw mX10_findSums (d + 1) 0 0 0 0 (ViQ Q) 54 [(0, .ref (s + 31)), (1, .ref a), (2, .int (nI i)), (3, .int (nI fe))] [] S J M := by
    intro J M va fJ eJ fM eva e5
    have q2J : J (a + 4) i = nI fe := by rw [fJ _ (by omega)]; exact q2
    have q3J : J (a + 5) i = nI se := by rw [fJ _ (by omega)]; exact q3
    refine Vw.aload_n (de_aload_1 (B 54 _ rfl)) 1 rfl (n := 55) rfl ?_
    refine Vw.iload_n (de_iload_2 (B 55 _ rfl)) 2 rfl (n := 56) rfl ?_
    refine Vw.ivi1 (mi' := mX7_hasSecond) (de_invokevirtual (B 56 _ rfl) (B 57 _ rfl) (B 58 _ rfl)) ml_X10_184 mv_X7_hasSecond hA.k (Nat.le_of_ble_eq_true rfl) (n := 59) rfl (c_X7_hasSecond hA hi (by decide) q3J q2J (by omega) (by omega) (fun g => ?_) (fun g => ?_))
    · obtain ⟨_, D, hD, hCp⟩ := p2.resolve_right (fun z => by omega)
      have eE := hCp.eval hD (by omega) nv
      refine Vw.if_eq (tgt := 101) (n := 62) (de_if_eq (B 59 _ rfl) (B 60 _ rfl) (B 61 _ rfl)) rfl rfl (fun c_59 => ?_) (fun c_59 => ?_)
      · exact absurd c_59 (by decide)
      refine Vw.aload_n (de_aload_0 (B 62 _ rfl)) 0 rfl (n := 63) rfl ?_
      refine Vw.getR (de_getfield (B 63 _ rfl) (B 64 _ rfl) (B 65 _ rfl)) fl_X10_19 rfl hw.k hw.f1 (n := 66) rfl ?_
      refine Vw.aload_n (de_aload_1 (B 66 _ rfl)) 1 rfl (n := 67) rfl ?_
      refine Vw.getR (de_getfield (B 67 _ rfl) (B 68 _ rfl) (B 69 _ rfl)) fl_X10_158 rfl hA.k hA.f7 (n := 70) rfl ?_
      refine Vw.iload_n (de_iload_3 (B 70 _ rfl)) 3 rfl (n := 71) rfl ?_
      refine Vw.aload_n (de_aload_1 (B 71 _ rfl)) 1 rfl (n := 72) rfl ?_
      refine Vw.getR (de_getfield (B 72 _ rfl) (B 73 _ rfl) (B 74 _ rfl)) fl_X10_155 rfl hA.k hA.f5 (n := 75) rfl ?_
      refine Vw.iload_n (de_iload_2 (B 75 _ rfl)) 2 rfl (n := 76) rfl ?_
      refine Vw.iald (de_iaload (B 76 _ rfl)) hA.r5 (vIx_n (k := i) rfl hi) (n := 77) rfl ?_
      rw [q3J]
      refine Vw.aload_n (de_aload_0 (B 77 _ rfl)) 0 rfl (n := 78) rfl ?_
      refine Vw.getR (de_getfield (B 78 _ rfl) (B 79 _ rfl) (B 80 _ rfl)) fl_X10_9 rfl hw.k hw.f2 (n := 81) rfl ?_
      refine Vw.ivi4 (mi' := mX6_evaluate) (de_invokevirtual (B 81 _ rfl) (B 82 _ rfl) (B 83 _ rfl)) ml_X10_164 mv_X6_evaluate hw.p1.k (Nat.le_of_ble_eq_true rfl) (n := 84) rfl (c_X6_evaluate (cw := cw) (nv := nv) hR.k hR.f2 hR.r2 hA.r7 hw.r2 (by decide) (by omega) (by omega) (by decide) (fun i hi => by rw [fJ _ (by omega)]; exact hcw i (by omega)) (fun x hx => by rw [fJ _ (by omega)]; exact hN x hx) (fun sv M2 f2 e4 e6 => ?_) (fun M2 f2 e4 => ?_))
      · rw [eE] at e4
        refine Vw.if_ne (tgt := 89) (n := 87) (de_if_ne (B 84 _ rfl) (B 85 _ rfl) (B 86 _ rfl)) rfl rfl (fun c_84 => ?_) (fun c_84 => ?_)
        · refine Vw.aload_n (de_aload_0 (B 89 _ rfl)) 0 rfl (n := 90) rfl ?_
          refine Vw.aload_n (de_aload_0 (B 90 _ rfl)) 0 rfl (n := 91) rfl ?_
          refine Vw.getR (de_getfield (B 91 _ rfl) (B 92 _ rfl) (B 93 _ rfl)) fl_X10_19 rfl hw.k hw.f1 (n := 94) rfl ?_
          refine Vw.getL (de_getfield (B 94 _ rfl) (B 95 _ rfl) (B 96 _ rfl)) fl_X10_168 rfl hw.p1.k (n := 97) rfl ?_
          rw [e6]
          refine Vw.l2i (de_l2i (B 97 _ rfl)) (n := 98) rfl ?_
          refine Vw.putI (de_putfield (B 98 _ rfl) (B 99 _ rfl) (B 100 _ rfl)) fl_X10_187 hw.k rfl rfl (n := 101) rfl ?_
          refine Vw.iconst (v := 1) (de_iconst_1 (B 101 _ rfl)) rfl (n := 102) rfl ?_
          exact Vw.zret (de_ireturn (B 102 _ rfl)) rfl rfl ⟨_, rfl, (h _ M2 fJ.up (fun k z5 z6 => by rw [up2_k z6]; exact eJ k z5 z6) (fM.trans f2) va sv eva e4 ⟨fun z => by rw [up2_k (by decide)]; exact e5 z, fun _ => up2_s _ _ _ _⟩)⟩
        exact absurd c_84 (by decide)
      · rw [eE] at e4
        refine Vw.if_ne (tgt := 89) (n := 87) (de_if_ne (B 84 _ rfl) (B 85 _ rfl) (B 86 _ rfl)) rfl rfl (fun c_84 => ?_) (fun c_84 => ?_)
        · exact absurd c_84 (by decide)
        refine Vw.iconst (v := 0) (de_iconst_0 (B 87 _ rfl)) rfl (n := 88) rfl ?_
        exact Vw.zret (de_ireturn (B 88 _ rfl)) rfl rfl ⟨_, rfl, (h0 J M2 fJ eJ (fM.trans f2) (Or.inr e4))⟩
    · obtain ⟨_, ed0, n21, n23⟩ := p2.resolve_left (fun z => by omega)
      refine Vw.if_eq (tgt := 101) (n := 62) (de_if_eq (B 59 _ rfl) (B 60 _ rfl) (B 61 _ rfl)) rfl rfl (fun c_59 => ?_) (fun c_59 => ?_)
      · refine Vw.iconst (v := 1) (de_iconst_1 (B 101 _ rfl)) rfl (n := 102) rfl ?_
        exact Vw.zret (de_ireturn (B 102 _ rfl)) rfl rfl ⟨_, rfl, (h J M fJ eJ fM va 0 eva (by rw [ed0]; rfl) ⟨e5, fun z => (z.elim n21 n23).elim⟩)⟩
      exact absurd c_59 (by decide)
  refine Vw.aload_n (de_aload_1 (B 0 _ rfl)) 1 rfl (n := 1) rfl ?_
  refine Vw.getR (de_getfield (B 1 _ rfl) (B 2 _ rfl) (B 3 _ rfl)) fl_X10_172 rfl hA.k hA.f4 (n := 4) rfl ?_
  refine Vw.iload_n (de_iload_2 (B 4 _ rfl)) 2 rfl (n := 5) rfl ?_
  refine Vw.iald (de_iaload (B 5 _ rfl)) hA.r4 (vIx_n (k := i) rfl hi) (n := 6) rfl ?_
  rw [q2]
  refine Vw.istore_n (lv2 := [(0, _), (1, _), (2, _), (3, _)]) (de_istore_3 (B 6 _ rfl)) rfl (by decide) [1, 2, 3, 0] rfl (n := 7) rfl ?_
  refine Vw.aload_n (de_aload_1 (B 7 _ rfl)) 1 rfl (n := 8) rfl ?_
  refine Vw.iload_n (de_iload_2 (B 8 _ rfl)) 2 rfl (n := 9) rfl ?_
  refine Vw.ivi1 (mi' := mX7_hasFirst) (de_invokevirtual (B 9 _ rfl) (B 10 _ rfl) (B 11 _ rfl)) ml_X10_175 mv_X7_hasFirst hA.k (Nat.le_of_ble_eq_true rfl) (n := 12) rfl (c_X7_hasFirst hA hi (by decide) q2 q1 (by omega) (by omega) (fun g => ?_) (fun g => ?_))
  · obtain ⟨_, n16, D, hD, hCp⟩ := p1.resolve_right (fun z => by omega)
    have eE := hCp.eval hD (by omega) nv
    refine Vw.if_eq (tgt := 54) (n := 15) (de_if_eq (B 12 _ rfl) (B 13 _ rfl) (B 14 _ rfl)) rfl rfl (fun c_12 => ?_) (fun c_12 => ?_)
    · exact absurd c_12 (by decide)
    refine Vw.aload_n (de_aload_0 (B 15 _ rfl)) 0 rfl (n := 16) rfl ?_
    refine Vw.getR (de_getfield (B 16 _ rfl) (B 17 _ rfl) (B 18 _ rfl)) fl_X10_19 rfl hw.k hw.f1 (n := 19) rfl ?_
    refine Vw.aload_n (de_aload_1 (B 19 _ rfl)) 1 rfl (n := 20) rfl ?_
    refine Vw.getR (de_getfield (B 20 _ rfl) (B 21 _ rfl) (B 22 _ rfl)) fl_X10_158 rfl hA.k hA.f7 (n := 23) rfl ?_
    refine Vw.aload_n (de_aload_1 (B 23 _ rfl)) 1 rfl (n := 24) rfl ?_
    refine Vw.getR (de_getfield (B 24 _ rfl) (B 25 _ rfl) (B 26 _ rfl)) fl_X10_178 rfl hA.k hA.f3 (n := 27) rfl ?_
    refine Vw.iload_n (de_iload_2 (B 27 _ rfl)) 2 rfl (n := 28) rfl ?_
    refine Vw.iald (de_iaload (B 28 _ rfl)) hA.r3 (vIx_n (k := i) rfl hi) (n := 29) rfl ?_
    rw [q1]
    refine Vw.iload_n (de_iload_3 (B 29 _ rfl)) 3 rfl (n := 30) rfl ?_
    refine Vw.aload_n (de_aload_0 (B 30 _ rfl)) 0 rfl (n := 31) rfl ?_
    refine Vw.getR (de_getfield (B 31 _ rfl) (B 32 _ rfl) (B 33 _ rfl)) fl_X10_9 rfl hw.k hw.f2 (n := 34) rfl ?_
    refine Vw.ivi4 (mi' := mX6_evaluate) (de_invokevirtual (B 34 _ rfl) (B 35 _ rfl) (B 36 _ rfl)) ml_X10_164 mv_X6_evaluate hw.p1.k (Nat.le_of_ble_eq_true rfl) (n := 37) rfl (c_X6_evaluate (cw := cw) (nv := nv) hR.k hR.f2 hR.r2 hA.r7 hw.r2 (by decide) (by omega) (by omega) (by decide) (fun i hi => hcw i (by omega)) hN (fun sv M2 f2 e4 e5 => ?_) (fun M2 f2 e4 => ?_))
    · rw [eE] at e4
      refine Vw.if_ne (tgt := 42) (n := 40) (de_if_ne (B 37 _ rfl) (B 38 _ rfl) (B 39 _ rfl)) rfl rfl (fun c_37 => ?_) (fun c_37 => ?_)
      · refine Vw.aload_n (de_aload_0 (B 42 _ rfl)) 0 rfl (n := 43) rfl ?_
        refine Vw.aload_n (de_aload_0 (B 43 _ rfl)) 0 rfl (n := 44) rfl ?_
        refine Vw.getR (de_getfield (B 44 _ rfl) (B 45 _ rfl) (B 46 _ rfl)) fl_X10_19 rfl hw.k hw.f1 (n := 47) rfl ?_
        refine Vw.getL (de_getfield (B 47 _ rfl) (B 48 _ rfl) (B 49 _ rfl)) fl_X10_168 rfl hw.p1.k (n := 50) rfl ?_
        rw [e5]
        refine Vw.l2i (de_l2i (B 50 _ rfl)) (n := 51) rfl ?_
        refine Vw.putI (de_putfield (B 51 _ rfl) (B 52 _ rfl) (B 53 _ rfl)) fl_X10_181 hw.k rfl rfl (n := 54) rfl ?_
        exact snd _ M2 sv Oa.rfl.up (fun k z5 z6 => up2_k z5) f2 e4 (fun _ => up2_s _ _ _ _)
      exact absurd c_37 (by decide)
    · rw [eE] at e4
      refine Vw.if_ne (tgt := 42) (n := 40) (de_if_ne (B 37 _ rfl) (B 38 _ rfl) (B 39 _ rfl)) rfl rfl (fun c_37 => ?_) (fun c_37 => ?_)
      · exact absurd c_37 (by decide)
      refine Vw.iconst (v := 0) (de_iconst_0 (B 40 _ rfl)) rfl (n := 41) rfl ?_
      exact Vw.zret (de_ireturn (B 41 _ rfl)) rfl rfl ⟨_, rfl, (h0 I M2 Oa.rfl (fun _ _ _ => rfl) f2 (Or.inl e4))⟩
  · obtain ⟨_, n16, hdN⟩ := p1.resolve_left (fun z => by omega)
    refine Vw.if_eq (tgt := 54) (n := 15) (de_if_eq (B 12 _ rfl) (B 13 _ rfl) (B 14 _ rfl)) rfl rfl (fun c_12 => ?_) (fun c_12 => ?_)
    · exact snd I L 0 Oa.rfl (fun _ _ _ => rfl) Lev.rfl (by rw [hdN]; rfl) (fun z => absurd n16 z)
    exact absurd c_12 (by decide)
