/-! The cutter: planDressing -/
theorem zMax_cm (a b : Int32) : zMax a b = zMax b a := by
  unfold zMax
  by_cases h1 : a ≤ b
  · by_cases h2 : b ≤ a
    · rw [if_pos h1, if_pos h2]; exact i32_eq (by have := i32_le.mp h1; have := i32_le.mp h2; omega)
    · rw [if_pos h1, if_neg h2]
  · rw [if_neg h1, if_pos (i32_le.mpr (by have : ¬ a.toInt ≤ b.toInt := fun z => h1 (i32_le.mpr z); omega))]
theorem nxtF_is {c l : Nat → Int32} {v : Int32} {T : Nat} : ∀ {f t : Nat}, t ≤ T → T ≤ t + f → (∀ x, t ≤ x → x < T → ¬ c x + l x = v) → (T < t + f → c T + l T = v) → nxtF c l v f t = T
  | 0, t, h1, h2, _, _ => by rw [nxtF]; omega
  | f + 1, t, h1, h2, h3, h4 => by
    rw [nxtF]
    rcases (show t = T ∨ t < T by omega) with rfl | z
    · rw [if_pos (h4 (by omega))]
    · rw [if_neg (h3 t (Nat.le_refl _) z)]
      exact nxtF_is (by omega) (by omega) (fun x a b => h3 x (by omega) b) (fun a => h4 (by omega))
/-- what is kept of the cuts at k behind j tries -/
def DI (v w : Int32) (c l : Nat → Int32) (k j : Nat) : Prop := (j = 0 ∧ v = 2147483647) ∨ (1 ≤ j ∧ v = minOv c l k j ∧ ∃ T, w = nI T ∧ k + 1 ≤ T ∧ T < k + 1 + j ∧ c T + l T = minOv c l k j ∧ ∀ x, k + 1 ≤ x → x < T → ¬ c x + l x = minOv c l k j)
theorem DI.no {v w : Int32} {c l : Nat → Int32} {k j : Nat} (h : DI v w c l k j) (hb : ∀ t, k + 1 ≤ t → t < k + 1 + (j + 1) → 0 ≤ (c t + l t).toInt ∧ (c t + l t).toInt ≤ 100000) (g : v ≤ c (k + 1 + j) + l (k + 1 + j)) : DI v w c l k (j + 1) := by
  rcases h with ⟨h1, h2⟩ | ⟨h1, h2, T, t1, t2, t3, t4, t5⟩
  · have := hb (k + 1 + j) (by omega) (by omega)
    rw [h2] at g
    have g2 := i32_le.mp g
    rw [show (2147483647 : Int32).toInt = 2147483647 from rfl] at g2
    omega
  · have e : minOv c l k (j + 1) = minOv c l k j := by
      rw [minOv]; unfold zMin
      rw [h2] at g
      by_cases z : c (k + 1 + j) + l (k + 1 + j) ≤ minOv c l k j
      · rw [if_pos z]; exact i32_eq (by have := i32_le.mp g; have := i32_le.mp z; omega)
      · rw [if_neg z]
    exact Or.inr ⟨by omega, by rw [e]; exact h2, T, t1, t2, by omega, by rw [e]; exact t4, fun x a b => by rw [e]; exact t5 x a b⟩
theorem DI.yes {v w : Int32} {c l : Nat → Int32} {k j : Nat} (h : DI v w c l k j) (hb : ∀ t, k + 1 ≤ t → t < k + 1 + (j + 1) → 0 ≤ (c t + l t).toInt ∧ (c t + l t).toInt ≤ 100000) (g : ¬ v ≤ c (k + 1 + j) + l (k + 1 + j)) : DI (c (k + 1 + j) + l (k + 1 + j)) (nI (k + 1 + j)) c l k (j + 1) := by
  have hj := hb (k + 1 + j) (by omega) (by omega)
  have key : minOv c l k (j + 1) = c (k + 1 + j) + l (k + 1 + j) ∧ ∀ x, k + 1 ≤ x → x < k + 1 + j → ¬ c x + l x = c (k + 1 + j) + l (k + 1 + j) := by
    rw [minOv]; unfold zMin
    rcases h with ⟨h1, h2⟩ | ⟨h1, h2, -⟩
    · subst h1
      rw [if_pos (i32_le.mpr (by rw [minOv, show (1000000 : Int32).toInt = 1000000 from rfl]; omega))]
      exact ⟨rfl, fun x a b => by omega⟩
    · rw [h2] at g
      have g2 : (c (k + 1 + j) + l (k + 1 + j)).toInt < (minOv c l k j).toInt := i32_lt.mp (Int32.not_le.mp g)
      rw [if_pos (i32_le.mpr (by omega))]
      refine ⟨rfl, fun x a b e => ?_⟩
      have := (minOv_b (c := c) (l := l) (k := k) (j := j) (fun t q1 q2 => hb t q1 (by omega))).2 x a b
      rw [e] at this
      omega
  exact Or.inr ⟨by omega, key.1.symm, k + 1 + j, rfl, by omega, by omega, key.1.symm, fun x a b => by rw [key.1]; exact key.2 x a b⟩
theorem ct_reach {C : Nat → Nat → Int32} {n i : Nat} : ∀ {f k : Nat}, reachC C n i f k = if ctG (nxtC C n) i f k = i then 1 else 0
  | 0, k => by rw [reachC, ctG]
  | f + 1, k => by
    rw [reachC, ctG]
    by_cases z : k < i
    · rw [if_pos z, if_pos z]; exact ct_reach
    · rw [if_neg z, if_neg z]
theorem c_X1_planDressing {d : Nat} {S : vS} {I : vI} {L : vL} {Q : vS → vI → vL → Prop} {s lb np nc : Nat} {K : Nat → Int32} {W : tW} {q n : Nat} (hc : CutS S (s + 65) s (s + 28) (s + 33)) (hK : TR I (s + 1) K np nc) (hN : TN K np nc) (hW : WC S I s lb W) (hlb : s + 75 ≤ lb) (hPB : PBt (perP K q)) (hq : q < np) (hn : n ≤ 24) (h : ∀ I2 M, FC s I I2 → Lev (s + 28) L M → I2 (s + 72) 0 = (leastT (dCl W K q) n (n + 1)) 0 → (∀ k, k ≤ n → I2 (s + 73) k = nI (nxtC (dCl W K q) n k)) → Q S I2 M) : Vc mX1_planDressing (d + 4) 0 0 [.ref (s + 65), .int (nI q), .int (nI n)] S I L (VvQ Q) := by
  refine Vc.of rfl (Nat.le_of_ble_eq_true rfl) ?_
  have B := bs_X1_planDressing
  show Vw mX1_planDressing (d + 4) 0 0 0 0 (VvQ Q) 0 [(0, .ref (s + 65)), (1, .int (nI q)), (2, .int (nI n))] [] S I L
  have h8 := hN.1
  have h10 := hN.2.1
  have hp := hc.p2
  have hT := hc.p0.p0
  have hR := hc.p1
  have hCB : CB (dCl W K q) n := dCl_b hPB
  have outer : ∀ m, m ≤ n + 1 → ∀ J M, FC s I J → Lev (s + 28) L M → PW J s (walkP W (nI q) (K 121) (perP K q)) n → (∀ j, n + 1 - m ≤ j → j ≤ n + 1 → J (s + 72) j = (leastT (dCl W K q) n m) j) → (∀ j, n + 1 - m ≤ j → j ≤ n → J (s + 73) j = nI (nxtC (dCl W K q) n j)) → Vw mX1_planDressing (d + 4) 0 0 0 0 (VvQ Q) 20 [(0, .ref (s + 65)), (1, .int (nI q)), (2, .int (nI n)), (3, .int (nI (n + 1 - m) - 1))] [] S J M := by
    refine loop_up (fun m hm ih => ?_)
    intro J M fJ fM pJ lJ xJ
    have kJ := fJ.tr hK h8 h10
    have inner : ∀ k, m ≤ n → k = n - m → ∀ j, j ≤ m + 1 → ∀ J M, FC s I J → Lev (s + 28) L M → PW J s (walkP W (nI q) (K 121) (perP K q)) n → perA J (s + 34) = walkP W (nI q) (K 121) (perP K q) k → (∀ j, n + 1 - m ≤ j → j ≤ n + 1 → J (s + 72) j = (leastT (dCl W K q) n m) j) → (∀ j, n + 1 - m ≤ j → j ≤ n → J (s + 73) j = nI (nxtC (dCl W K q) n j)) → DI (J (s + 72) k) (J (s + 73) k) ((dCl W K q) k) (leastT (dCl W K q) n m) k j → Vw mX1_planDressing (d + 4) 0 0 0 0 (VvQ Q) 66 [(0, .ref (s + 65)), (1, .int (nI q)), (2, .int (nI n)), (3, .int (nI k)), (4, .int (dMax (fun k => (walkP W (nI q) (K 121) (perP K q) k).2.1) k j)), (5, .int (dMax (fun k => (walkP W (nI q) (K 121) (perP K q) k).2.2.1) k j)), (6, .int (nI (k + 1 + j)))] [] S J M := by
      intro k hmn hk
      have hbb : ∀ t, k + 1 ≤ t → t < k + 1 + (m + 1) → 0 ≤ ((dCl W K q) k t + (leastT (dCl W K q) n m) t).toInt ∧ ((dCl W K q) k t + (leastT (dCl W K q) n m) t).toInt ≤ 100000 := by
        intro t t1 t2
        have a1 := hCB k t (by omega) (by omega) (by omega)
        have a2 := leastT_b hn hCB m (by omega) t (by omega) (by omega)
        rw [i32_add (by omega) (by omega)]
        omega
      refine loop_up (fun j hj ih2 => ?_)
      intro J M fJ fM pJ oJ lJ xJ dJ
      have kJ := fJ.tr hK h8 h10
      have wJ := fJ.wc hW hlb
      refine Vw.iload (de_iload (B 66 _ rfl) (B 67 _ rfl)) 6 rfl (n := 68) rfl ?_
      refine Vw.iload_n (de_iload_2 (B 68 _ rfl)) 2 rfl (n := 69) rfl ?_
      refine Vw.iconst (v := 1) (de_iconst_1 (B 69 _ rfl)) rfl (n := 70) rfl ?_
      refine Vw.iadd (de_iadd (B 70 _ rfl)) (n := 71) rfl ?_
      rw [nI_1]
      refine Vw.icmp_gt (tgt := 194) (n := 74) (de_icmp_gt (B 71 _ rfl) (B 72 _ rfl) (B 73 _ rfl)) rfl rfl (fun c_71 => ?_) (fun c_71 => ?_)
      · have z_71 : j = m + 1 := by
          rcases Nat.lt_or_ge j (m + 1) with z | z
          · exact absurd c_71 (Int32.not_lt.mpr ((nI_leI (a := k + 1 + j) (b := n + 1) (by omega) (by omega)).mpr (by omega)))
          · omega
        refine Vw.iinc (v := nI k - 1) (lv2 := [(0, _), (1, _), (2, _), (3, _), (4, _), (5, _), (6, _)]) (de_iinc (B 194 _ rfl) (B 195 _ rfl) (B 196 _ rfl)) 3 rfl (inc_m1 _) (by decide) [1, 2, 3, 0, 4, 5, 6] rfl (n := 197) rfl ?_
        refine Vw.goto_ (n := 20) (de_goto_ (B 197 _ rfl) (B 198 _ rfl) (B 199 _ rfl)) rfl ?_
        refine Vw.lvs (lv2 := [(0, _), (1, _), (2, _), (3, _)]) [0, 1, 2, 3] rfl ?_
        subst z_71
        have ek : (leastT (dCl W K q) n (m + 1)) k = minOv ((dCl W K q) k) (leastT (dCl W K q) n m) k (m + 1) := by
          rw [leastT]; simp only; rw [← hk, if_pos rfl]
        rcases dJ with ⟨h1, -⟩ | ⟨-, d2, T, t1, t2, t3, t4, t5⟩
        · exact absurd h1 (by omega)
        have eN : nxtC (dCl W K q) n k = T := by
          unfold nxtC
          have el : ∀ x, k + 1 ≤ x → (leastT (dCl W K q) n (n + 1)) x = (leastT (dCl W K q) n m) x := fun x hx => leastT_k (m := m) (n + 1) (by omega) (Nat.le_refl _) x (by omega)
          have ev : (leastT (dCl W K q) n (n + 1)) k = minOv ((dCl W K q) k) (leastT (dCl W K q) n m) k (m + 1) := by rw [leastT_k (m := m + 1) (n + 1) (by omega) (Nat.le_refl _) k (by omega)]; exact ek
          rw [ev]
          exact nxtF_is (by omega) (by omega) (fun x a b => by rw [el x a]; exact t5 x a b) (fun a => by rw [el T t2]; exact t4)
        have g := ih (by omega) J M fJ fM pJ (fun i h1 h2 => by
          rcases (show i = k ∨ n + 1 - m ≤ i by omega) with z | z
          · rw [z, d2, ek]
          · rw [lJ i z h2, leastT]; simp only; rw [if_neg (by omega)]) (fun i h1 h2 => by
          rcases (show i = k ∨ n + 1 - m ≤ i by omega) with z | z
          · rw [z, t1, eN]
          · exact xJ i z h2)
        rw [show n + 1 - (m + 1) = k by omega] at g
        exact g
      have z_71 : j < m + 1 := by
        have := (nI_leI (a := k + 1 + j) (b := n + 1) (by omega) (by omega)).mp (Int32.not_lt.mp c_71)
        omega
      have esub : nI (k + 1 + j) - 1 = nI (k + j) := (nI_sub (a := k + 1 + j) (b := 1) (by omega) (by omega)).trans (by congr 1; omega)
      refine Vw.iload (de_iload (B 74 _ rfl) (B 75 _ rfl)) 4 rfl (n := 76) rfl ?_
      refine Vw.aload_n (de_aload_0 (B 76 _ rfl)) 0 rfl (n := 77) rfl ?_
      refine Vw.getR (de_getfield (B 77 _ rfl) (B 78 _ rfl) (B 79 _ rfl)) fl_X1_44 rfl hc.k hc.f2 (n := 80) rfl ?_
      refine Vw.getR (de_getfield (B 80 _ rfl) (B 81 _ rfl) (B 82 _ rfl)) fl_X1_161 rfl hc.p2.k hc.p2.f4 (n := 83) rfl ?_
      refine Vw.iload (de_iload (B 83 _ rfl) (B 84 _ rfl)) 6 rfl (n := 85) rfl ?_
      refine Vw.iconst (v := 1) (de_iconst_1 (B 85 _ rfl)) rfl (n := 86) rfl ?_
      refine Vw.isub (de_isub (B 86 _ rfl)) (n := 87) rfl ?_
      rw [esub]
      refine Vw.iald (de_iaload (B 87 _ rfl)) hc.p2.r4 (vIx_n (k := k + j) rfl (by omega)) (n := 88) rfl ?_
      rw [show J (s + 33 + 3) (k + j) = (walkP W (nI q) (K 121) (perP K q) (k + j)).2.1 from (pJ (k + j) (by omega)).2.1]
      refine Vw.mmaxI (de_invokestatic (B 88 _ rfl) (B 89 _ rfl) (B 90 _ rfl)) ml_X1_141 (Nat.le_of_ble_eq_true rfl) (n := 91) rfl ?_
      rw [zMax_cm, show zMax (dMax (fun k => (walkP W (nI q) (K 121) (perP K q) k).2.1) k j) (walkP W (nI q) (K 121) (perP K q) (k + j)).2.1 = dMax (fun k => (walkP W (nI q) (K 121) (perP K q) k).2.1) k (j + 1) from rfl]
      refine Vw.istore (lv2 := [(0, _), (1, _), (2, _), (3, _), (4, _), (5, _), (6, _)]) (de_istore (B 91 _ rfl) (B 92 _ rfl)) (by decide) [1, 2, 3, 4, 0, 5, 6] rfl (n := 93) rfl ?_
      refine Vw.iload (de_iload (B 93 _ rfl) (B 94 _ rfl)) 5 rfl (n := 95) rfl ?_
      refine Vw.aload_n (de_aload_0 (B 95 _ rfl)) 0 rfl (n := 96) rfl ?_
      refine Vw.getR (de_getfield (B 96 _ rfl) (B 97 _ rfl) (B 98 _ rfl)) fl_X1_44 rfl hc.k hc.f2 (n := 99) rfl ?_
      refine Vw.getR (de_getfield (B 99 _ rfl) (B 100 _ rfl) (B 101 _ rfl)) fl_X1_164 rfl hc.p2.k hc.p2.f5 (n := 102) rfl ?_
      refine Vw.iload (de_iload (B 102 _ rfl) (B 103 _ rfl)) 6 rfl (n := 104) rfl ?_
      refine Vw.iconst (v := 1) (de_iconst_1 (B 104 _ rfl)) rfl (n := 105) rfl ?_
      refine Vw.isub (de_isub (B 105 _ rfl)) (n := 106) rfl ?_
      rw [esub]
      refine Vw.iald (de_iaload (B 106 _ rfl)) hc.p2.r5 (vIx_n (k := k + j) rfl (by omega)) (n := 107) rfl ?_
      rw [show J (s + 33 + 4) (k + j) = (walkP W (nI q) (K 121) (perP K q) (k + j)).2.2.1 from (pJ (k + j) (by omega)).2.2]
      refine Vw.mmaxI (de_invokestatic (B 107 _ rfl) (B 108 _ rfl) (B 109 _ rfl)) ml_X1_141 (Nat.le_of_ble_eq_true rfl) (n := 110) rfl ?_
      rw [zMax_cm, show zMax (dMax (fun k => (walkP W (nI q) (K 121) (perP K q) k).2.2.1) k j) (walkP W (nI q) (K 121) (perP K q) (k + j)).2.2.1 = dMax (fun k => (walkP W (nI q) (K 121) (perP K q) k).2.2.1) k (j + 1) from rfl]
      refine Vw.istore (lv2 := [(0, _), (1, _), (2, _), (3, _), (4, _), (5, _), (6, _)]) (de_istore (B 110 _ rfl) (B 111 _ rfl)) (by decide) [1, 2, 3, 4, 5, 0, 6] rfl (n := 112) rfl ?_
      refine Vw.aload_n (de_aload_0 (B 112 _ rfl)) 0 rfl (n := 113) rfl ?_
      refine Vw.getR (de_getfield (B 113 _ rfl) (B 114 _ rfl) (B 115 _ rfl)) fl_X1_40 rfl hc.k hc.f1 (n := 116) rfl ?_
      refine Vw.iconst (v := -1) (de_iconst_m1 (B 116 _ rfl)) rfl (n := 117) rfl ?_
      refine Vw.iload (de_iload (B 117 _ rfl) (B 118 _ rfl)) 4 rfl (n := 119) rfl ?_
      refine Vw.iload (de_iload (B 119 _ rfl) (B 120 _ rfl)) 5 rfl (n := 121) rfl ?_
      refine Vw.ivv3 (mi' := mX6_lookAtCoat) (de_invokevirtual (B 121 _ rfl) (B 122 _ rfl) (B 123 _ rfl)) ml_X1_108 mv_X6_lookAtCoat hc.p1.k (Nat.le_of_ble_eq_true rfl) (n := 124) rfl (c_X6_lookAtCoat hR (fun I3 f3 a4 a5 a6 => ?_))
      have k3 : TR I3 (s + 1) K np nc := kJ.of (fun b g1 g2 => f3 b (by omega)) h8 h10
      have w3 : WC S I3 s lb W := wJ.of (f3 s (by omega)) (fun b hb => f3 b (by omega))
      refine Vw.aload_n (de_aload_0 (B 124 _ rfl)) 0 rfl (n := 125) rfl ?_
      refine Vw.getR (de_getfield (B 125 _ rfl) (B 126 _ rfl) (B 127 _ rfl)) fl_X1_40 rfl hc.k hc.f1 (n := 128) rfl ?_
      refine Vw.aload_n (de_aload_0 (B 128 _ rfl)) 0 rfl (n := 129) rfl ?_
      refine Vw.getR (de_getfield (B 129 _ rfl) (B 130 _ rfl) (B 131 _ rfl)) fl_X1_44 rfl hc.k hc.f2 (n := 132) rfl ?_
      refine Vw.getR (de_getfield (B 132 _ rfl) (B 133 _ rfl) (B 134 _ rfl)) fl_X1_167 rfl hc.p2.k hc.p2.f2 (n := 135) rfl ?_
      refine Vw.iload_n (de_iload_1 (B 135 _ rfl)) 1 rfl (n := 136) rfl ?_
      refine Vw.aload_n (de_aload_0 (B 136 _ rfl)) 0 rfl (n := 137) rfl ?_
      refine Vw.getR (de_getfield (B 137 _ rfl) (B 138 _ rfl) (B 139 _ rfl)) fl_X1_36 rfl hc.k hc.f0 (n := 140) rfl ?_
      refine Vw.getR (de_getfield (B 140 _ rfl) (B 141 _ rfl) (B 142 _ rfl)) fl_X1_48 rfl hc.p0.k hc.p0.f0 (n := 143) rfl ?_
      refine Vw.getI (de_getfield (B 143 _ rfl) (B 144 _ rfl) (B 145 _ rfl)) fl_X1_114 rfl hc.p0.p0.k (n := 146) rfl ?_
      rw [k3.2.2.1]
      refine Vw.iload_n (de_iload_3 (B 146 _ rfl)) 3 rfl (n := 147) rfl ?_
      refine Vw.iadd (de_iadd (B 147 _ rfl)) (n := 148) rfl ?_
      refine Vw.ivi3 (mi' := mX6_clothFor) (de_invokevirtual (B 148 _ rfl) (B 149 _ rfl) (B 150 _ rfl)) ml_X1_121 mv_X6_clothFor hc.p1.k (Nat.le_of_ble_eq_true rfl) (n := 151) rfl (c_X6_clothFor hR hp.ko2 w3 (by omega) (fun I4 M4 f4 m4 => ?_))
      rw [a4, a5, a6, perA_of (show I3 (s + 33 + 1) = J (s + 34) from f3 _ (by omega)), oJ, show clothP W (nI q) (-1) (dMax (fun k => (walkP W (nI q) (K 121) (perP K q) k).2.1) k (j + 1)) (dMax (fun k => (walkP W (nI q) (K 121) (perP K q) k).2.2.1) k (j + 1)) (K 121 + nI k) (walkP W (nI q) (K 121) (perP K q) k) = (dCl W K q) k (k + 1 + j) from by unfold dCl; rw [show k + 1 + j - k = j + 1 by omega]]
      have f4J : ∀ b, b ≠ s + 28 → b ≠ s + 29 → I4 b = J b := fun b h1 h2 => (f4 b h2).trans (f3 b h1)
      refine Vw.aload_n (de_aload_0 (B 151 _ rfl)) 0 rfl (n := 152) rfl ?_
      refine Vw.getR (de_getfield (B 152 _ rfl) (B 153 _ rfl) (B 154 _ rfl)) fl_X1_30 rfl hc.k hc.f12 (n := 155) rfl ?_
      refine Vw.iload (de_iload (B 155 _ rfl) (B 156 _ rfl)) 6 rfl (n := 157) rfl ?_
      refine Vw.iald (de_iaload (B 157 _ rfl)) hc.r12 (vIx_n (k := k + 1 + j) rfl (by omega)) (n := 158) rfl ?_
      rw [show I4 (s + 65 + 7) (k + 1 + j) = (leastT (dCl W K q) n m) (k + 1 + j) from by rw [f4J _ (by omega) (by omega)]; exact lJ _ (by omega) (by omega)]
      refine Vw.iadd (de_iadd (B 158 _ rfl)) (n := 159) rfl ?_
      refine Vw.istore (lv2 := [(0, _), (1, _), (2, _), (3, _), (4, _), (5, _), (6, _), (7, _)]) (de_istore (B 159 _ rfl) (B 160 _ rfl)) (by decide) [1, 2, 3, 4, 5, 6, 7, 0] rfl (n := 161) rfl ?_
      refine Vw.iload (de_iload (B 161 _ rfl) (B 162 _ rfl)) 7 rfl (n := 163) rfl ?_
      refine Vw.aload_n (de_aload_0 (B 163 _ rfl)) 0 rfl (n := 164) rfl ?_
      refine Vw.getR (de_getfield (B 164 _ rfl) (B 165 _ rfl) (B 166 _ rfl)) fl_X1_30 rfl hc.k hc.f12 (n := 167) rfl ?_
      refine Vw.iload_n (de_iload_3 (B 167 _ rfl)) 3 rfl (n := 168) rfl ?_
      refine Vw.iald (de_iaload (B 168 _ rfl)) hc.r12 (vIx_n (k := k) rfl (by omega)) (n := 169) rfl ?_
      rw [show I4 (s + 65 + 7) k = J (s + 72) k from by rw [f4J _ (by omega) (by omega)]]
      refine Vw.icmp_ge (tgt := 188) (n := 172) (de_icmp_ge (B 169 _ rfl) (B 170 _ rfl) (B 171 _ rfl)) rfl rfl (fun c_169 => ?_) (fun c_169 => ?_)
      · refine Vw.iinc (v := nI (k + 1 + (j + 1))) (lv2 := [(0, _), (1, _), (2, _), (3, _), (4, _), (5, _), (6, _), (7, _)]) (de_iinc (B 188 _ rfl) (B 189 _ rfl) (B 190 _ rfl)) 6 rfl (nI_1 (k + 1 + j)) (by decide) [1, 2, 3, 4, 5, 6, 0, 7] rfl (n := 191) rfl ?_
        refine Vw.goto_ (n := 66) (de_goto_ (B 191 _ rfl) (B 192 _ rfl) (B 193 _ rfl)) rfl ?_
        refine Vw.lvs (lv2 := [(0, _), (1, _), (2, _), (3, _), (4, _), (5, _), (6, _)]) [0, 1, 2, 3, 4, 5, 6] rfl ?_
        first
        | (refine ih2 z_71 I4 M4 (fJ.trans (fun b h1 h2 h3 h4 => f4J b h1 h2)) (fM.trans m4) (pJ.of (fun b g1 g2 => f4J b (by omega) (by omega))) (by rw [perA_of (f4J (s + 34) (by omega) (by omega))]; exact oJ) (fun i h1 h2 => by rw [f4J _ (by omega) (by omega)]; exact lJ i h1 h2) (fun i h1 h2 => by rw [f4J _ (by omega) (by omega)]; exact xJ i h1 h2) ?_
           rw [f4J (s + 72) (by omega) (by omega), f4J (s + 73) (by omega) (by omega)]
           exact dJ.no (fun t t1 t2 => hbb t t1 (by omega)) c_169)
        | (refine ih2 z_71 (up2 (up2 I4 (s + 72) k ((dCl W K q) k (k + 1 + j) + (leastT (dCl W K q) n m) (k + 1 + j))) (s + 73) k (nI (k + 1 + j))) M4 (fJ.trans (fun b h1 h2 h3 h4 => by rw [up2_row (by omega), up2_row (by omega)]; exact f4J b h1 h2)) (fM.trans m4) (pJ.of (fun b g1 g2 => by rw [up2_row (by omega), up2_row (by omega)]; exact f4J b (by omega) (by omega))) (by rw [perA_of (show up2 (up2 I4 (s + 72) k _) (s + 73) k _ (s + 34) = J (s + 34) from by rw [up2_row (by omega), up2_row (by omega)]; exact f4J (s + 34) (by omega) (by omega))]; exact oJ) (fun i h1 h2 => by rw [up2_a (by omega), up2_k (by omega), f4J _ (by omega) (by omega)]; exact lJ i h1 h2) (fun i h1 h2 => by rw [up2_k (by omega), up2_a (by omega), f4J _ (by omega) (by omega)]; exact xJ i h1 h2) ?_
           rw [up2_a (show s + 72 ≠ s + 73 by omega), up2_s, up2_s]
           exact dJ.yes (fun t t1 t2 => hbb t t1 (by omega)) c_169)
      refine Vw.aload_n (de_aload_0 (B 172 _ rfl)) 0 rfl (n := 173) rfl ?_
      refine Vw.getR (de_getfield (B 173 _ rfl) (B 174 _ rfl) (B 175 _ rfl)) fl_X1_30 rfl hc.k hc.f12 (n := 176) rfl ?_
      refine Vw.iload_n (de_iload_3 (B 176 _ rfl)) 3 rfl (n := 177) rfl ?_
      refine Vw.iload (de_iload (B 177 _ rfl) (B 178 _ rfl)) 7 rfl (n := 179) rfl ?_
      refine Vw.iast (de_iastore (B 179 _ rfl)) hc.r12 (vIx_n (k := k) rfl (by omega)) (n := 180) rfl ?_
      refine Vw.aload_n (de_aload_0 (B 180 _ rfl)) 0 rfl (n := 181) rfl ?_
      refine Vw.getR (de_getfield (B 181 _ rfl) (B 182 _ rfl) (B 183 _ rfl)) fl_X1_33 rfl hc.k hc.f13 (n := 184) rfl ?_
      refine Vw.iload_n (de_iload_3 (B 184 _ rfl)) 3 rfl (n := 185) rfl ?_
      refine Vw.iload (de_iload (B 185 _ rfl) (B 186 _ rfl)) 6 rfl (n := 187) rfl ?_
      refine Vw.iast (de_iastore (B 187 _ rfl)) hc.r13 (vIx_n (k := k) rfl (by omega)) (n := 188) rfl ?_
      refine Vw.iinc (v := nI (k + 1 + (j + 1))) (lv2 := [(0, _), (1, _), (2, _), (3, _), (4, _), (5, _), (6, _), (7, _)]) (de_iinc (B 188 _ rfl) (B 189 _ rfl) (B 190 _ rfl)) 6 rfl (nI_1 (k + 1 + j)) (by decide) [1, 2, 3, 4, 5, 6, 0, 7] rfl (n := 191) rfl ?_
      refine Vw.goto_ (n := 66) (de_goto_ (B 191 _ rfl) (B 192 _ rfl) (B 193 _ rfl)) rfl ?_
      refine Vw.lvs (lv2 := [(0, _), (1, _), (2, _), (3, _), (4, _), (5, _), (6, _)]) [0, 1, 2, 3, 4, 5, 6] rfl ?_
      first
      | (refine ih2 z_71 I4 M4 (fJ.trans (fun b h1 h2 h3 h4 => f4J b h1 h2)) (fM.trans m4) (pJ.of (fun b g1 g2 => f4J b (by omega) (by omega))) (by rw [perA_of (f4J (s + 34) (by omega) (by omega))]; exact oJ) (fun i h1 h2 => by rw [f4J _ (by omega) (by omega)]; exact lJ i h1 h2) (fun i h1 h2 => by rw [f4J _ (by omega) (by omega)]; exact xJ i h1 h2) ?_
         rw [f4J (s + 72) (by omega) (by omega), f4J (s + 73) (by omega) (by omega)]
         exact dJ.no (fun t t1 t2 => hbb t t1 (by omega)) c_169)
      | (refine ih2 z_71 (up2 (up2 I4 (s + 72) k ((dCl W K q) k (k + 1 + j) + (leastT (dCl W K q) n m) (k + 1 + j))) (s + 73) k (nI (k + 1 + j))) M4 (fJ.trans (fun b h1 h2 h3 h4 => by rw [up2_row (by omega), up2_row (by omega)]; exact f4J b h1 h2)) (fM.trans m4) (pJ.of (fun b g1 g2 => by rw [up2_row (by omega), up2_row (by omega)]; exact f4J b (by omega) (by omega))) (by rw [perA_of (show up2 (up2 I4 (s + 72) k _) (s + 73) k _ (s + 34) = J (s + 34) from by rw [up2_row (by omega), up2_row (by omega)]; exact f4J (s + 34) (by omega) (by omega))]; exact oJ) (fun i h1 h2 => by rw [up2_a (by omega), up2_k (by omega), f4J _ (by omega) (by omega)]; exact lJ i h1 h2) (fun i h1 h2 => by rw [up2_k (by omega), up2_a (by omega), f4J _ (by omega) (by omega)]; exact xJ i h1 h2) ?_
         rw [up2_a (show s + 72 ≠ s + 73 by omega), up2_s, up2_s]
         exact dJ.yes (fun t t1 t2 => hbb t t1 (by omega)) c_169)
    refine Vw.iload_n (de_iload_3 (B 20 _ rfl)) 3 rfl (n := 21) rfl ?_
    refine Vw.if_lt (tgt := 200) (n := 24) (de_if_lt (B 21 _ rfl) (B 22 _ rfl) (B 23 _ rfl)) rfl rfl (fun c_21 => ?_) (fun c_21 => ?_)
    · have z_21 : m = n + 1 := by
        rcases Nat.lt_or_ge m (n + 1) with z | z
        · refine absurd c_21 (Int32.not_lt.mpr ?_)
          rw [show nI (n + 1 - m) - 1 = nI (n - m) from (nI_sub (a := n + 1 - m) (b := 1) (by omega) (by omega)).trans (by congr 1; omega)]
          exact (nI_leI (a := 0) (b := n - m) (by omega) (by omega)).mpr (Nat.zero_le _)
        · omega
      exact Vw.vret (de_return_ (B 200 _ rfl)) rfl ⟨rfl, (h J M fJ fM (by rw [lJ 0 (by omega) (by omega), z_21]) (fun k hk => xJ k (by omega) hk))⟩
    have z_21 : m ≤ n := by
      rcases Nat.lt_or_ge n m with z | z
      · exact absurd (by rw [show n + 1 - m = 0 by omega]; decide) c_21
      · exact z
    obtain ⟨k, hk⟩ : ∃ k, k = n - m := ⟨_, rfl⟩
    rw [show nI (n + 1 - m) - 1 = nI k from (nI_sub (a := n + 1 - m) (b := 1) (by omega) (by omega)).trans (by congr 1; omega)]
    refine Vw.aload_n (de_aload_0 (B 24 _ rfl)) 0 rfl (n := 25) rfl ?_
    refine Vw.getR (de_getfield (B 25 _ rfl) (B 26 _ rfl) (B 27 _ rfl)) fl_X1_44 rfl hc.k hc.f2 (n := 28) rfl ?_
    refine Vw.iload_n (de_iload_3 (B 28 _ rfl)) 3 rfl (n := 29) rfl ?_
    refine Vw.aload_n (de_aload_0 (B 29 _ rfl)) 0 rfl (n := 30) rfl ?_
    refine Vw.getR (de_getfield (B 30 _ rfl) (B 31 _ rfl) (B 32 _ rfl)) fl_X1_36 rfl hc.k hc.f0 (n := 33) rfl ?_
    refine Vw.getR (de_getfield (B 33 _ rfl) (B 34 _ rfl) (B 35 _ rfl)) fl_X1_48 rfl hc.p0.k hc.p0.f0 (n := 36) rfl ?_
    refine Vw.getR (de_getfield (B 36 _ rfl) (B 37 _ rfl) (B 38 _ rfl)) fl_X1_96 rfl hc.p0.p0.k hc.p0.p0.f0 (n := 39) rfl ?_
    refine Vw.iload_n (de_iload_1 (B 39 _ rfl)) 1 rfl (n := 40) rfl ?_
    refine Vw.aald3 (b := 0) (de_aaload (B 40 _ rfl)) hc.p0.p0.r0 (vIx_n (k := q) rfl (by omega)) (hT.pr (show q < 8 by omega)) (n := 41) rfl ?_
    refine Vw.getI (de_getfield (B 41 _ rfl) (B 42 _ rfl) (B 43 _ rfl)) fl_X1_152 rfl (hT.pk (show q < 8 by omega)) (n := 44) rfl ?_
    rw [kJ.2.2.2.1 q 3 hq (by decide)]
    refine Vw.ivv2 (mi' := mX4_standAt) (de_invokevirtual (B 44 _ rfl) (B 45 _ rfl) (B 46 _ rfl)) ml_X1_155 mv_X4_standAt hc.p2.k (Nat.le_of_ble_eq_true rfl) (n := 47) rfl (c_X4_standAt hp (show k ≤ 80 by omega) (fun I3 f3 e3 => ?_))
    refine Vw.iconst (v := 0) (de_iconst_0 (B 47 _ rfl)) rfl (n := 48) rfl ?_
    refine Vw.istore (lv2 := [(0, _), (1, _), (2, _), (3, _), (4, _)]) (de_istore (B 48 _ rfl) (B 49 _ rfl)) (by decide) [1, 2, 3, 4, 0] rfl (n := 50) rfl ?_
    refine Vw.iconst (v := 0) (de_iconst_0 (B 50 _ rfl)) rfl (n := 51) rfl ?_
    refine Vw.istore (lv2 := [(0, _), (1, _), (2, _), (3, _), (4, _), (5, _)]) (de_istore (B 51 _ rfl) (B 52 _ rfl)) (by decide) [1, 2, 3, 4, 5, 0] rfl (n := 53) rfl ?_
    refine Vw.aload_n (de_aload_0 (B 53 _ rfl)) 0 rfl (n := 54) rfl ?_
    refine Vw.getR (de_getfield (B 54 _ rfl) (B 55 _ rfl) (B 56 _ rfl)) fl_X1_30 rfl hc.k hc.f12 (n := 57) rfl ?_
    refine Vw.iload_n (de_iload_3 (B 57 _ rfl)) 3 rfl (n := 58) rfl ?_
    refine Vw.ldc (de_ldc (B 58 _ rfl) (B 59 _ rfl)) kc_X1_160 (n := 60) rfl ?_
    refine Vw.iast (de_iastore (B 60 _ rfl)) hc.r12 (vIx_n (k := k) rfl (by omega)) (n := 61) rfl ?_
    refine Vw.iload_n (de_iload_3 (B 61 _ rfl)) 3 rfl (n := 62) rfl ?_
    refine Vw.iconst (v := 1) (de_iconst_1 (B 62 _ rfl)) rfl (n := 63) rfl ?_
    refine Vw.iadd (de_iadd (B 63 _ rfl)) (n := 64) rfl ?_
    rw [nI_1]
    refine Vw.istore (lv2 := [(0, _), (1, _), (2, _), (3, _), (4, _), (5, _), (6, _)]) (de_istore (B 64 _ rfl) (B 65 _ rfl)) (by decide) [1, 2, 3, 4, 5, 6, 0] rfl (n := 66) rfl ?_
    have eo : perA I3 (s + 34) = walkP W (nI q) (K 121) (perP K q) k := by
      rw [e3, (pJ k (by omega)).1, (pJ k (by omega)).2.1, (pJ k (by omega)).2.2, show K (4 * q + 3) = (walkP W (nI q) (K 121) (perP K q) k).2.2.2 from (walkP_fed (W := W) (p := nI q) (now := K 121) (P := perP K q) (k := k)).symm]
    refine inner k z_21 hk 0 (Nat.zero_le _) (up2 I3 (s + 72) k 2147483647) M (fJ.trans (fun b h1 h2 h3 h4 => by rw [up2_row (by omega)]; exact f3 b (by omega))) fM (pJ.of (fun b g1 g2 => by rw [up2_row (by omega)]; exact f3 b (by omega))) (by rw [perA_of (show up2 I3 (s + 72) k _ (s + 34) = I3 (s + 34) from up2_row (by omega))]; exact eo) (fun i h1 h2 => by rw [up2_k (by omega), f3 _ (by omega)]; exact lJ i h1 h2) (fun i h1 h2 => by rw [up2_a (by omega), f3 _ (by omega)]; exact xJ i h1 h2) (Or.inl ⟨rfl, up2_s _ _ _ _⟩)
  refine Vw.aload_n (de_aload_0 (B 0 _ rfl)) 0 rfl (n := 1) rfl ?_
  refine Vw.getR (de_getfield (B 1 _ rfl) (B 2 _ rfl) (B 3 _ rfl)) fl_X1_44 rfl hc.k hc.f2 (n := 4) rfl ?_
  refine Vw.iload_n (de_iload_1 (B 4 _ rfl)) 1 rfl (n := 5) rfl ?_
  refine Vw.iload_n (de_iload_2 (B 5 _ rfl)) 2 rfl (n := 6) rfl ?_
  refine Vw.ivv2 (mi' := mX4_walk) (de_invokevirtual (B 6 _ rfl) (B 7 _ rfl) (B 8 _ rfl)) ml_X1_67 mv_X4_walk hc.p2.k (Nat.le_of_ble_eq_true rfl) (n := 9) rfl (c_X4_walk hp hK hN hW (by omega) hq (by omega) (fun I3 M3 f3 m3 p3 o3 => ?_))
  refine Vw.aload_n (de_aload_0 (B 9 _ rfl)) 0 rfl (n := 10) rfl ?_
  refine Vw.getR (de_getfield (B 10 _ rfl) (B 11 _ rfl) (B 12 _ rfl)) fl_X1_30 rfl hc.k hc.f12 (n := 13) rfl ?_
  refine Vw.iload_n (de_iload_2 (B 13 _ rfl)) 2 rfl (n := 14) rfl ?_
  refine Vw.iconst (v := 1) (de_iconst_1 (B 14 _ rfl)) rfl (n := 15) rfl ?_
  refine Vw.iadd (de_iadd (B 15 _ rfl)) (n := 16) rfl ?_
  rw [nI_1]
  refine Vw.iconst (v := 0) (de_iconst_0 (B 16 _ rfl)) rfl (n := 17) rfl ?_
  refine Vw.iast (de_iastore (B 17 _ rfl)) hc.r12 (vIx_n (k := n + 1) rfl (by omega)) (n := 18) rfl ?_
  refine Vw.iload_n (de_iload_2 (B 18 _ rfl)) 2 rfl (n := 19) rfl ?_
  refine Vw.istore_n (lv2 := [(0, _), (1, _), (2, _), (3, _)]) (de_istore_3 (B 19 _ rfl)) rfl (by decide) [1, 2, 3, 0] rfl (n := 20) rfl ?_
  have g := outer 0 (Nat.zero_le _) (up2 I3 (s + 72) (n + 1) 0) M3 (f3.fc.trans (fun b h1 h2 h3 h4 => up2_row (by omega))) m3 (p3.of (fun b g1 g2 => up2_row (by omega))) (fun j h1 h2 => by rw [show j = n + 1 by omega, up2_s]; rfl) (fun j h1 h2 => absurd h2 (by omega))
  rw [show nI (n + 1 - 0) - 1 = nI n from dn_p n] at g
  exact g
