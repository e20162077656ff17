/-! Bounds of what is told; what is kept to be undone -/
theorem tClamp_b {lo hi : Int32} (h : lo.toInt ≤ hi.toInt) {s : Int64} : lo.toInt ≤ (tClamp lo hi s).toInt ∧ (tClamp lo hi s).toInt ≤ hi.toInt := by
  unfold tClamp
  split
  · rw [Int32.toInt_toInt64]; omega
  · split
    · rw [Int32.toInt_toInt64]; omega
    · rename_i a b
      rw [Int64.lt_iff_toInt_lt, Int32.toInt_toInt64] at a b
      omega
theorem tells_b {law : Option (List tC)} {hd lo hi wo : Int32} {nv : Nat → Int32} (h1 : lo.toInt ≤ wo.toInt) (h2 : wo.toInt ≤ hi.toInt) : lo.toInt ≤ (tellsP law hd lo hi wo nv).toInt ∧ (tellsP law hd lo hi wo nv).toInt ≤ hi.toInt := by
  unfold tellsP
  cases law with
  | none => exact ⟨h1, h2⟩
  | some cs =>
    have key : ∀ (cs : List tC) (v : Int64), lo.toInt ≤ v.toInt → v.toInt ≤ hi.toInt → lo.toInt ≤ (cs.foldl (tStep hd lo hi nv) v).toInt ∧ (cs.foldl (tStep hd lo hi nv) v).toInt ≤ hi.toInt := by
      intro cs
      induction cs with
      | nil => exact fun v a b => ⟨a, b⟩
      | cons c cs ih =>
        intro v a b
        rw [List.foldl_cons]
        have e : lo.toInt ≤ (tStep hd lo hi nv v c).toInt ∧ (tStep hd lo hi nv v c).toInt ≤ hi.toInt := by
          unfold tStep
          split
          · split
            · exact tClamp_b (by omega)
            · exact ⟨a, b⟩
          · exact ⟨a, b⟩
        exact ih _ e.1 e.2
    have k := key cs wo.toInt64 (by rw [Int32.toInt_toInt64]; exact h1) (by rw [Int32.toInt_toInt64]; exact h2)
    simp only
    have r1 := i32_rng lo
    have r2 := i32_rng hi
    rw [Int64.toInt_toInt32, bm32 (by omega) (by omega)]
    exact k
theorem payP_b (W : tW) (p tl size wide now : Int32) (P : tP) : 0 ≤ (payP W p tl size wide now P).toInt ∧ (payP W p tl size wide now P).toInt ≤ 999 := tells_b (lo := 0) (hi := 999) (by decide) (by decide)
theorem setlK_b {W : tW} {K : Nat → Int32} : ∀ c, c ≤ 10 → 0 ≤ (setlK W K c).2.toInt ∧ (setlK W K c).2.toInt ≤ 999 * c := by
  intro c
  induction c with
  | zero => exact fun _ => ⟨Int.le_refl 0, Int.le_refl 0⟩
  | succ c ih =>
    intro hc
    have e := ih (by omega)
    rw [setlK]
    split
    · exact ⟨e.1, by omega⟩
    · split
      · have b := payP_b W ((setlK W K c).1 (32 + 8 * c + 4)) ((setlK W K c).1 (32 + 8 * c + 2)) ((setlK W K c).1 (32 + 8 * c)) ((setlK W K c).1 (32 + 8 * c + 1)) ((setlK W K c).1 121) (perP (setlK W K c).1 (wrN (setlK W K c).1 c))
        simp only [payAt]
        rw [i32_add (by omega) (by omega)]
        omega
      · exact ⟨e.1, by omega⟩
theorem pos_i {x : Int32} (h : 0 ≤ x.toInt) : 0 ≤ x := by rw [i32_le]; exact h
def keep1 (F K : Nat → Int32) (u : Nat) (x : Int32) : Nat → Int32 := fun k => if k = 123 * u + 122 then x else if 123 * u ≤ k ∧ k < 123 * u + 122 then K (k - 123 * u) else F k
def keepL (F K : Nat → Int32) (u : Nat) (x : Int32) : Nat → Int32 := if u = 16 then keep1 (fun k => if k < 1845 then F (k + 123) else F k) K 15 x else keep1 F K u x
def keepN (u : Nat) : Nat := if u = 16 then 16 else u + 1
theorem mKeep1_L {I : vI} {r u : Nat} {x : Int32} : mKeep1 I r u x (r + 14) = keep1 (I (r + 14)) (I (r + 2)) u x := by
  funext k
  unfold mKeep1 keep1
  rw [up2_a (by omega)]
  by_cases h : k = 123 * u + 122
  · rw [h, up2_s, if_pos rfl]
  · rw [up2_k h, if_neg h]
    by_cases g : 123 * u ≤ k ∧ k < 123 * u + 122
    · rw [cpR_i g.1 g.2, if_pos g, Nat.zero_add]
    · rw [cpR_u (by omega), if_neg g]
theorem mKeeps_L {I : vI} {r u : Nat} {x : Int32} : mKeeps I r u x (r + 14) = keepL (I (r + 14)) (I (r + 2)) u x := by
  unfold mKeeps keepL
  split
  · rw [mKeep1_L, up2_row (by omega), up2_row (by omega)]
    have e1 : cpR I (r + 14) (r + 14) 123 0 1845 (r + 2) = I (r + 2) := funext fun k => cpR_o (by omega)
    have e2 : cpR I (r + 14) (r + 14) 123 0 1845 (r + 14) = (fun k => if k < 1845 then I (r + 14) (k + 123) else I (r + 14) k) := by
      funext k
      by_cases h : k < 1845
      · rw [cpR_i (by omega) (by omega), if_pos h, Nat.sub_zero, Nat.add_comm 123 k]
      · rw [cpR_u (by omega), if_neg h]
    rw [e1, e2]
  · exact mKeep1_L
theorem mKeeps_n {I : vI} {r u : Nat} {x : Int32} : mKeeps I r u x r 32 = nI (keepN u) := by
  unfold mKeeps keepN
  split
  · unfold mKeep1; rw [up2_s]
  · unfold mKeep1; rw [up2_s]
theorem mKeeps_fr {I I2 : vI} {r u : Nat} {x : Int32} (f : Fr r I I2) : Fk r (mKeeps I r u x) (mKeeps I2 r u x) := by
  intro a k h1 h2 h3
  by_cases h : a = r + 14
  · rw [h, mKeeps_L, mKeeps_L, f.k, f.a (r + 14) (by omega) (by omega)]
  · by_cases g : a = r ∧ k = 32
    · rw [g.1, g.2, mKeeps_n, mKeeps_n]
    · rw [mKeeps_a h g, mKeeps_a h g]
      exact f a k (by omega) h2
theorem c_X12_let {d : Nat} {S : vS} {I : vI} {L : vL} {Q : Int32 → vS → vI → vL → Prop} {r : Nat} {c x : Int32} {np nc u : Nat}  (hM : MS S r) (hT : TN (I (r + 2)) np nc) (hu : I r 32 = nI u) (h16 : u ≤ 16) (hp : ∀ i j, i < nc → j ≤ 1 → ¬ I (r + 2) (32 + 8 * i + 5 + j) = 0 → 0 ≤ letK (I (r + 2)) i j (32 + 8 * i + j)) (h1 : zLie x 0 1 = 0 → Q (-1) S (mRef I r (-1) 1) L) (h2 : ¬ zLie x 0 1 = 0 → zLie c 0 (nI nc - 1) = 0 → Q (-2) S (mRef I r (-2) 2) L) (h3 : ∀ i j, j ≤ 1 → i < nc → x = nI j → c = nI i → I (r + 2) (32 + 8 * i + 5 + j) = 0 → Q (-3) S (mRef I r (-3) 3) L) (h : ∀ i j I2, j ≤ 1 → i < nc → x = nI j → c = nI i → ¬ I (r + 2) (32 + 8 * i + 5 + j) = 0 → Fk r (mKeeps I r u 1) I2 → I2 (r + 2) = letK (I (r + 2)) i j → Q (letK (I (r + 2)) i j (32 + 8 * i + j)) S (mGood I2 r) L) : Vc mX12_let (d + 3) 0 0 [.ref r, .int c, .int x] S I L (ViQ Q) := by
  refine Vc.of rfl (Nat.le_of_ble_eq_true rfl) ?_
  have B := bs_X12_let
  show Vw mX12_let (d + 3) 0 0 0 0 (ViQ Q) 0 [(0, .ref r), (1, .int c), (2, .int x)] [] S I L
  refine Vw.aload_n (de_aload_0 (B 0 _ rfl)) 0 rfl (n := 1) rfl ?_
  refine Vw.aload_n (de_aload_0 (B 1 _ rfl)) 0 rfl (n := 2) rfl ?_
  refine Vw.iload_n (de_iload_1 (B 2 _ rfl)) 1 rfl (n := 3) rfl ?_
  refine Vw.iload_n (de_iload_2 (B 3 _ rfl)) 2 rfl (n := 4) rfl ?_
  refine Vw.ivi2 (mi' := mX12_letsKept) (de_invokevirtual (B 4 _ rfl) (B 5 _ rfl) (B 6 _ rfl)) ml_X12_372 mv_X12_letsKept hM.k (Nat.le_of_ble_eq_true rfl) (n := 7) rfl (c_X12_letsKept hM hT hu h16 (fun a => ?_) (fun a b => ?_) (fun i j a1 a2 a3 a4 a5 => ?_) (fun i j I2 a1 a2 a3 a4 a5 a6 a7 => ?_))
  · refine Vw.ivi1 (mi' := mX12_goodOr) (de_invokevirtual (B 7 _ rfl) (B 8 _ rfl) (B 9 _ rfl)) ml_X12_156 mv_X12_goodOr hM.k (Nat.le_of_ble_eq_true rfl) (n := 10) rfl (c_X12_goodOr_n hM (by decide) (by decide) ?_)
    exact Vw.iret (de_ireturn (B 10 _ rfl)) rfl ⟨_, rfl, (h1 a)⟩
  · refine Vw.ivi1 (mi' := mX12_goodOr) (de_invokevirtual (B 7 _ rfl) (B 8 _ rfl) (B 9 _ rfl)) ml_X12_156 mv_X12_goodOr hM.k (Nat.le_of_ble_eq_true rfl) (n := 10) rfl (c_X12_goodOr_n hM (by decide) (by decide) ?_)
    exact Vw.iret (de_ireturn (B 10 _ rfl)) rfl ⟨_, rfl, (h2 a b)⟩
  · refine Vw.ivi1 (mi' := mX12_goodOr) (de_invokevirtual (B 7 _ rfl) (B 8 _ rfl) (B 9 _ rfl)) ml_X12_156 mv_X12_goodOr hM.k (Nat.le_of_ble_eq_true rfl) (n := 10) rfl (c_X12_goodOr_n hM (by decide) (by decide) ?_)
    exact Vw.iret (de_ireturn (B 10 _ rfl)) rfl ⟨_, rfl, (h3 i j a1 a2 a3 a4 a5)⟩
  · refine Vw.ivi1 (mi' := mX12_goodOr) (de_invokevirtual (B 7 _ rfl) (B 8 _ rfl) (B 9 _ rfl)) ml_X12_156 mv_X12_goodOr hM.k (Nat.le_of_ble_eq_true rfl) (n := 10) rfl (c_X12_goodOr_p hM (hp i j a2 a1 a5) ?_)
    exact Vw.iret (de_ireturn (B 10 _ rfl)) rfl ⟨_, rfl, (h i j I2 a1 a2 a3 a4 a5 a6 a7)⟩
theorem c_X12_quarter {d : Nat} {S : vS} {I : vI} {L : vL} {Q : Int32 → vS → vI → vL → Prop} {r : Nat} {np nc u : Nat} {W : tW}  (hM : MS S r) (hW : WD (I (r + 2)) W) (hT : TN (I (r + 2)) np nc) (hu : I r 32 = nI u) (h16 : u ≤ 16) (h1 : I (r + 2) 121 = 999 → Q (-3) S (mRef I r (-3) 3) L) (h : ¬ I (r + 2) 121 = 999 → ∀ I2, Fk r (mKeeps I r u 2) I2 → I2 (r + 2) = (quarterP W (I (r + 2)) np nc).1 → Q (quarterP W (I (r + 2)) np nc).2 S (mGood I2 r) L) : Vc mX12_quarter (d + 48) 0 0 [.ref r] S I L (ViQ Q) := by
  refine Vc.of rfl (Nat.le_of_ble_eq_true rfl) ?_
  have B := bs_X12_quarter
  show Vw mX12_quarter (d + 48) 0 0 0 0 (ViQ Q) 0 [(0, .ref r)] [] S I L
  refine Vw.aload_n (de_aload_0 (B 0 _ rfl)) 0 rfl (n := 1) rfl ?_
  refine Vw.aload_n (de_aload_0 (B 1 _ rfl)) 0 rfl (n := 2) rfl ?_
  refine Vw.ivi0 (mi' := mX12_quarterKept) (de_invokevirtual (B 2 _ rfl) (B 3 _ rfl) (B 4 _ rfl)) ml_X12_397 mv_X12_quarterKept hM.k (Nat.le_of_ble_eq_true rfl) (n := 5) rfl (c_X12_quarterKept (W := W) hM hW hT hu h16 (fun a => ?_) (fun a I2 a1 a2 => ?_))
  · refine Vw.ivi1 (mi' := mX12_goodOr) (de_invokevirtual (B 5 _ rfl) (B 6 _ rfl) (B 7 _ rfl)) ml_X12_156 mv_X12_goodOr hM.k (Nat.le_of_ble_eq_true rfl) (n := 8) rfl (c_X12_goodOr_n hM (by decide) (by decide) ?_)
    exact Vw.iret (de_ireturn (B 8 _ rfl)) rfl ⟨_, rfl, (h1 a)⟩
  · refine Vw.ivi1 (mi' := mX12_goodOr) (de_invokevirtual (B 5 _ rfl) (B 6 _ rfl) (B 7 _ rfl)) ml_X12_156 mv_X12_goodOr hM.k (Nat.le_of_ble_eq_true rfl) (n := 8) rfl (c_X12_goodOr_p hM (pos_i (setlK_b nc hT.2.1).1) ?_)
    exact Vw.iret (de_ireturn (B 8 _ rfl)) rfl ⟨_, rfl, (h a I2 a1 a2)⟩
theorem c_X12_hand {d : Nat} {S : vS} {I : vI} {L : vL} {Q : Int32 → vS → vI → vL → Prop} {r : Nat} {c p : Int32} {np nc u : Nat} {W : tW}  (hM : MS S r) (hW : WD (I (r + 2)) W) (hT : TN (I (r + 2)) np nc) (hu : I r 32 = nI u) (h16 : u ≤ 16) (h1 : zLie c 0 (nI nc - 1) = 0 ∨ zLie p 0 (nI np - 1) = 0 → Q (-2) S (mRef I r (-2) 2) L) (h2 : ∀ i q, i < nc → q < np → c = nI i → p = nI q → ¬ I (r + 2) (32 + 8 * i + 4) = -1 → Q (-3) S (mRef I r (-3) 3) L) (h3 : ∀ i q I2, i < nc → q < np → c = nI i → p = nI q → I (r + 2) (32 + 8 * i + 4) = -1 → ¬ fitAt (handK (I (r + 2)) i q) i = 0 → Fk r (mKeeps I r u 3) I2 → I2 (r + 2) = handK (I (r + 2)) i q → Q 0 S (mGood I2 r) L) (h : ∀ i q I2, i < nc → q < np → c = nI i → p = nI q → I (r + 2) (32 + 8 * i + 4) = -1 → fitAt (handK (I (r + 2)) i q) i = 0 → Fk r (mKeeps I r u 3) I2 → I2 (r + 2) = payK W (handK (I (r + 2)) i q) i → Q (payAt W (handK (I (r + 2)) i q) i) S (mGood I2 r) L) : Vc mX12_hand (d + 47) 0 0 [.ref r, .int c, .int p] S I L (ViQ Q) := by
  refine Vc.of rfl (Nat.le_of_ble_eq_true rfl) ?_
  have B := bs_X12_hand
  show Vw mX12_hand (d + 47) 0 0 0 0 (ViQ Q) 0 [(0, .ref r), (1, .int c), (2, .int p)] [] S I L
  refine Vw.aload_n (de_aload_0 (B 0 _ rfl)) 0 rfl (n := 1) rfl ?_
  refine Vw.aload_n (de_aload_0 (B 1 _ rfl)) 0 rfl (n := 2) rfl ?_
  refine Vw.iload_n (de_iload_1 (B 2 _ rfl)) 1 rfl (n := 3) rfl ?_
  refine Vw.iload_n (de_iload_2 (B 3 _ rfl)) 2 rfl (n := 4) rfl ?_
  refine Vw.ivi2 (mi' := mX12_handsKept) (de_invokevirtual (B 4 _ rfl) (B 5 _ rfl) (B 6 _ rfl)) ml_X12_400 mv_X12_handsKept hM.k (Nat.le_of_ble_eq_true rfl) (n := 7) rfl (c_X12_handsKept (W := W) hM hW hT hu h16 (fun a => ?_) (fun i q a1 a2 a3 a4 a5 => ?_) (fun i q I2 a1 a2 a3 a4 a5 a6 a7 a8 => ?_) (fun i q I2 a1 a2 a3 a4 a5 a6 a7 a8 => ?_))
  · refine Vw.ivi1 (mi' := mX12_goodOr) (de_invokevirtual (B 7 _ rfl) (B 8 _ rfl) (B 9 _ rfl)) ml_X12_156 mv_X12_goodOr hM.k (Nat.le_of_ble_eq_true rfl) (n := 10) rfl (c_X12_goodOr_n hM (by decide) (by decide) ?_)
    exact Vw.iret (de_ireturn (B 10 _ rfl)) rfl ⟨_, rfl, (h1 a)⟩
  · refine Vw.ivi1 (mi' := mX12_goodOr) (de_invokevirtual (B 7 _ rfl) (B 8 _ rfl) (B 9 _ rfl)) ml_X12_156 mv_X12_goodOr hM.k (Nat.le_of_ble_eq_true rfl) (n := 10) rfl (c_X12_goodOr_n hM (by decide) (by decide) ?_)
    exact Vw.iret (de_ireturn (B 10 _ rfl)) rfl ⟨_, rfl, (h2 i q a1 a2 a3 a4 a5)⟩
  · refine Vw.ivi1 (mi' := mX12_goodOr) (de_invokevirtual (B 7 _ rfl) (B 8 _ rfl) (B 9 _ rfl)) ml_X12_156 mv_X12_goodOr hM.k (Nat.le_of_ble_eq_true rfl) (n := 10) rfl (c_X12_goodOr_p hM (by decide) ?_)
    exact Vw.iret (de_ireturn (B 10 _ rfl)) rfl ⟨_, rfl, (h3 i q I2 a1 a2 a3 a4 a5 a6 a7 a8)⟩
  · refine Vw.ivi1 (mi' := mX12_goodOr) (de_invokevirtual (B 7 _ rfl) (B 8 _ rfl) (B 9 _ rfl)) ml_X12_156 mv_X12_goodOr hM.k (Nat.le_of_ble_eq_true rfl) (n := 10) rfl (c_X12_goodOr_p hM (pos_i (payP_b _ _ _ _ _ _ _).1) ?_)
    exact Vw.iret (de_ireturn (B 10 _ rfl)) rfl ⟨_, rfl, (h i q I2 a1 a2 a3 a4 a5 a6 a7 a8)⟩
def sewK (K : Nat → Int32) (c a b q : Nat) (size wide cl : Int32) : Nat → Int32 :=
  upK (upK (upK (upK (upK (upK (upK (upK (upK (upK K (113 + 2 * a) (K (113 + 2 * a) - cl)) (32 + 8 * c) size) (32 + 8 * c + 1) wide) (32 + 8 * c + 2) (nI a)) (32 + 8 * c + 3) (nI b)) (32 + 8 * c + 4) (nI q)) (32 + 8 * c + 5) 2) (32 + 8 * c + 6) 3) (32 + 8 * c + 7) 0) 112 (nI (c + 1))
def canSew (W : tW) (K : Nat → Int32) (a q : Nat) (size wide : Int32) : Prop := ¬ size < (perP K q).2.1 ∧ ¬ wide < (perP K q).2.2.1 ∧ barP W (nI q) (nI a) size wide (K 121) (perP K q) = 0 ∧ clothP W (nI q) (nI a) size wide (K 121) (perP K q) ≤ K (113 + 2 * a)
theorem c_X12_sew {d : Nat} {S : vS} {I : vI} {L : vL} {Q : Int32 → vS → vI → vL → Prop} {r : Nat} {f s p sz wd : Int32} {np nc u : Nat} {W : tW}  (hM : MS S r) (hW : WD (I (r + 2)) W) (hT : TN (I (r + 2)) np nc) (hu : I r 32 = nI u) (h16 : u ≤ 16) (h1 : zLie f 0 3 = 0 ∨ zLie s 0 3 = 0 ∨ zSize sz wd = 0 → Q (-1) S (mRef I r (-1) 1) L) (h2 : ¬ zLie f 0 3 = 0 → ¬ zLie s 0 3 = 0 → ¬ zSize sz wd = 0 → zLie p 0 (nI np - 1) = 0 → Q (-2) S (mRef I r (-2) 2) L)
  (h3 : ∀ a b q I2, a ≤ 3 → b ≤ 3 → q < np → f = nI a → s = nI b → p = nI q → ¬ zSize sz wd = 0 → ¬ canSew W (I (r + 2)) a q sz wd → Fr r I I2 → Q (-3) S (mRef I2 r (-3) 3) L)
  (h4 : ∀ a b q I2, a ≤ 3 → b ≤ 3 → q < np → f = nI a → s = nI b → p = nI q → ¬ zSize sz wd = 0 → canSew W (I (r + 2)) a q sz wd → nc = 10 → Fr r I I2 → Q (-5) S (mRef I2 r (-5) 5) L) (h : ∀ a b q I2, a ≤ 3 → b ≤ 3 → q < np → f = nI a → s = nI b → p = nI q → ¬ zSize sz wd = 0 → canSew W (I (r + 2)) a q sz wd → nc < 10 → Fk r (mKeeps I r u 0) I2 → I2 (r + 2) = sewK (I (r + 2)) nc a b q sz wd (clothP W (nI q) (nI a) sz wd (I (r + 2) 121) (perP (I (r + 2)) q)) → Q (nI nc) S (mGood I2 r) L) : Vc mX12_sew (d + 45) 0 0 [.ref r, .int f, .int s, .int p, .int sz, .int wd] S I L (ViQ Q) := by
  refine Vc.of rfl (Nat.le_of_ble_eq_true rfl) ?_
  have B := bs_X12_sew
  show Vw mX12_sew (d + 45) 0 0 0 0 (ViQ Q) 0 [(0, .ref r), (1, .int f), (2, .int s), (3, .int p), (4, .int sz), (5, .int wd)] [] S I L
  have hnp := hT.1
  have hnc := hT.2.1
  have e142 := hT.2.2.1
  have e112 := hT.2.2.2.1
  refine Vw.iload_n (de_iload_1 (B 0 _ rfl)) 1 rfl (n := 1) rfl ?_
  refine Vw.isi1 (mi' := mX12_isTailor) (de_invokestatic (B 1 _ rfl) (B 2 _ rfl) (B 3 _ rfl)) ml_X12_159 ms_X12_isTailor (Nat.le_of_ble_eq_true rfl) (n := 4) rfl (c_X12_isTailor ?_)
  refine Vw.if_eq (tgt := 24) (n := 7) (de_if_eq (B 4 _ rfl) (B 5 _ rfl) (B 6 _ rfl)) rfl rfl (fun c_4 => ?_) (fun c_4 => ?_)
  · refine Vw.aload_n (de_aload_0 (B 24 _ rfl)) 0 rfl (n := 25) rfl ?_
    refine Vw.iconst (v := -1) (de_iconst_m1 (B 25 _ rfl)) rfl (n := 26) rfl ?_
    refine Vw.ivi1 (mi' := mX12_refuses) (de_invokevirtual (B 26 _ rfl) (B 27 _ rfl) (B 28 _ rfl)) ml_X12_115 mv_X12_refuses hM.k (Nat.le_of_ble_eq_true rfl) (n := 29) rfl (c_X12_refuses hM (j := 1) ⟨rfl, by decide, by decide⟩ ?_)
    exact Vw.iret (de_ireturn (B 29 _ rfl)) rfl ⟨_, rfl, (h1 (by first | exact Or.inl c_4 | exact Or.inr (Or.inl c_11) | exact Or.inr (Or.inr c_21)))⟩
  refine Vw.iload_n (de_iload_2 (B 7 _ rfl)) 2 rfl (n := 8) rfl ?_
  refine Vw.isi1 (mi' := mX12_isTailor) (de_invokestatic (B 8 _ rfl) (B 9 _ rfl) (B 10 _ rfl)) ml_X12_159 ms_X12_isTailor (Nat.le_of_ble_eq_true rfl) (n := 11) rfl (c_X12_isTailor ?_)
  refine Vw.if_eq (tgt := 24) (n := 14) (de_if_eq (B 11 _ rfl) (B 12 _ rfl) (B 13 _ rfl)) rfl rfl (fun c_11 => ?_) (fun c_11 => ?_)
  · refine Vw.aload_n (de_aload_0 (B 24 _ rfl)) 0 rfl (n := 25) rfl ?_
    refine Vw.iconst (v := -1) (de_iconst_m1 (B 25 _ rfl)) rfl (n := 26) rfl ?_
    refine Vw.ivi1 (mi' := mX12_refuses) (de_invokevirtual (B 26 _ rfl) (B 27 _ rfl) (B 28 _ rfl)) ml_X12_115 mv_X12_refuses hM.k (Nat.le_of_ble_eq_true rfl) (n := 29) rfl (c_X12_refuses hM (j := 1) ⟨rfl, by decide, by decide⟩ ?_)
    exact Vw.iret (de_ireturn (B 29 _ rfl)) rfl ⟨_, rfl, (h1 (by first | exact Or.inl c_4 | exact Or.inr (Or.inl c_11) | exact Or.inr (Or.inr c_21)))⟩
  refine Vw.iload (de_iload (B 14 _ rfl) (B 15 _ rfl)) 4 rfl (n := 16) rfl ?_
  refine Vw.iload (de_iload (B 16 _ rfl) (B 17 _ rfl)) 5 rfl (n := 18) rfl ?_
  refine Vw.isi2 (mi' := mX12_isSize) (de_invokestatic (B 18 _ rfl) (B 19 _ rfl) (B 20 _ rfl)) ml_X12_355 ms_X12_isSize (Nat.le_of_ble_eq_true rfl) (n := 21) rfl (c_X12_isSize ?_)
  refine Vw.if_ne (tgt := 30) (n := 24) (de_if_ne (B 21 _ rfl) (B 22 _ rfl) (B 23 _ rfl)) rfl rfl (fun c_21 => ?_) (fun c_21 => ?_)
  · obtain ⟨a, ha, ea⟩ := lie_n (N := 3) (by decide) c_4
    subst ea
    obtain ⟨b, hb, eb⟩ := lie_n (N := 3) (by decide) c_11
    subst eb
    refine Vw.aload_n (de_aload_0 (B 30 _ rfl)) 0 rfl (n := 31) rfl ?_
    refine Vw.iload_n (de_iload_3 (B 31 _ rfl)) 3 rfl (n := 32) rfl ?_
    refine Vw.ivi1 (mi' := mX12_isPerson) (de_invokevirtual (B 32 _ rfl) (B 33 _ rfl) (B 34 _ rfl)) ml_X12_132 mv_X12_isPerson hM.k (Nat.le_of_ble_eq_true rfl) (n := 35) rfl (c_X12_isPerson hM ?_)
    rw [e142]
    refine Vw.if_ne (tgt := 45) (n := 38) (de_if_ne (B 35 _ rfl) (B 36 _ rfl) (B 37 _ rfl)) rfl rfl (fun c_35 => ?_) (fun c_35 => ?_)
    · obtain ⟨q, hq, eq⟩ := lie_ex (by omega) c_35
      subst eq
      refine Vw.aload_n (de_aload_0 (B 45 _ rfl)) 0 rfl (n := 46) rfl ?_
      refine Vw.iload_n (de_iload_3 (B 46 _ rfl)) 3 rfl (n := 47) rfl ?_
      refine Vw.ivv1 (mi' := mX12_takes) (de_invokevirtual (B 47 _ rfl) (B 48 _ rfl) (B 49 _ rfl)) ml_X12_140 mv_X12_takes hM.k (Nat.le_of_ble_eq_true rfl) (n := 50) rfl (c_X12_takes hM (by omega) (fun I2 f2 e2 => ?_))
      refine Vw.aload_n (de_aload_0 (B 50 _ rfl)) 0 rfl (n := 51) rfl ?_
      refine Vw.iload_n (de_iload_3 (B 51 _ rfl)) 3 rfl (n := 52) rfl ?_
      refine Vw.iload_n (de_iload_1 (B 52 _ rfl)) 1 rfl (n := 53) rfl ?_
      refine Vw.iload (de_iload (B 53 _ rfl) (B 54 _ rfl)) 4 rfl (n := 55) rfl ?_
      refine Vw.iload (de_iload (B 55 _ rfl) (B 56 _ rfl)) 5 rfl (n := 57) rfl ?_
      refine Vw.aload_n (de_aload_0 (B 57 _ rfl)) 0 rfl (n := 58) rfl ?_
      refine Vw.getR (de_getfield (B 58 _ rfl) (B 59 _ rfl) (B 60 _ rfl)) fl_X12_24 rfl hM.k (MS_kept hM).1 (n := 61) rfl ?_
      refine Vw.bipush (v := 121) (de_bipush (B 61 _ rfl) (B 62 _ rfl)) rfl (n := 63) rfl ?_
      refine Vw.iald (de_iaload (B 63 _ rfl)) (MS_kept hM).2 (j := 121) ⟨rfl, by decide, by decide⟩ (n := 64) rfl ?_
      rw [f2.k]
      refine Vw.ivi5 (mi' := mX12_clothOf) (de_invokevirtual (B 64 _ rfl) (B 65 _ rfl) (B 66 _ rfl)) ml_X12_359 mv_X12_clothOf hM.k (Nat.le_of_ble_eq_true rfl) (n := 67) rfl (c_X12_clothOf (W := W) hM (by rw [f2.k]; exact hW) (fun I3 f3 e3 => ?_))
      rw [e2]
      refine Vw.istore (lv2 := [(0, _), (1, _), (2, _), (3, _), (4, _), (5, _), (6, _)]) (de_istore (B 67 _ rfl) (B 68 _ rfl)) (by decide) [1, 2, 3, 4, 5, 6, 0] rfl (n := 69) rfl ?_
      refine Vw.aload_n (de_aload_0 (B 69 _ rfl)) 0 rfl (n := 70) rfl ?_
      refine Vw.getI (de_getfield (B 70 _ rfl) (B 71 _ rfl) (B 72 _ rfl)) fl_X12_321 rfl hM.k (n := 73) rfl ?_
      rw [(PPe (e3.trans e2)).2.1]
      refine Vw.iload (de_iload (B 73 _ rfl) (B 74 _ rfl)) 4 rfl (n := 75) rfl ?_
      refine Vw.icmp_gt (tgt := 123) (n := 78) (de_icmp_gt (B 75 _ rfl) (B 76 _ rfl) (B 77 _ rfl)) rfl rfl (fun c_75 => ?_) (fun c_75 => ?_)
      · refine Vw.aload_n (de_aload_0 (B 123 _ rfl)) 0 rfl (n := 124) rfl ?_
        refine Vw.bipush (v := -3) (de_bipush (B 124 _ rfl) (B 125 _ rfl)) rfl (n := 126) rfl ?_
        refine Vw.ivi1 (mi' := mX12_refuses) (de_invokevirtual (B 126 _ rfl) (B 127 _ rfl) (B 128 _ rfl)) ml_X12_115 mv_X12_refuses hM.k (Nat.le_of_ble_eq_true rfl) (n := 129) rfl (c_X12_refuses hM (j := 3) ⟨rfl, by decide, by decide⟩ ?_)
        exact Vw.iret (de_ireturn (B 129 _ rfl)) rfl ⟨_, rfl, (by first | exact h3 a b q I3 ha hb hq rfl rfl rfl c_21 (fun z => z.1 c_75) (f2.trans f3) | exact h3 a b q I3 ha hb hq rfl rfl rfl c_21 (fun z => z.2.1 c_84) (f2.trans f3) | exact h3 a b q I4 ha hb hq rfl rfl rfl c_21 (fun z => c_104 z.2.2.1) ((f2.trans f3).trans f4) | exact h3 a b q I4 ha hb hq rfl rfl rfl c_21 (fun z => c_120 z.2.2.2) ((f2.trans f3).trans f4))⟩
      refine Vw.aload_n (de_aload_0 (B 78 _ rfl)) 0 rfl (n := 79) rfl ?_
      refine Vw.getI (de_getfield (B 79 _ rfl) (B 80 _ rfl) (B 81 _ rfl)) fl_X12_324 rfl hM.k (n := 82) rfl ?_
      rw [(PPe (e3.trans e2)).2.2.1]
      refine Vw.iload (de_iload (B 82 _ rfl) (B 83 _ rfl)) 5 rfl (n := 84) rfl ?_
      refine Vw.icmp_gt (tgt := 123) (n := 87) (de_icmp_gt (B 84 _ rfl) (B 85 _ rfl) (B 86 _ rfl)) rfl rfl (fun c_84 => ?_) (fun c_84 => ?_)
      · refine Vw.aload_n (de_aload_0 (B 123 _ rfl)) 0 rfl (n := 124) rfl ?_
        refine Vw.bipush (v := -3) (de_bipush (B 124 _ rfl) (B 125 _ rfl)) rfl (n := 126) rfl ?_
        refine Vw.ivi1 (mi' := mX12_refuses) (de_invokevirtual (B 126 _ rfl) (B 127 _ rfl) (B 128 _ rfl)) ml_X12_115 mv_X12_refuses hM.k (Nat.le_of_ble_eq_true rfl) (n := 129) rfl (c_X12_refuses hM (j := 3) ⟨rfl, by decide, by decide⟩ ?_)
        exact Vw.iret (de_ireturn (B 129 _ rfl)) rfl ⟨_, rfl, (by first | exact h3 a b q I3 ha hb hq rfl rfl rfl c_21 (fun z => z.1 c_75) (f2.trans f3) | exact h3 a b q I3 ha hb hq rfl rfl rfl c_21 (fun z => z.2.1 c_84) (f2.trans f3) | exact h3 a b q I4 ha hb hq rfl rfl rfl c_21 (fun z => c_104 z.2.2.1) ((f2.trans f3).trans f4) | exact h3 a b q I4 ha hb hq rfl rfl rfl c_21 (fun z => c_120 z.2.2.2) ((f2.trans f3).trans f4))⟩
      refine Vw.aload_n (de_aload_0 (B 87 _ rfl)) 0 rfl (n := 88) rfl ?_
      refine Vw.iload_n (de_iload_3 (B 88 _ rfl)) 3 rfl (n := 89) rfl ?_
      refine Vw.iload_n (de_iload_1 (B 89 _ rfl)) 1 rfl (n := 90) rfl ?_
      refine Vw.iload (de_iload (B 90 _ rfl) (B 91 _ rfl)) 4 rfl (n := 92) rfl ?_
      refine Vw.iload (de_iload (B 92 _ rfl) (B 93 _ rfl)) 5 rfl (n := 94) rfl ?_
      refine Vw.aload_n (de_aload_0 (B 94 _ rfl)) 0 rfl (n := 95) rfl ?_
      refine Vw.getR (de_getfield (B 95 _ rfl) (B 96 _ rfl) (B 97 _ rfl)) fl_X12_24 rfl hM.k (MS_kept hM).1 (n := 98) rfl ?_
      refine Vw.bipush (v := 121) (de_bipush (B 98 _ rfl) (B 99 _ rfl)) rfl (n := 100) rfl ?_
      refine Vw.iald (de_iaload (B 100 _ rfl)) (MS_kept hM).2 (j := 121) ⟨rfl, by decide, by decide⟩ (n := 101) rfl ?_
      rw [f3.k, f2.k]
      refine Vw.ivi5 (mi' := mX12_isBarred) (de_invokevirtual (B 101 _ rfl) (B 102 _ rfl) (B 103 _ rfl)) ml_X12_362 mv_X12_isBarred hM.k (Nat.le_of_ble_eq_true rfl) (n := 104) rfl (c_X12_isBarred (W := W) hM (by rw [f3.k, f2.k]; exact hW) (fun I4 f4 e4 => ?_))
      rw [e3, e2]
      refine Vw.if_ne (tgt := 123) (n := 107) (de_if_ne (B 104 _ rfl) (B 105 _ rfl) (B 106 _ rfl)) rfl rfl (fun c_104 => ?_) (fun c_104 => ?_)
      · refine Vw.aload_n (de_aload_0 (B 123 _ rfl)) 0 rfl (n := 124) rfl ?_
        refine Vw.bipush (v := -3) (de_bipush (B 124 _ rfl) (B 125 _ rfl)) rfl (n := 126) rfl ?_
        refine Vw.ivi1 (mi' := mX12_refuses) (de_invokevirtual (B 126 _ rfl) (B 127 _ rfl) (B 128 _ rfl)) ml_X12_115 mv_X12_refuses hM.k (Nat.le_of_ble_eq_true rfl) (n := 129) rfl (c_X12_refuses hM (j := 3) ⟨rfl, by decide, by decide⟩ ?_)
        exact Vw.iret (de_ireturn (B 129 _ rfl)) rfl ⟨_, rfl, (by first | exact h3 a b q I3 ha hb hq rfl rfl rfl c_21 (fun z => z.1 c_75) (f2.trans f3) | exact h3 a b q I3 ha hb hq rfl rfl rfl c_21 (fun z => z.2.1 c_84) (f2.trans f3) | exact h3 a b q I4 ha hb hq rfl rfl rfl c_21 (fun z => c_104 z.2.2.1) ((f2.trans f3).trans f4) | exact h3 a b q I4 ha hb hq rfl rfl rfl c_21 (fun z => c_120 z.2.2.2) ((f2.trans f3).trans f4))⟩
      refine Vw.iload (de_iload (B 107 _ rfl) (B 108 _ rfl)) 6 rfl (n := 109) rfl ?_
      refine Vw.aload_n (de_aload_0 (B 109 _ rfl)) 0 rfl (n := 110) rfl ?_
      refine Vw.getR (de_getfield (B 110 _ rfl) (B 111 _ rfl) (B 112 _ rfl)) fl_X12_24 rfl hM.k (MS_kept hM).1 (n := 113) rfl ?_
      refine Vw.bipush (v := 113) (de_bipush (B 113 _ rfl) (B 114 _ rfl)) rfl (n := 115) rfl ?_
      refine Vw.iconst (v := 2) (de_iconst_2 (B 115 _ rfl)) rfl (n := 116) rfl ?_
      refine Vw.iload_n (de_iload_1 (B 116 _ rfl)) 1 rfl (n := 117) rfl ?_
      refine Vw.imul (de_imul (B 117 _ rfl)) (n := 118) rfl ?_
      refine Vw.iadd (de_iadd (B 118 _ rfl)) (n := 119) rfl ?_
      refine Vw.iald (de_iaload (B 119 _ rfl)) (MS_kept hM).2 (vIx_n (k := 113 + 2 * a) (by simp only [nI_A, nI_M, Int32.zero_add, Int32.add_zero] <;> rfl) (by omega)) (n := 120) rfl ?_
      rw [f4.k, f3.k, f2.k]
      refine Vw.icmp_le (tgt := 130) (n := 123) (de_icmp_le (B 120 _ rfl) (B 121 _ rfl) (B 122 _ rfl)) rfl rfl (fun c_120 => ?_) (fun c_120 => ?_)
      · refine Vw.aload_n (de_aload_0 (B 130 _ rfl)) 0 rfl (n := 131) rfl ?_
        refine Vw.getR (de_getfield (B 131 _ rfl) (B 132 _ rfl) (B 133 _ rfl)) fl_X12_24 rfl hM.k (MS_kept hM).1 (n := 134) rfl ?_
        refine Vw.bipush (v := 112) (de_bipush (B 134 _ rfl) (B 135 _ rfl)) rfl (n := 136) rfl ?_
        refine Vw.iald (de_iaload (B 136 _ rfl)) (MS_kept hM).2 (j := 112) ⟨rfl, by decide, by decide⟩ (n := 137) rfl ?_
        rw [f4.k, f3.k, f2.k, e112]
        refine Vw.istore (lv2 := [(0, _), (1, _), (2, _), (3, _), (4, _), (5, _), (6, _), (7, _)]) (de_istore (B 137 _ rfl) (B 138 _ rfl)) (by decide) [1, 2, 3, 4, 5, 6, 7, 0] rfl (n := 139) rfl ?_
        refine Vw.iload (de_iload (B 139 _ rfl) (B 140 _ rfl)) 7 rfl (n := 141) rfl ?_
        refine Vw.bipush (v := 10) (de_bipush (B 141 _ rfl) (B 142 _ rfl)) rfl (n := 143) rfl ?_
        refine Vw.icmp_ne (tgt := 153) (n := 146) (de_icmp_ne (B 143 _ rfl) (B 144 _ rfl) (B 145 _ rfl)) rfl rfl (fun c_143 => ?_) (fun c_143 => ?_)
        · have hn10 : nc < 10 := by rcases Nat.lt_or_ge nc 10 with z | z; exact z; exact absurd (show nI nc = 10 by rw [show nc = 10 by omega]; rfl) c_143
          have fS := (f2.trans f3).trans f4
          refine Vw.aload_n (de_aload_0 (B 153 _ rfl)) 0 rfl (n := 154) rfl ?_
          refine Vw.iconst (v := 0) (de_iconst_0 (B 154 _ rfl)) rfl (n := 155) rfl ?_
          refine Vw.ivv1 (mi' := mX12_keeps) (de_invokevirtual (B 155 _ rfl) (B 156 _ rfl) (B 157 _ rfl)) ml_X12_369 mv_X12_keeps hM.k (Nat.le_of_ble_eq_true rfl) (n := 158) rfl (c_X12_keeps hM (by rw [fS.f (by decide)]; exact hu) h16 ?_)
          have kS : (mKeeps I4 r u 0) (r + 2) = I (r + 2) := by rw [mKeeps_k, fS.k]
          have eK : ∀ J : vI, J (r + 2) = I (r + 2) → (up2 (up2 (up2 (up2 (up2 (up2 (up2 (up2 (up2 (up2 J (r + 2) (113 + 2 * a) (I (r + 2) (113 + 2 * a) - clothP W (nI q) (nI a) sz wd (I (r + 2) 121) (perP (I (r + 2)) q))) (r + 2) (32 + 8 * nc) sz) (r + 2) (32 + 8 * nc + 1) wd) (r + 2) (32 + 8 * nc + 2) (nI a)) (r + 2) (32 + 8 * nc + 3) (nI b)) (r + 2) (32 + 8 * nc + 4) (nI q)) (r + 2) (32 + 8 * nc + 5) 2) (r + 2) (32 + 8 * nc + 6) 3) (r + 2) (32 + 8 * nc + 7) 0) (r + 2) 112 (nI nc + 1)) (r + 2) = sewK (I (r + 2)) nc a b q sz wd (clothP W (nI q) (nI a) sz wd (I (r + 2) 121) (perP (I (r + 2)) q)) := by
            intro J eJ
            unfold sewK
            rw [up2_rs, up2_rs, up2_rs, up2_rs, up2_rs, up2_rs, up2_rs, up2_rs, up2_rs, up2_rs, eJ, nI_A, nI_l1]
          refine Vw.aload_n (de_aload_0 (B 158 _ rfl)) 0 rfl (n := 159) rfl ?_
          refine Vw.getR (de_getfield (B 159 _ rfl) (B 160 _ rfl) (B 161 _ rfl)) fl_X12_24 rfl hM.k (MS_kept hM).1 (n := 162) rfl ?_
          refine Vw.bipush (v := 113) (de_bipush (B 162 _ rfl) (B 163 _ rfl)) rfl (n := 164) rfl ?_
          refine Vw.iconst (v := 2) (de_iconst_2 (B 164 _ rfl)) rfl (n := 165) rfl ?_
          refine Vw.iload_n (de_iload_1 (B 165 _ rfl)) 1 rfl (n := 166) rfl ?_
          refine Vw.imul (de_imul (B 166 _ rfl)) (n := 167) rfl ?_
          refine Vw.iadd (de_iadd (B 167 _ rfl)) (n := 168) rfl ?_
          refine Vw.dup2 (de_dup2 (B 168 _ rfl)) rfl rfl (n := 169) rfl ?_
          refine Vw.iald (de_iaload (B 169 _ rfl)) (MS_kept hM).2 (vIx_n (k := 113 + 2 * a) (by simp only [nI_A, nI_M, Int32.zero_add, Int32.add_zero] <;> rfl) (by omega)) (n := 170) rfl ?_
          refine Vw.iload (de_iload (B 170 _ rfl) (B 171 _ rfl)) 6 rfl (n := 172) rfl ?_
          refine Vw.isub (de_isub (B 172 _ rfl)) (n := 173) rfl ?_
          refine Vw.iast (de_iastore (B 173 _ rfl)) (MS_kept hM).2 (vIx_n (k := 113 + 2 * a) (by simp only [nI_A, nI_M, Int32.zero_add, Int32.add_zero] <;> rfl) (by omega)) (n := 174) rfl ?_
          refine Vw.bipush (v := 32) (de_bipush (B 174 _ rfl) (B 175 _ rfl)) rfl (n := 176) rfl ?_
          refine Vw.bipush (v := 8) (de_bipush (B 176 _ rfl) (B 177 _ rfl)) rfl (n := 178) rfl ?_
          refine Vw.iload (de_iload (B 178 _ rfl) (B 179 _ rfl)) 7 rfl (n := 180) rfl ?_
          refine Vw.imul (de_imul (B 180 _ rfl)) (n := 181) rfl ?_
          refine Vw.iadd (de_iadd (B 181 _ rfl)) (n := 182) rfl ?_
          refine Vw.istore (lv2 := [(0, _), (1, _), (2, _), (3, _), (4, _), (5, _), (6, _), (7, _), (8, _)]) (de_istore (B 182 _ rfl) (B 183 _ rfl)) (by decide) [1, 2, 3, 4, 5, 6, 7, 8, 0] rfl (n := 184) rfl ?_
          refine Vw.aload_n (de_aload_0 (B 184 _ rfl)) 0 rfl (n := 185) rfl ?_
          refine Vw.getR (de_getfield (B 185 _ rfl) (B 186 _ rfl) (B 187 _ rfl)) fl_X12_24 rfl hM.k (MS_kept hM).1 (n := 188) rfl ?_
          refine Vw.iload (de_iload (B 188 _ rfl) (B 189 _ rfl)) 8 rfl (n := 190) rfl ?_
          refine Vw.iload (de_iload (B 190 _ rfl) (B 191 _ rfl)) 4 rfl (n := 192) rfl ?_
          refine Vw.iast (de_iastore (B 192 _ rfl)) (MS_kept hM).2 (vIx_n (k := 32 + 8 * nc) (by simp only [nI_A, nI_M, Int32.zero_add, Int32.add_zero] <;> rfl) (by omega)) (n := 193) rfl ?_
          refine Vw.aload_n (de_aload_0 (B 193 _ rfl)) 0 rfl (n := 194) rfl ?_
          refine Vw.getR (de_getfield (B 194 _ rfl) (B 195 _ rfl) (B 196 _ rfl)) fl_X12_24 rfl hM.k (MS_kept hM).1 (n := 197) rfl ?_
          refine Vw.iload (de_iload (B 197 _ rfl) (B 198 _ rfl)) 8 rfl (n := 199) rfl ?_
          refine Vw.iconst (v := 1) (de_iconst_1 (B 199 _ rfl)) rfl (n := 200) rfl ?_
          refine Vw.iadd (de_iadd (B 200 _ rfl)) (n := 201) rfl ?_
          refine Vw.iload (de_iload (B 201 _ rfl) (B 202 _ rfl)) 5 rfl (n := 203) rfl ?_
          refine Vw.iast (de_iastore (B 203 _ rfl)) (MS_kept hM).2 (vIx_n (k := 32 + 8 * nc + 1) (by simp only [nI_A, nI_M, Int32.zero_add, Int32.add_zero] <;> rfl) (by omega)) (n := 204) rfl ?_
          refine Vw.aload_n (de_aload_0 (B 204 _ rfl)) 0 rfl (n := 205) rfl ?_
          refine Vw.getR (de_getfield (B 205 _ rfl) (B 206 _ rfl) (B 207 _ rfl)) fl_X12_24 rfl hM.k (MS_kept hM).1 (n := 208) rfl ?_
          refine Vw.iload (de_iload (B 208 _ rfl) (B 209 _ rfl)) 8 rfl (n := 210) rfl ?_
          refine Vw.iconst (v := 2) (de_iconst_2 (B 210 _ rfl)) rfl (n := 211) rfl ?_
          refine Vw.iadd (de_iadd (B 211 _ rfl)) (n := 212) rfl ?_
          refine Vw.iload_n (de_iload_1 (B 212 _ rfl)) 1 rfl (n := 213) rfl ?_
          refine Vw.iast (de_iastore (B 213 _ rfl)) (MS_kept hM).2 (vIx_n (k := 32 + 8 * nc + 2) (by simp only [nI_A, nI_M, Int32.zero_add, Int32.add_zero] <;> rfl) (by omega)) (n := 214) rfl ?_
          refine Vw.aload_n (de_aload_0 (B 214 _ rfl)) 0 rfl (n := 215) rfl ?_
          refine Vw.getR (de_getfield (B 215 _ rfl) (B 216 _ rfl) (B 217 _ rfl)) fl_X12_24 rfl hM.k (MS_kept hM).1 (n := 218) rfl ?_
          refine Vw.iload (de_iload (B 218 _ rfl) (B 219 _ rfl)) 8 rfl (n := 220) rfl ?_
          refine Vw.iconst (v := 3) (de_iconst_3 (B 220 _ rfl)) rfl (n := 221) rfl ?_
          refine Vw.iadd (de_iadd (B 221 _ rfl)) (n := 222) rfl ?_
          refine Vw.iload_n (de_iload_2 (B 222 _ rfl)) 2 rfl (n := 223) rfl ?_
          refine Vw.iast (de_iastore (B 223 _ rfl)) (MS_kept hM).2 (vIx_n (k := 32 + 8 * nc + 3) (by simp only [nI_A, nI_M, Int32.zero_add, Int32.add_zero] <;> rfl) (by omega)) (n := 224) rfl ?_
          refine Vw.aload_n (de_aload_0 (B 224 _ rfl)) 0 rfl (n := 225) rfl ?_
          refine Vw.getR (de_getfield (B 225 _ rfl) (B 226 _ rfl) (B 227 _ rfl)) fl_X12_24 rfl hM.k (MS_kept hM).1 (n := 228) rfl ?_
          refine Vw.iload (de_iload (B 228 _ rfl) (B 229 _ rfl)) 8 rfl (n := 230) rfl ?_
          refine Vw.iconst (v := 4) (de_iconst_4 (B 230 _ rfl)) rfl (n := 231) rfl ?_
          refine Vw.iadd (de_iadd (B 231 _ rfl)) (n := 232) rfl ?_
          refine Vw.iload_n (de_iload_3 (B 232 _ rfl)) 3 rfl (n := 233) rfl ?_
          refine Vw.iast (de_iastore (B 233 _ rfl)) (MS_kept hM).2 (vIx_n (k := 32 + 8 * nc + 4) (by simp only [nI_A, nI_M, Int32.zero_add, Int32.add_zero] <;> rfl) (by omega)) (n := 234) rfl ?_
          refine Vw.aload_n (de_aload_0 (B 234 _ rfl)) 0 rfl (n := 235) rfl ?_
          refine Vw.getR (de_getfield (B 235 _ rfl) (B 236 _ rfl) (B 237 _ rfl)) fl_X12_24 rfl hM.k (MS_kept hM).1 (n := 238) rfl ?_
          refine Vw.iload (de_iload (B 238 _ rfl) (B 239 _ rfl)) 8 rfl (n := 240) rfl ?_
          refine Vw.iconst (v := 5) (de_iconst_5 (B 240 _ rfl)) rfl (n := 241) rfl ?_
          refine Vw.iadd (de_iadd (B 241 _ rfl)) (n := 242) rfl ?_
          refine Vw.iconst (v := 2) (de_iconst_2 (B 242 _ rfl)) rfl (n := 243) rfl ?_
          refine Vw.iast (de_iastore (B 243 _ rfl)) (MS_kept hM).2 (vIx_n (k := 32 + 8 * nc + 5) (by simp only [nI_A, nI_M, Int32.zero_add, Int32.add_zero] <;> rfl) (by omega)) (n := 244) rfl ?_
          refine Vw.aload_n (de_aload_0 (B 244 _ rfl)) 0 rfl (n := 245) rfl ?_
          refine Vw.getR (de_getfield (B 245 _ rfl) (B 246 _ rfl) (B 247 _ rfl)) fl_X12_24 rfl hM.k (MS_kept hM).1 (n := 248) rfl ?_
          refine Vw.iload (de_iload (B 248 _ rfl) (B 249 _ rfl)) 8 rfl (n := 250) rfl ?_
          refine Vw.bipush (v := 6) (de_bipush (B 250 _ rfl) (B 251 _ rfl)) rfl (n := 252) rfl ?_
          refine Vw.iadd (de_iadd (B 252 _ rfl)) (n := 253) rfl ?_
          refine Vw.iconst (v := 3) (de_iconst_3 (B 253 _ rfl)) rfl (n := 254) rfl ?_
          refine Vw.iast (de_iastore (B 254 _ rfl)) (MS_kept hM).2 (vIx_n (k := 32 + 8 * nc + 6) (by simp only [nI_A, nI_M, Int32.zero_add, Int32.add_zero] <;> rfl) (by omega)) (n := 255) rfl ?_
          refine Vw.aload_n (de_aload_0 (B 255 _ rfl)) 0 rfl (n := 256) rfl ?_
          refine Vw.getR (de_getfield (B 256 _ rfl) (B 257 _ rfl) (B 258 _ rfl)) fl_X12_24 rfl hM.k (MS_kept hM).1 (n := 259) rfl ?_
          refine Vw.iload (de_iload (B 259 _ rfl) (B 260 _ rfl)) 8 rfl (n := 261) rfl ?_
          refine Vw.bipush (v := 7) (de_bipush (B 261 _ rfl) (B 262 _ rfl)) rfl (n := 263) rfl ?_
          refine Vw.iadd (de_iadd (B 263 _ rfl)) (n := 264) rfl ?_
          refine Vw.iconst (v := 0) (de_iconst_0 (B 264 _ rfl)) rfl (n := 265) rfl ?_
          refine Vw.iast (de_iastore (B 265 _ rfl)) (MS_kept hM).2 (vIx_n (k := 32 + 8 * nc + 7) (by simp only [nI_A, nI_M, Int32.zero_add, Int32.add_zero] <;> rfl) (by omega)) (n := 266) rfl ?_
          refine Vw.aload_n (de_aload_0 (B 266 _ rfl)) 0 rfl (n := 267) rfl ?_
          refine Vw.getR (de_getfield (B 267 _ rfl) (B 268 _ rfl) (B 269 _ rfl)) fl_X12_24 rfl hM.k (MS_kept hM).1 (n := 270) rfl ?_
          refine Vw.bipush (v := 112) (de_bipush (B 270 _ rfl) (B 271 _ rfl)) rfl (n := 272) rfl ?_
          refine Vw.dup2 (de_dup2 (B 272 _ rfl)) rfl rfl (n := 273) rfl ?_
          refine Vw.iald (de_iaload (B 273 _ rfl)) (MS_kept hM).2 (j := 112) ⟨rfl, by decide, by decide⟩ (n := 274) rfl ?_
          rw [up2_k (show 112 ≠ 32 + 8 * nc + 7 by omega), up2_k (show 112 ≠ 32 + 8 * nc + 6 by omega), up2_k (show 112 ≠ 32 + 8 * nc + 5 by omega), up2_k (show 112 ≠ 32 + 8 * nc + 4 by omega), up2_k (show 112 ≠ 32 + 8 * nc + 3 by omega), up2_k (show 112 ≠ 32 + 8 * nc + 2 by omega), up2_k (show 112 ≠ 32 + 8 * nc + 1 by omega), up2_k (show 112 ≠ 32 + 8 * nc by omega), up2_k (show 112 ≠ 113 + 2 * a by omega), kS, e112]
          refine Vw.iconst (v := 1) (de_iconst_1 (B 274 _ rfl)) rfl (n := 275) rfl ?_
          skip
          refine Vw.iadd (de_iadd (B 275 _ rfl)) (n := 276) rfl ?_
          refine Vw.iast (de_iastore (B 276 _ rfl)) (MS_kept hM).2 (j := 112) ⟨rfl, by decide, by decide⟩ (n := 277) rfl ?_
          refine Vw.aload_n (de_aload_0 (B 277 _ rfl)) 0 rfl (n := 278) rfl ?_
          refine Vw.iload (de_iload (B 278 _ rfl) (B 279 _ rfl)) 7 rfl (n := 280) rfl ?_
          refine Vw.ivi1 (mi' := mX12_good) (de_invokevirtual (B 280 _ rfl) (B 281 _ rfl) (B 282 _ rfl)) ml_X12_14 mv_X12_good hM.k (Nat.le_of_ble_eq_true rfl) (n := 283) rfl (c_X12_good hM ?_)
          exact Vw.iret (de_ireturn (B 283 _ rfl)) rfl ⟨_, rfl, (h a b q _ ha hb hq rfl rfl rfl c_21 ⟨c_75, c_84, c_104, c_120⟩ hn10 (FkU (FkU (FkU (FkU (FkU (FkU (FkU (FkU (FkU (FkU (mKeeps_fr fS))))))))))) (eK _ kS))⟩
        have hn10 : nc = 10 := nI_inj (by omega) (by decide) c_143
        refine Vw.aload_n (de_aload_0 (B 146 _ rfl)) 0 rfl (n := 147) rfl ?_
        refine Vw.bipush (v := -5) (de_bipush (B 147 _ rfl) (B 148 _ rfl)) rfl (n := 149) rfl ?_
        refine Vw.ivi1 (mi' := mX12_refuses) (de_invokevirtual (B 149 _ rfl) (B 150 _ rfl) (B 151 _ rfl)) ml_X12_115 mv_X12_refuses hM.k (Nat.le_of_ble_eq_true rfl) (n := 152) rfl (c_X12_refuses hM (j := 5) ⟨rfl, by decide, by decide⟩ ?_)
        exact Vw.iret (de_ireturn (B 152 _ rfl)) rfl ⟨_, rfl, (h4 a b q I4 ha hb hq rfl rfl rfl c_21 ⟨c_75, c_84, c_104, c_120⟩ hn10 ((f2.trans f3).trans f4))⟩
      refine Vw.aload_n (de_aload_0 (B 123 _ rfl)) 0 rfl (n := 124) rfl ?_
      refine Vw.bipush (v := -3) (de_bipush (B 124 _ rfl) (B 125 _ rfl)) rfl (n := 126) rfl ?_
      refine Vw.ivi1 (mi' := mX12_refuses) (de_invokevirtual (B 126 _ rfl) (B 127 _ rfl) (B 128 _ rfl)) ml_X12_115 mv_X12_refuses hM.k (Nat.le_of_ble_eq_true rfl) (n := 129) rfl (c_X12_refuses hM (j := 3) ⟨rfl, by decide, by decide⟩ ?_)
      exact Vw.iret (de_ireturn (B 129 _ rfl)) rfl ⟨_, rfl, (by first | exact h3 a b q I3 ha hb hq rfl rfl rfl c_21 (fun z => z.1 c_75) (f2.trans f3) | exact h3 a b q I3 ha hb hq rfl rfl rfl c_21 (fun z => z.2.1 c_84) (f2.trans f3) | exact h3 a b q I4 ha hb hq rfl rfl rfl c_21 (fun z => c_104 z.2.2.1) ((f2.trans f3).trans f4) | exact h3 a b q I4 ha hb hq rfl rfl rfl c_21 (fun z => c_120 z.2.2.2) ((f2.trans f3).trans f4))⟩
    refine Vw.aload_n (de_aload_0 (B 38 _ rfl)) 0 rfl (n := 39) rfl ?_
    refine Vw.bipush (v := -2) (de_bipush (B 39 _ rfl) (B 40 _ rfl)) rfl (n := 41) rfl ?_
    refine Vw.ivi1 (mi' := mX12_refuses) (de_invokevirtual (B 41 _ rfl) (B 42 _ rfl) (B 43 _ rfl)) ml_X12_115 mv_X12_refuses hM.k (Nat.le_of_ble_eq_true rfl) (n := 44) rfl (c_X12_refuses hM (j := 2) ⟨rfl, by decide, by decide⟩ ?_)
    exact Vw.iret (de_ireturn (B 44 _ rfl)) rfl ⟨_, rfl, (h2 c_4 c_11 c_21 c_35)⟩
  refine Vw.aload_n (de_aload_0 (B 24 _ rfl)) 0 rfl (n := 25) rfl ?_
  refine Vw.iconst (v := -1) (de_iconst_m1 (B 25 _ rfl)) rfl (n := 26) rfl ?_
  refine Vw.ivi1 (mi' := mX12_refuses) (de_invokevirtual (B 26 _ rfl) (B 27 _ rfl) (B 28 _ rfl)) ml_X12_115 mv_X12_refuses hM.k (Nat.le_of_ble_eq_true rfl) (n := 29) rfl (c_X12_refuses hM (j := 1) ⟨rfl, by decide, by decide⟩ ?_)
  exact Vw.iret (de_ireturn (B 29 _ rfl)) rfl ⟨_, rfl, (h1 (by first | exact Or.inl c_4 | exact Or.inr (Or.inl c_11) | exact Or.inr (Or.inr c_21)))⟩
