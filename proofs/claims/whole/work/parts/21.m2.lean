/-! The reference's object at r: its arrays lie behind it -/
def mdA : List (Nat × Nat × Nat × Nat) := [(1, 1, 100, 7), (2, 2, 100, 5753), (3, 3, 100, 11506), (4, 4, 101, 2), (5, 5, 100, 244), (7, 6, 102, 135), (9, 7, 102, 400), (10, 8, 100, 5), (13, 9, 100, 401), (14, 10, 100, 401), (15, 11, 100, 401), (24, 12, 100, 8), (25, 13, 100, 3), (30, 14, 100, 1968), (31, 15, 100, 1968), (33, 16, 103, 201), (34, 17, 103, 201), (35, 18, 100, 128), (36, 19, 100, 128), (37, 20, 100, 9000), (38, 21, 100, 25), (39, 22, 100, 25), (40, 23, 100, 25), (41, 24, 100, 26), (51, 25, 103, 2), (52, 26, 100, 8), (53, 27, 100, 4)]
def MS (S : vS) (r : Nat) : Prop := S.1 r = (12, 0) ∧ ∀ q ∈ mdA, S.2.1 r q.1 = some (r + q.2.1) ∧ S.1 (r + q.2.1) = q.2.2
theorem MS.k {S : vS} {r : Nat} (h : MS S r) : (S.1 r).1 = 12 := by rw [h.1]
theorem MS_refused {S : vS} {r : Nat} (h : MS S r) : S.2.1 r 1 = some (r + 1) ∧ S.1 (r + 1) = (100, 7) := h.2 (1, 1, 100, 7) (by decide)
theorem MS_kept {S : vS} {r : Nat} (h : MS S r) : S.2.1 r 2 = some (r + 2) ∧ S.1 (r + 2) = (100, 5753) := h.2 (2, 2, 100, 5753) (by decide)
theorem MS_images {S : vS} {r : Nat} (h : MS S r) : S.2.1 r 3 = some (r + 3) ∧ S.1 (r + 3) = (100, 11506) := h.2 (3, 3, 100, 11506) (by decide)
theorem MS_hasImage {S : vS} {r : Nat} (h : MS S r) : S.2.1 r 4 = some (r + 4) ∧ S.1 (r + 4) = (101, 2) := h.2 (4, 4, 101, 2) (by decide)
theorem MS_aside {S : vS} {r : Nat} (h : MS S r) : S.2.1 r 5 = some (r + 5) ∧ S.1 (r + 5) = (100, 244) := h.2 (5, 5, 100, 244) (by decide)
theorem MS_words {S : vS} {r : Nat} (h : MS S r) : S.2.1 r 7 = some (r + 6) ∧ S.1 (r + 6) = (102, 135) := h.2 (7, 6, 102, 135) (by decide)
theorem MS_tape {S : vS} {r : Nat} (h : MS S r) : S.2.1 r 9 = some (r + 7) ∧ S.1 (r + 7) = (102, 400) := h.2 (9, 7, 102, 400) (by decide)
theorem MS_five {S : vS} {r : Nat} (h : MS S r) : S.2.1 r 10 = some (r + 8) ∧ S.1 (r + 8) = (100, 5) := h.2 (10, 8, 100, 5) (by decide)
theorem MS_code {S : vS} {r : Nat} (h : MS S r) : S.2.1 r 13 = some (r + 9) ∧ S.1 (r + 9) = (100, 401) := h.2 (13, 9, 100, 401) (by decide)
theorem MS_value {S : vS} {r : Nat} (h : MS S r) : S.2.1 r 14 = some (r + 10) ∧ S.1 (r + 10) = (100, 401) := h.2 (14, 10, 100, 401) (by decide)
theorem MS_placed {S : vS} {r : Nat} (h : MS S r) : S.2.1 r 15 = some (r + 11) ∧ S.1 (r + 11) = (100, 401) := h.2 (15, 11, 100, 401) (by decide)
theorem MS_asked {S : vS} {r : Nat} (h : MS S r) : S.2.1 r 24 = some (r + 12) ∧ S.1 (r + 12) = (100, 8) := h.2 (24, 12, 100, 8) (by decide)
theorem MS_orderValues {S : vS} {r : Nat} (h : MS S r) : S.2.1 r 25 = some (r + 13) ∧ S.1 (r + 13) = (100, 3) := h.2 (25, 13, 100, 3) (by decide)
theorem MS_left {S : vS} {r : Nat} (h : MS S r) : S.2.1 r 30 = some (r + 14) ∧ S.1 (r + 14) = (100, 1968) := h.2 (30, 14, 100, 1968) (by decide)
theorem MS_leftAhead {S : vS} {r : Nat} (h : MS S r) : S.2.1 r 31 = some (r + 15) ∧ S.1 (r + 15) = (100, 1968) := h.2 (31, 15, 100, 1968) (by decide)
theorem MS_now0 {S : vS} {r : Nat} (h : MS S r) : S.2.1 r 33 = some (r + 16) ∧ S.1 (r + 16) = (103, 201) := h.2 (33, 16, 103, 201) (by decide)
theorem MS_then0 {S : vS} {r : Nat} (h : MS S r) : S.2.1 r 34 = some (r + 17) ∧ S.1 (r + 17) = (103, 201) := h.2 (34, 17, 103, 201) (by decide)
theorem MS_optionCloth {S : vS} {r : Nat} (h : MS S r) : S.2.1 r 35 = some (r + 18) ∧ S.1 (r + 18) = (100, 128) := h.2 (35, 18, 100, 128) (by decide)
theorem MS_optionPays {S : vS} {r : Nat} (h : MS S r) : S.2.1 r 36 = some (r + 19) ∧ S.1 (r + 19) = (100, 128) := h.2 (36, 19, 100, 128) (by decide)
theorem MS_most {S : vS} {r : Nat} (h : MS S r) : S.2.1 r 37 = some (r + 20) ∧ S.1 (r + 20) = (100, 9000) := h.2 (37, 20, 100, 9000) (by decide)
theorem MS_willLong {S : vS} {r : Nat} (h : MS S r) : S.2.1 r 38 = some (r + 21) ∧ S.1 (r + 21) = (100, 25) := h.2 (38, 21, 100, 25) (by decide)
theorem MS_willWide {S : vS} {r : Nat} (h : MS S r) : S.2.1 r 39 = some (r + 22) ∧ S.1 (r + 22) = (100, 25) := h.2 (39, 22, 100, 25) (by decide)
theorem MS_willAge {S : vS} {r : Nat} (h : MS S r) : S.2.1 r 40 = some (r + 23) ∧ S.1 (r + 23) = (100, 25) := h.2 (40, 23, 100, 25) (by decide)
theorem MS_least {S : vS} {r : Nat} (h : MS S r) : S.2.1 r 41 = some (r + 24) ∧ S.1 (r + 24) = (100, 26) := h.2 (41, 24, 100, 26) (by decide)
theorem MS_sums {S : vS} {r : Nat} (h : MS S r) : S.2.1 r 51 = some (r + 25) ∧ S.1 (r + 25) = (103, 2) := h.2 (51, 25, 103, 2) (by decide)
theorem MS_drawnWide {S : vS} {r : Nat} (h : MS S r) : S.2.1 r 52 = some (r + 26) ∧ S.1 (r + 26) = (100, 8) := h.2 (52, 26, 100, 8) (by decide)
theorem MS_drawnGot {S : vS} {r : Nat} (h : MS S r) : S.2.1 r 53 = some (r + 27) ∧ S.1 (r + 27) = (100, 4) := h.2 (53, 27, 100, 4) (by decide)
theorem up2_a {α : Type} {f : Nat → Nat → α} {a k b j : Nat} {v : α} (h : b ≠ a) : up2 f a k v b j = f b j := if_neg (fun q => h q.1)
theorem up2_k {α : Type} {f : Nat → Nat → α} {a k b j : Nat} {v : α} (h : j ≠ k) : up2 f a k v b j = f b j := if_neg (fun q => h q.2)
theorem zLie_z (v lo hi : Int32) : narrow .boolean (.int (zLie v lo hi)) = .int (zLie v lo hi) := by unfold zLie; split; rfl; split <;> rfl
def mRef (I : vI) (r : Nat) (k : Int32) (j : Nat) : vI := up2 (up2 I r 0 k) (r + 1) j (I (r + 1) j + 1)
def mGood (I : vI) (r : Nat) : vI := up2 I r 0 0
def mSet (I : vI) (r : Nat) : vI := up2 (up2 I r 32 0) r 0 0
theorem c_X12_refuses {d : Nat} {S : vS} {I : vI} {L : vL} {Q : Int32 → vS → vI → vL → Prop} {r : Nat} {k : Int32} {j : Nat} (hM : MS S r) (hk : vIx (-k) j 7) (h : Q k S (mRef I r k j) L) : Vc mX12_refuses d 0 0 [.ref r, .int k] S I L (ViQ Q) := by
  refine Vc.of rfl (Nat.le_of_ble_eq_true rfl) ?_
  have B := bs_X12_refuses
  show Vw mX12_refuses d 0 0 0 0 (ViQ Q) 0 [(0, .ref r), (1, .int k)] [] S I L
  refine Vw.aload_n (de_aload_0 (B 0 _ rfl)) 0 rfl (n := 1) rfl ?_
  refine Vw.iload_n (de_iload_1 (B 1 _ rfl)) 1 rfl (n := 2) rfl ?_
  refine Vw.putI (de_putfield (B 2 _ rfl) (B 3 _ rfl) (B 4 _ rfl)) fl_X12_3 hM.k rfl rfl (n := 5) rfl ?_
  refine Vw.aload_n (de_aload_0 (B 5 _ rfl)) 0 rfl (n := 6) rfl ?_
  refine Vw.getR (de_getfield (B 6 _ rfl) (B 7 _ rfl) (B 8 _ rfl)) fl_X12_7 rfl hM.k (MS_refused hM).1 (n := 9) rfl ?_
  refine Vw.iload_n (de_iload_1 (B 9 _ rfl)) 1 rfl (n := 10) rfl ?_
  refine Vw.ineg (de_ineg (B 10 _ rfl)) (n := 11) rfl ?_
  refine Vw.dup2 (de_dup2 (B 11 _ rfl)) rfl rfl (n := 12) rfl ?_
  refine Vw.iald (de_iaload (B 12 _ rfl)) (MS_refused hM).2 hk (n := 13) rfl ?_
  refine Vw.iconst (v := 1) (de_iconst_1 (B 13 _ rfl)) rfl (n := 14) rfl ?_
  refine Vw.iadd (de_iadd (B 14 _ rfl)) (n := 15) rfl ?_
  refine Vw.iast (de_iastore (B 15 _ rfl)) (MS_refused hM).2 hk (n := 16) rfl ?_
  refine Vw.iload_n (de_iload_1 (B 16 _ rfl)) 1 rfl (n := 17) rfl ?_
  exact Vw.iret (de_ireturn (B 17 _ rfl)) rfl ⟨_, rfl, (by simpa (disch := omega) only [mRef, up2_a, up2_k, up2_s, ] using h)⟩
theorem c_X12_good {d : Nat} {S : vS} {I : vI} {L : vL} {Q : Int32 → vS → vI → vL → Prop} {r : Nat} {v : Int32}  (hM : MS S r)  (h : Q v S (mGood I r) L) : Vc mX12_good d 0 0 [.ref r, .int v] S I L (ViQ Q) := by
  refine Vc.of rfl (Nat.le_of_ble_eq_true rfl) ?_
  have B := bs_X12_good
  show Vw mX12_good d 0 0 0 0 (ViQ Q) 0 [(0, .ref r), (1, .int v)] [] S I L
  refine Vw.aload_n (de_aload_0 (B 0 _ rfl)) 0 rfl (n := 1) rfl ?_
  refine Vw.iconst (v := 0) (de_iconst_0 (B 1 _ rfl)) rfl (n := 2) rfl ?_
  refine Vw.putI (de_putfield (B 2 _ rfl) (B 3 _ rfl) (B 4 _ rfl)) fl_X12_3 hM.k rfl rfl (n := 5) rfl ?_
  refine Vw.iload_n (de_iload_1 (B 5 _ rfl)) 1 rfl (n := 6) rfl ?_
  exact Vw.iret (de_ireturn (B 6 _ rfl)) rfl ⟨_, rfl, h⟩
theorem c_X12_settled {d : Nat} {S : vS} {I : vI} {L : vL} {Q : Int32 → vS → vI → vL → Prop} {r : Nat} {v : Int32}  (hM : MS S r)  (h : Q v S (mSet I r) L) : Vc mX12_settled (d + 1) 0 0 [.ref r, .int v] S I L (ViQ Q) := by
  refine Vc.of rfl (Nat.le_of_ble_eq_true rfl) ?_
  have B := bs_X12_settled
  show Vw mX12_settled (d + 1) 0 0 0 0 (ViQ Q) 0 [(0, .ref r), (1, .int v)] [] S I L
  refine Vw.aload_n (de_aload_0 (B 0 _ rfl)) 0 rfl (n := 1) rfl ?_
  refine Vw.iconst (v := 0) (de_iconst_0 (B 1 _ rfl)) rfl (n := 2) rfl ?_
  refine Vw.putI (de_putfield (B 2 _ rfl) (B 3 _ rfl) (B 4 _ rfl)) fl_X12_11 hM.k rfl rfl (n := 5) rfl ?_
  refine Vw.aload_n (de_aload_0 (B 5 _ rfl)) 0 rfl (n := 6) rfl ?_
  refine Vw.iload_n (de_iload_1 (B 6 _ rfl)) 1 rfl (n := 7) rfl ?_
  refine Vw.ivi1 (mi' := mX12_good) (de_invokevirtual (B 7 _ rfl) (B 8 _ rfl) (B 9 _ rfl)) ml_X12_14 mv_X12_good hM.k (Nat.le_of_ble_eq_true rfl) (n := 10) rfl (c_X12_good hM ?_)
  exact Vw.iret (de_ireturn (B 10 _ rfl)) rfl ⟨_, rfl, h⟩
theorem c_X12_people {d : Nat} {S : vS} {I : vI} {L : vL} {Q : Int32 → vS → vI → vL → Prop} {r : Nat}   (hM : MS S r)  (h : Q (I (r + 2) 142) S I L) : Vc mX12_people d 0 0 [.ref r] S I L (ViQ Q) := by
  refine Vc.of rfl (Nat.le_of_ble_eq_true rfl) ?_
  have B := bs_X12_people
  show Vw mX12_people d 0 0 0 0 (ViQ Q) 0 [(0, .ref r)] [] S I L
  refine Vw.aload_n (de_aload_0 (B 0 _ rfl)) 0 rfl (n := 1) rfl ?_
  refine Vw.getR (de_getfield (B 1 _ rfl) (B 2 _ rfl) (B 3 _ rfl)) fl_X12_24 rfl hM.k (MS_kept hM).1 (n := 4) rfl ?_
  refine Vw.sipush (v := 142) (de_sipush (B 4 _ rfl) (B 5 _ rfl) (B 6 _ rfl)) rfl (n := 7) rfl ?_
  refine Vw.iald (de_iaload (B 7 _ rfl)) (MS_kept hM).2 (j := 142) ⟨rfl, by decide, by decide⟩ (n := 8) rfl ?_
  exact Vw.iret (de_ireturn (B 8 _ rfl)) rfl ⟨_, rfl, h⟩
theorem c_X12_isPerson {d : Nat} {S : vS} {I : vI} {L : vL} {Q : Int32 → vS → vI → vL → Prop} {r : Nat} {p : Int32}  (hM : MS S r)  (h : Q (zLie p 0 (I (r + 2) 142 - 1)) S I L) : Vc mX12_isPerson (d + 1) 0 0 [.ref r, .int p] S I L (ViQ Q) := by
  refine Vc.of rfl (Nat.le_of_ble_eq_true rfl) ?_
  have B := bs_X12_isPerson
  show Vw mX12_isPerson (d + 1) 0 0 0 0 (ViQ Q) 0 [(0, .ref r), (1, .int p)] [] S I L
  refine Vw.iload_n (de_iload_1 (B 0 _ rfl)) 1 rfl (n := 1) rfl ?_
  refine Vw.iconst (v := 0) (de_iconst_0 (B 1 _ rfl)) rfl (n := 2) rfl ?_
  refine Vw.aload_n (de_aload_0 (B 2 _ rfl)) 0 rfl (n := 3) rfl ?_
  refine Vw.ivi0 (mi' := mX12_people) (de_invokevirtual (B 3 _ rfl) (B 4 _ rfl) (B 5 _ rfl)) ml_X12_121 mv_X12_people hM.k (Nat.le_of_ble_eq_true rfl) (n := 6) rfl (c_X12_people hM ?_)
  refine Vw.iconst (v := 1) (de_iconst_1 (B 6 _ rfl)) rfl (n := 7) rfl ?_
  refine Vw.isub (de_isub (B 7 _ rfl)) (n := 8) rfl ?_
  refine Vw.isi3 (mi' := mX12_lies) (de_invokestatic (B 8 _ rfl) (B 9 _ rfl) (B 10 _ rfl)) ml_X12_111 ms_X12_lies (Nat.le_of_ble_eq_true rfl) (n := 11) rfl (c_X12_lies ?_)
  exact Vw.zret (de_ireturn (B 11 _ rfl)) rfl (zLie_z _ _ _) ⟨_, rfl, h⟩
theorem c_X12_isTailor {d : Nat} {S : vS} {I : vI} {L : vL} {Q : Int32 → vS → vI → vL → Prop} {t : Int32}   (h : Q (zLie t 0 3) S I L) : Vc mX12_isTailor (d + 1) 0 0 [.int t] S I L (ViQ Q) := by
  refine Vc.of rfl (Nat.le_of_ble_eq_true rfl) ?_
  have B := bs_X12_isTailor
  show Vw mX12_isTailor (d + 1) 0 0 0 0 (ViQ Q) 0 [(0, .int t)] [] S I L
  refine Vw.iload_n (de_iload_0 (B 0 _ rfl)) 0 rfl (n := 1) rfl ?_
  refine Vw.iconst (v := 0) (de_iconst_0 (B 1 _ rfl)) rfl (n := 2) rfl ?_
  refine Vw.iconst (v := 3) (de_iconst_3 (B 2 _ rfl)) rfl (n := 3) rfl ?_
  refine Vw.isi3 (mi' := mX12_lies) (de_invokestatic (B 3 _ rfl) (B 4 _ rfl) (B 5 _ rfl)) ml_X12_111 ms_X12_lies (Nat.le_of_ble_eq_true rfl) (n := 6) rfl (c_X12_lies ?_)
  exact Vw.zret (de_ireturn (B 6 _ rfl)) rfl (zLie_z _ _ _) ⟨_, rfl, h⟩
theorem c_X12_isCoat {d : Nat} {S : vS} {I : vI} {L : vL} {Q : Int32 → vS → vI → vL → Prop} {r : Nat} {c : Int32}  (hM : MS S r)  (h : Q (zLie c 0 (I (r + 2) 112 - 1)) S I L) : Vc mX12_isCoat (d + 1) 0 0 [.ref r, .int c] S I L (ViQ Q) := by
  refine Vc.of rfl (Nat.le_of_ble_eq_true rfl) ?_
  have B := bs_X12_isCoat
  show Vw mX12_isCoat (d + 1) 0 0 0 0 (ViQ Q) 0 [(0, .ref r), (1, .int c)] [] S I L
  refine Vw.iload_n (de_iload_1 (B 0 _ rfl)) 1 rfl (n := 1) rfl ?_
  refine Vw.iconst (v := 0) (de_iconst_0 (B 1 _ rfl)) rfl (n := 2) rfl ?_
  refine Vw.aload_n (de_aload_0 (B 2 _ rfl)) 0 rfl (n := 3) rfl ?_
  refine Vw.getR (de_getfield (B 3 _ rfl) (B 4 _ rfl) (B 5 _ rfl)) fl_X12_24 rfl hM.k (MS_kept hM).1 (n := 6) rfl ?_
  refine Vw.bipush (v := 112) (de_bipush (B 6 _ rfl) (B 7 _ rfl)) rfl (n := 8) rfl ?_
  refine Vw.iald (de_iaload (B 8 _ rfl)) (MS_kept hM).2 (j := 112) ⟨rfl, by decide, by decide⟩ (n := 9) rfl ?_
  refine Vw.iconst (v := 1) (de_iconst_1 (B 9 _ rfl)) rfl (n := 10) rfl ?_
  refine Vw.isub (de_isub (B 10 _ rfl)) (n := 11) rfl ?_
  refine Vw.isi3 (mi' := mX12_lies) (de_invokestatic (B 11 _ rfl) (B 12 _ rfl) (B 13 _ rfl)) ml_X12_111 ms_X12_lies (Nat.le_of_ble_eq_true rfl) (n := 14) rfl (c_X12_lies ?_)
  exact Vw.zret (de_ireturn (B 14 _ rfl)) rfl (zLie_z _ _ _) ⟨_, rfl, h⟩
theorem c_X12_fact {d : Nat} {S : vS} {I : vI} {L : vL} {Q : Int32 → vS → vI → vL → Prop} {r : Nat} {p : Int32} {w : Int32} {j : Nat} (hM : MS S r) (hj : vIx (0 + 4 * p + w) j 5753) (h : Q (I (r + 2) j) S I L) : Vc mX12_fact d 0 0 [.ref r, .int p, .int w] S I L (ViQ Q) := by
  refine Vc.of rfl (Nat.le_of_ble_eq_true rfl) ?_
  have B := bs_X12_fact
  show Vw mX12_fact d 0 0 0 0 (ViQ Q) 0 [(0, .ref r), (1, .int p), (2, .int w)] [] S I L
  refine Vw.aload_n (de_aload_0 (B 0 _ rfl)) 0 rfl (n := 1) rfl ?_
  refine Vw.getR (de_getfield (B 1 _ rfl) (B 2 _ rfl) (B 3 _ rfl)) fl_X12_24 rfl hM.k (MS_kept hM).1 (n := 4) rfl ?_
  refine Vw.iconst (v := 0) (de_iconst_0 (B 4 _ rfl)) rfl (n := 5) rfl ?_
  refine Vw.iconst (v := 4) (de_iconst_4 (B 5 _ rfl)) rfl (n := 6) rfl ?_
  refine Vw.iload_n (de_iload_1 (B 6 _ rfl)) 1 rfl (n := 7) rfl ?_
  refine Vw.imul (de_imul (B 7 _ rfl)) (n := 8) rfl ?_
  refine Vw.iadd (de_iadd (B 8 _ rfl)) (n := 9) rfl ?_
  refine Vw.iload_n (de_iload_2 (B 9 _ rfl)) 2 rfl (n := 10) rfl ?_
  refine Vw.iadd (de_iadd (B 10 _ rfl)) (n := 11) rfl ?_
  refine Vw.iald (de_iaload (B 11 _ rfl)) (MS_kept hM).2 hj (n := 12) rfl ?_
  exact Vw.iret (de_ireturn (B 12 _ rfl)) rfl ⟨_, rfl, h⟩
theorem c_X12_part {d : Nat} {S : vS} {I : vI} {L : vL} {Q : Int32 → vS → vI → vL → Prop} {r : Nat} {c : Int32} {w : Int32} {j : Nat} (hM : MS S r) (hj : vIx (32 + 8 * c + w) j 5753) (h : Q (I (r + 2) j) S I L) : Vc mX12_part d 0 0 [.ref r, .int c, .int w] S I L (ViQ Q) := by
  refine Vc.of rfl (Nat.le_of_ble_eq_true rfl) ?_
  have B := bs_X12_part
  show Vw mX12_part d 0 0 0 0 (ViQ Q) 0 [(0, .ref r), (1, .int c), (2, .int w)] [] S I L
  refine Vw.aload_n (de_aload_0 (B 0 _ rfl)) 0 rfl (n := 1) rfl ?_
  refine Vw.getR (de_getfield (B 1 _ rfl) (B 2 _ rfl) (B 3 _ rfl)) fl_X12_24 rfl hM.k (MS_kept hM).1 (n := 4) rfl ?_
  refine Vw.bipush (v := 32) (de_bipush (B 4 _ rfl) (B 5 _ rfl)) rfl (n := 6) rfl ?_
  refine Vw.bipush (v := 8) (de_bipush (B 6 _ rfl) (B 7 _ rfl)) rfl (n := 8) rfl ?_
  refine Vw.iload_n (de_iload_1 (B 8 _ rfl)) 1 rfl (n := 9) rfl ?_
  refine Vw.imul (de_imul (B 9 _ rfl)) (n := 10) rfl ?_
  refine Vw.iadd (de_iadd (B 10 _ rfl)) (n := 11) rfl ?_
  refine Vw.iload_n (de_iload_2 (B 11 _ rfl)) 2 rfl (n := 12) rfl ?_
  refine Vw.iadd (de_iadd (B 12 _ rfl)) (n := 13) rfl ?_
  refine Vw.iald (de_iaload (B 13 _ rfl)) (MS_kept hM).2 hj (n := 14) rfl ?_
  exact Vw.iret (de_ireturn (B 14 _ rfl)) rfl ⟨_, rfl, h⟩
