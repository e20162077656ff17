/-! A part of a row filled -/
theorem c_J7_rangeCheck_23922 {d : Nat} {S : vS} {I : vI} {L : vL} {Q : vS → vI → vL → Prop} {n a e : Nat} (h1 : a ≤ e) (h2 : e ≤ n) (hn : n ≤ 100000) (h : Q S I L) : Vc mJ7_rangeCheck_23922 d 0 0 [.int (nI n), .int (nI a), .int (nI e)] S I L (VvQ Q) := by
  refine Vc.of rfl (Nat.le_of_ble_eq_true rfl) ?_
  have B := bs_J7_rangeCheck_23922
  show Vw mJ7_rangeCheck_23922 d 0 0 0 0 (VvQ Q) 0 [(0, .int (nI n)), (1, .int (nI a)), (2, .int (nI e))] [] S I L
  refine Vw.iload_n (de_iload_1 (B 0 _ rfl)) 1 rfl (n := 1) rfl ?_
  refine Vw.iload_n (de_iload_2 (B 1 _ rfl)) 2 rfl (n := 2) rfl ?_
  refine Vw.icmp_le (tgt := 46) (n := 5) (de_icmp_le (B 2 _ rfl) (B 3 _ rfl) (B 4 _ rfl)) rfl rfl (fun c_2 => ?_) (fun c_2 => ?_)
  · refine Vw.iload_n (de_iload_1 (B 46 _ rfl)) 1 rfl (n := 47) rfl ?_
    refine Vw.if_ge (tgt := 59) (n := 50) (de_if_ge (B 47 _ rfl) (B 48 _ rfl) (B 49 _ rfl)) rfl rfl (fun c_47 => ?_) (fun c_47 => ?_)
    · refine Vw.iload_n (de_iload_2 (B 59 _ rfl)) 2 rfl (n := 60) rfl ?_
      refine Vw.iload_n (de_iload_0 (B 60 _ rfl)) 0 rfl (n := 61) rfl ?_
      refine Vw.icmp_le (tgt := 73) (n := 64) (de_icmp_le (B 61 _ rfl) (B 62 _ rfl) (B 63 _ rfl)) rfl rfl (fun c_61 => ?_) (fun c_61 => ?_)
      · exact Vw.vret (de_return_ (B 73 _ rfl)) rfl ⟨rfl, h⟩
      exact absurd ((nI_leI (a := e) (b := n) (by omega) (by omega)).mpr (by omega)) c_61
    exact absurd ((nI_leI (a := 0) (b := a) (by omega) (by omega)).mpr (by omega)) c_47
  exact absurd ((nI_leI (a := a) (b := e) (by omega) (by omega)).mpr (by omega)) c_2
theorem c_J7_fill_fda19 {d : Nat} {S : vS} {I : vI} {L : vL} {Q : vS → vI → vL → Prop} {b n a e : Nat} {v : Int32} (hb : S.1 b = (100, n)) (h1 : a ≤ e) (h2 : e ≤ n) (hn : n ≤ 100000) (h : ∀ J, Oa b I J → (∀ k, a ≤ k → k < e → J b k = v) → (∀ k, ¬ (a ≤ k ∧ k < e) → J b k = I b k) → Q S J L) : Vc mJ7_fill_fda19 (d + 1) 0 0 [.ref b, .int (nI a), .int (nI e), .int v] S I L (VvQ Q) := by
  refine Vc.of rfl (Nat.le_of_ble_eq_true rfl) ?_
  have B := bs_J7_fill_fda19
  show Vw mJ7_fill_fda19 (d + 1) 0 0 0 0 (VvQ Q) 0 [(0, .ref b), (1, .int (nI a)), (2, .int (nI e)), (3, .int v)] [] S I L
  have loop : ∀ k, k ≤ e → a ≤ k → ∀ J : vI, Oa b I J → (∀ i, a ≤ i → i < k → J b i = v) → (∀ i, ¬ (a ≤ i ∧ i < e) → J b i = I b i) → Vw mJ7_fill_fda19 (d + 1) 0 0 0 0 (VvQ Q) 10 [(0, .ref b), (1, .int (nI a)), (2, .int (nI e)), (3, .int v), (4, .int (nI k))] [] S J L := by
    refine loop_up (fun k hk ih => ?_)
    intro hak J fJ eJ oJ
    refine Vw.iload (de_iload (B 10 _ rfl) (B 11 _ rfl)) 4 rfl (n := 12) rfl ?_
    refine Vw.iload_n (de_iload_2 (B 12 _ rfl)) 2 rfl (n := 13) rfl ?_
    refine Vw.icmp_ge (tgt := 27) (n := 16) (de_icmp_ge (B 13 _ rfl) (B 14 _ rfl) (B 15 _ rfl)) rfl rfl (fun c_13 => ?_) (fun c_13 => ?_)
    · have z_13 : e ≤ k := ((nI_leI (a := e) (b := k) (by omega) (by omega)).mp c_13)
      obtain rfl : k = e := by omega
      exact Vw.vret (de_return_ (B 27 _ rfl)) rfl ⟨rfl, (h J fJ eJ oJ)⟩
    have z_13 : k < e := by rcases Nat.lt_or_ge k e with z | z; exact z; exact absurd ((nI_leI (a := e) (b := k) (by omega) (by omega)).mpr z) c_13
    refine Vw.aload_n (de_aload_0 (B 16 _ rfl)) 0 rfl (n := 17) rfl ?_
    refine Vw.iload (de_iload (B 17 _ rfl) (B 18 _ rfl)) 4 rfl (n := 19) rfl ?_
    refine Vw.iload_n (de_iload_3 (B 19 _ rfl)) 3 rfl (n := 20) rfl ?_
    refine Vw.iast (de_iastore (B 20 _ rfl)) hb (vIx_n (k := k) rfl (by omega) (by omega)) (n := 21) rfl ?_
    refine Vw.iinc (v := nI (k + 1)) (lv2 := [(0, _), (1, _), (2, _), (3, _), (4, _)]) (de_iinc (B 21 _ rfl) (B 22 _ rfl) (B 23 _ rfl)) 4 rfl (nI_1 k) (by decide) [1, 2, 3, 4, 0] rfl (n := 24) rfl ?_
    refine Vw.goto_ (n := 10) (de_goto_ (B 24 _ rfl) (B 25 _ rfl) (B 26 _ rfl)) rfl ?_
    refine ih z_13 (by omega) _ fJ.up (fun i g1 g2 => ?_) (fun i g => ?_)
    · by_cases z : i = k
      · rw [z, up2_s]
      · rw [up2_k z]; exact eJ i g1 (by omega)
    · rw [up2_k (by omega)]; exact oJ i g
  refine Vw.aload_n (de_aload_0 (B 0 _ rfl)) 0 rfl (n := 1) rfl ?_
  refine Vw.alen (de_arraylength (B 1 _ rfl)) hb (i := nI n) rfl (n := 2) rfl ?_
  refine Vw.iload_n (de_iload_1 (B 2 _ rfl)) 1 rfl (n := 3) rfl ?_
  refine Vw.iload_n (de_iload_2 (B 3 _ rfl)) 2 rfl (n := 4) rfl ?_
  refine Vw.isv3 (mi' := mJ7_rangeCheck_23922) (de_invokestatic (B 4 _ rfl) (B 5 _ rfl) (B 6 _ rfl)) ml_J7_13 ms_J7_rangeCheck_23922 (Nat.le_of_ble_eq_true rfl) (n := 7) rfl (c_J7_rangeCheck_23922 h1 h2 hn ?_)
  refine Vw.iload_n (de_iload_1 (B 7 _ rfl)) 1 rfl (n := 8) rfl ?_
  refine Vw.istore (lv2 := [(0, _), (1, _), (2, _), (3, _), (4, _)]) (de_istore (B 8 _ rfl) (B 9 _ rfl)) (by decide) [1, 2, 3, 4, 0] rfl (n := 10) rfl ?_
  exact loop a h1 (Nat.le_refl _) I Oa.rfl (fun i g1 g2 => absurd g1 (by omega)) (fun _ _ => rfl)
