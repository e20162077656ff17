theorem Vw.lvs {mi : vM} {d mc ms cr sr : Nat} {Q : Option Value → vS → vI → vL → Prop} {pc : Nat} {lv lv2 : List (Nat × Value)} {st : List Value} {S : vS} {I : vI} {L : vL} (is : List Nat) (hs : lv_pick lv is = lv2) (k : Vw mi d mc ms cr sr Q pc lv2 st S I L) : Vw mi d mc ms cr sr Q pc lv st S I L := fun l G p e R s m args below meth c H locs cells slots ls hC hH hS h1 h2 hl => k l G p e R s m args below meth c H locs cells slots ls hC hH hS h1 h2 (lv_sub hl is hs)
/-- 1 if v lies from lo to hi -/
def zLie (v lo hi : Int32) : Int32 := if v < lo then 0 else if hi < v then 0 else 1
def zWithin (v lo hi : Int32) : Int32 := if lo ≤ v then (if v ≤ hi then v else hi) else lo
def zMin (a b : Int32) : Int32 := if b ≤ a then b else a
def zMax (a b : Int32) : Int32 := if a ≤ b then b else a
theorem c_X12_lies {d : Nat} {S : vS} {I : vI} {L : vL} {Q : Int32 → vS → vI → vL → Prop} {v lo hi : Int32} (h : Q (zLie v lo hi) S I L) : Vc mX12_lies d 0 0 [.int v, .int lo, .int hi] S I L (ViQ Q) := by
  refine Vc.of rfl (Nat.le_of_ble_eq_true rfl) ?_
  have B := bs_X12_lies
  show Vw mX12_lies d 0 0 0 0 (ViQ Q) 0 [(0, .int v), (1, .int lo), (2, .int hi)] [] S I L
  refine Vw.iload_n (de_iload_0 (B 0 _ rfl)) 0 rfl (n := 1) rfl ?_
  refine Vw.iload_n (de_iload_1 (B 1 _ rfl)) 1 rfl (n := 2) rfl ?_
  refine Vw.icmp_lt (tgt := 14) (n := 5) (de_icmp_lt (B 2 _ rfl) (B 3 _ rfl) (B 4 _ rfl)) rfl rfl (fun c_2 => ?_) (fun c_2 => ?_)
  · refine Vw.iconst (v := 0) (de_iconst_0 (B 14 _ rfl)) rfl (n := 15) rfl ?_
    exact Vw.zret (de_ireturn (B 15 _ rfl)) rfl rfl ⟨_, rfl, (by simpa [zLie, c_2] using h)⟩
  refine Vw.iload_n (de_iload_0 (B 5 _ rfl)) 0 rfl (n := 6) rfl ?_
  refine Vw.iload_n (de_iload_2 (B 6 _ rfl)) 2 rfl (n := 7) rfl ?_
  refine Vw.icmp_gt (tgt := 14) (n := 10) (de_icmp_gt (B 7 _ rfl) (B 8 _ rfl) (B 9 _ rfl)) rfl rfl (fun c_7 => ?_) (fun c_7 => ?_)
  · refine Vw.iconst (v := 0) (de_iconst_0 (B 14 _ rfl)) rfl (n := 15) rfl ?_
    exact Vw.zret (de_ireturn (B 15 _ rfl)) rfl rfl ⟨_, rfl, (by simpa [zLie, c_2, c_7] using h)⟩
  refine Vw.iconst (v := 1) (de_iconst_1 (B 10 _ rfl)) rfl (n := 11) rfl ?_
  refine Vw.goto_ (n := 15) (de_goto_ (B 11 _ rfl) (B 12 _ rfl) (B 13 _ rfl)) rfl ?_
  exact Vw.zret (de_ireturn (B 15 _ rfl)) rfl rfl ⟨_, rfl, (by simpa [zLie, c_2, c_7] using h)⟩
theorem c_X12_within {d : Nat} {S : vS} {I : vI} {L : vL} {Q : Int32 → vS → vI → vL → Prop} {v lo hi : Int32} (h : Q (zWithin v lo hi) S I L) : Vc mX12_within d 0 0 [.int v, .int lo, .int hi] S I L (ViQ Q) := by
  refine Vc.of rfl (Nat.le_of_ble_eq_true rfl) ?_
  have B := bs_X12_within
  show Vw mX12_within d 0 0 0 0 (ViQ Q) 0 [(0, .int v), (1, .int lo), (2, .int hi)] [] S I L
  refine Vw.iload_n (de_iload_0 (B 0 _ rfl)) 0 rfl (n := 1) rfl ?_
  refine Vw.iload_n (de_iload_1 (B 1 _ rfl)) 1 rfl (n := 2) rfl ?_
  refine Vw.icmp_ge (tgt := 9) (n := 5) (de_icmp_ge (B 2 _ rfl) (B 3 _ rfl) (B 4 _ rfl)) rfl rfl (fun c_2 => ?_) (fun c_2 => ?_)
  · refine Vw.iload_n (de_iload_0 (B 9 _ rfl)) 0 rfl (n := 10) rfl ?_
    refine Vw.iload_n (de_iload_2 (B 10 _ rfl)) 2 rfl (n := 11) rfl ?_
    refine Vw.icmp_le (tgt := 18) (n := 14) (de_icmp_le (B 11 _ rfl) (B 12 _ rfl) (B 13 _ rfl)) rfl rfl (fun c_11 => ?_) (fun c_11 => ?_)
    · refine Vw.iload_n (de_iload_0 (B 18 _ rfl)) 0 rfl (n := 19) rfl ?_
      exact Vw.iret (de_ireturn (B 19 _ rfl)) rfl ⟨_, rfl, (by simpa [zWithin, c_2, c_11] using h)⟩
    refine Vw.iload_n (de_iload_2 (B 14 _ rfl)) 2 rfl (n := 15) rfl ?_
    refine Vw.goto_ (n := 19) (de_goto_ (B 15 _ rfl) (B 16 _ rfl) (B 17 _ rfl)) rfl ?_
    exact Vw.iret (de_ireturn (B 19 _ rfl)) rfl ⟨_, rfl, (by simpa [zWithin, c_2, c_11] using h)⟩
  refine Vw.iload_n (de_iload_1 (B 5 _ rfl)) 1 rfl (n := 6) rfl ?_
  refine Vw.goto_ (n := 19) (de_goto_ (B 6 _ rfl) (B 7 _ rfl) (B 8 _ rfl)) rfl ?_
  exact Vw.iret (de_ireturn (B 19 _ rfl)) rfl ⟨_, rfl, (by simpa [zWithin, c_2] using h)⟩
theorem c_X12_lesser {d : Nat} {S : vS} {I : vI} {L : vL} {Q : Int32 → vS → vI → vL → Prop} {a b : Int32} (h : Q (zMin a b) S I L) : Vc mX12_lesser d 0 0 [.int a, .int b] S I L (ViQ Q) := by
  refine Vc.of rfl (Nat.le_of_ble_eq_true rfl) ?_
  have B := bs_X12_lesser
  show Vw mX12_lesser d 0 0 0 0 (ViQ Q) 0 [(0, .int a), (1, .int b)] [] S I L
  refine Vw.iload_n (de_iload_0 (B 0 _ rfl)) 0 rfl (n := 1) rfl ?_
  refine Vw.iload_n (de_iload_1 (B 1 _ rfl)) 1 rfl (n := 2) rfl ?_
  refine Vw.icmp_ge (tgt := 9) (n := 5) (de_icmp_ge (B 2 _ rfl) (B 3 _ rfl) (B 4 _ rfl)) rfl rfl (fun c_2 => ?_) (fun c_2 => ?_)
  · refine Vw.iload_n (de_iload_1 (B 9 _ rfl)) 1 rfl (n := 10) rfl ?_
    exact Vw.iret (de_ireturn (B 10 _ rfl)) rfl ⟨_, rfl, (by simpa [zMin, c_2] using h)⟩
  refine Vw.iload_n (de_iload_0 (B 5 _ rfl)) 0 rfl (n := 6) rfl ?_
  refine Vw.goto_ (n := 10) (de_goto_ (B 6 _ rfl) (B 7 _ rfl) (B 8 _ rfl)) rfl ?_
  exact Vw.iret (de_ireturn (B 10 _ rfl)) rfl ⟨_, rfl, (by simpa [zMin, c_2] using h)⟩
theorem c_X12_greater {d : Nat} {S : vS} {I : vI} {L : vL} {Q : Int32 → vS → vI → vL → Prop} {a b : Int32} (h : Q (zMax a b) S I L) : Vc mX12_greater d 0 0 [.int a, .int b] S I L (ViQ Q) := by
  refine Vc.of rfl (Nat.le_of_ble_eq_true rfl) ?_
  have B := bs_X12_greater
  show Vw mX12_greater d 0 0 0 0 (ViQ Q) 0 [(0, .int a), (1, .int b)] [] S I L
  refine Vw.iload_n (de_iload_0 (B 0 _ rfl)) 0 rfl (n := 1) rfl ?_
  refine Vw.iload_n (de_iload_1 (B 1 _ rfl)) 1 rfl (n := 2) rfl ?_
  refine Vw.icmp_le (tgt := 9) (n := 5) (de_icmp_le (B 2 _ rfl) (B 3 _ rfl) (B 4 _ rfl)) rfl rfl (fun c_2 => ?_) (fun c_2 => ?_)
  · refine Vw.iload_n (de_iload_1 (B 9 _ rfl)) 1 rfl (n := 10) rfl ?_
    exact Vw.iret (de_ireturn (B 10 _ rfl)) rfl ⟨_, rfl, (by simpa [zMax, c_2] using h)⟩
  refine Vw.iload_n (de_iload_0 (B 5 _ rfl)) 0 rfl (n := 6) rfl ?_
  refine Vw.goto_ (n := 10) (de_goto_ (B 6 _ rfl) (B 7 _ rfl) (B 8 _ rfl)) rfl ?_
  exact Vw.iret (de_ireturn (B 10 _ rfl)) rfl ⟨_, rfl, (by simpa [zMax, c_2] using h)⟩
