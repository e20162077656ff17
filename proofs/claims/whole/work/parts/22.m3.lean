def zCan (a s w : Int32) : Int32 := if zLie a 0 999 = 0 then 0 else if zLie s 20 250 = 0 then 0 else if zLie w 5 200 = 0 then 0 else 1
def zSize (s w : Int32) : Int32 := if zLie s 20 300 = 0 then 0 else if zLie w 5 250 = 0 then 0 else 1
theorem zLie_01 (v lo hi : Int32) : zLie v lo hi = 0 ∨ zLie v lo hi = 1 := by unfold zLie; split; exact Or.inl rfl; split; exact Or.inl rfl; exact Or.inr rfl
theorem zLie_iff (v lo hi : Int32) : ¬ zLie v lo hi = 0 ↔ lo.toInt ≤ v.toInt ∧ v.toInt ≤ hi.toInt := by
  unfold zLie
  constructor
  · intro h
    split at h
    · exact absurd rfl h
    · rename_i h1
      split at h
      · exact absurd rfl h
      · rename_i h2
        rw [i32_lt] at h1 h2
        omega
  · rintro ⟨h1, h2⟩
    rw [if_neg (by rw [i32_lt]; omega), if_neg (by rw [i32_lt]; omega)]
    decide
theorem lie_ex {p : Int32} {n : Nat} (hn : n ≤ 100000) (h : ¬ zLie p 0 (nI n - 1) = 0) : ∃ j, j < n ∧ p = nI j := by
  rw [zLie_iff] at h
  have e : (nI n - 1).toInt = (n : Int) - 1 := by rw [i32_sub] <;> rw [nI_ti (by omega)] <;> (show _) <;> (have : (1 : Int32).toInt = 1 := rfl) <;> omega
  rw [e] at h
  exact nI_ex h.1 (by omega)
def mAdds (I : vI) (r n : Nat) (a s w : Int32) : vI := up2 (up2 (up2 (up2 (up2 I (r + 2) (4 * n) a) (r + 2) (4 * n + 1) s) (r + 2) (4 * n + 2) w) (r + 2) (4 * n + 3) 0) (r + 2) 142 (I (r + 2) 142 + 1)
theorem mAdds_m {I : vI} {r n : Nat} {a s w : Int32} : mAdds I r n a s w (r + 2) 142 - 1 = I (r + 2) 142 := by simp only [mAdds, up2_s]; exact Int32.add_sub_cancel _ _
theorem ne_ti {x v : Int32} (h : ¬ x = v) (z : Int) (hz : v.toInt = z) : x.toInt ≠ z := fun q => h (i32_eq (by rw [q, hz]))
theorem c_X12_canBe {d : Nat} {S : vS} {I : vI} {L : vL} {Q : Int32 → vS → vI → vL → Prop} {a : Int32} {s : Int32} {w : Int32}   (h : Q (zCan a s w) S I L) : Vc mX12_canBe (d + 1) 0 0 [.int a, .int s, .int w] S I L (ViQ Q) := by
  refine Vc.of rfl (Nat.le_of_ble_eq_true rfl) ?_
  have B := bs_X12_canBe
  show Vw mX12_canBe (d + 1) 0 0 0 0 (ViQ Q) 0 [(0, .int a), (1, .int s), (2, .int w)] [] S I L
  refine Vw.iload_n (de_iload_0 (B 0 _ rfl)) 0 rfl (n := 1) rfl ?_
  refine Vw.iconst (v := 0) (de_iconst_0 (B 1 _ rfl)) rfl (n := 2) rfl ?_
  refine Vw.sipush (v := 999) (de_sipush (B 2 _ rfl) (B 3 _ rfl) (B 4 _ rfl)) rfl (n := 5) rfl ?_
  refine Vw.isi3 (mi' := mX12_lies) (de_invokestatic (B 5 _ rfl) (B 6 _ rfl) (B 7 _ rfl)) ml_X12_111 ms_X12_lies (Nat.le_of_ble_eq_true rfl) (n := 8) rfl (c_X12_lies ?_)
  refine Vw.if_eq (tgt := 38) (n := 11) (de_if_eq (B 8 _ rfl) (B 9 _ rfl) (B 10 _ rfl)) rfl rfl (fun c_8 => ?_) (fun c_8 => ?_)
  · refine Vw.iconst (v := 0) (de_iconst_0 (B 38 _ rfl)) rfl (n := 39) rfl ?_
    exact Vw.zret (de_ireturn (B 39 _ rfl)) rfl rfl ⟨_, rfl, (by simpa [zCan, c_8] using h)⟩
  refine Vw.iload_n (de_iload_1 (B 11 _ rfl)) 1 rfl (n := 12) rfl ?_
  refine Vw.bipush (v := 20) (de_bipush (B 12 _ rfl) (B 13 _ rfl)) rfl (n := 14) rfl ?_
  refine Vw.sipush (v := 250) (de_sipush (B 14 _ rfl) (B 15 _ rfl) (B 16 _ rfl)) rfl (n := 17) rfl ?_
  refine Vw.isi3 (mi' := mX12_lies) (de_invokestatic (B 17 _ rfl) (B 18 _ rfl) (B 19 _ rfl)) ml_X12_111 ms_X12_lies (Nat.le_of_ble_eq_true rfl) (n := 20) rfl (c_X12_lies ?_)
  refine Vw.if_eq (tgt := 38) (n := 23) (de_if_eq (B 20 _ rfl) (B 21 _ rfl) (B 22 _ rfl)) rfl rfl (fun c_20 => ?_) (fun c_20 => ?_)
  · refine Vw.iconst (v := 0) (de_iconst_0 (B 38 _ rfl)) rfl (n := 39) rfl ?_
    exact Vw.zret (de_ireturn (B 39 _ rfl)) rfl rfl ⟨_, rfl, (by simpa [zCan, c_8, c_20] using h)⟩
  refine Vw.iload_n (de_iload_2 (B 23 _ rfl)) 2 rfl (n := 24) rfl ?_
  refine Vw.iconst (v := 5) (de_iconst_5 (B 24 _ rfl)) rfl (n := 25) rfl ?_
  refine Vw.sipush (v := 200) (de_sipush (B 25 _ rfl) (B 26 _ rfl) (B 27 _ rfl)) rfl (n := 28) rfl ?_
  refine Vw.isi3 (mi' := mX12_lies) (de_invokestatic (B 28 _ rfl) (B 29 _ rfl) (B 30 _ rfl)) ml_X12_111 ms_X12_lies (Nat.le_of_ble_eq_true rfl) (n := 31) rfl (c_X12_lies ?_)
  refine Vw.if_eq (tgt := 38) (n := 34) (de_if_eq (B 31 _ rfl) (B 32 _ rfl) (B 33 _ rfl)) rfl rfl (fun c_31 => ?_) (fun c_31 => ?_)
  · refine Vw.iconst (v := 0) (de_iconst_0 (B 38 _ rfl)) rfl (n := 39) rfl ?_
    exact Vw.zret (de_ireturn (B 39 _ rfl)) rfl rfl ⟨_, rfl, (by simpa [zCan, c_8, c_20, c_31] using h)⟩
  refine Vw.iconst (v := 1) (de_iconst_1 (B 34 _ rfl)) rfl (n := 35) rfl ?_
  refine Vw.goto_ (n := 39) (de_goto_ (B 35 _ rfl) (B 36 _ rfl) (B 37 _ rfl)) rfl ?_
  exact Vw.zret (de_ireturn (B 39 _ rfl)) rfl rfl ⟨_, rfl, (by simpa [zCan, c_8, c_20, c_31] using h)⟩
theorem c_X12_isSize {d : Nat} {S : vS} {I : vI} {L : vL} {Q : Int32 → vS → vI → vL → Prop} {s : Int32} {w : Int32}   (h : Q (zSize s w) S I L) : Vc mX12_isSize (d + 1) 0 0 [.int s, .int w] S I L (ViQ Q) := by
  refine Vc.of rfl (Nat.le_of_ble_eq_true rfl) ?_
  have B := bs_X12_isSize
  show Vw mX12_isSize (d + 1) 0 0 0 0 (ViQ Q) 0 [(0, .int s), (1, .int w)] [] S I L
  refine Vw.iload_n (de_iload_0 (B 0 _ rfl)) 0 rfl (n := 1) rfl ?_
  refine Vw.bipush (v := 20) (de_bipush (B 1 _ rfl) (B 2 _ rfl)) rfl (n := 3) rfl ?_
  refine Vw.sipush (v := 300) (de_sipush (B 3 _ rfl) (B 4 _ rfl) (B 5 _ rfl)) rfl (n := 6) rfl ?_
  refine Vw.isi3 (mi' := mX12_lies) (de_invokestatic (B 6 _ rfl) (B 7 _ rfl) (B 8 _ rfl)) ml_X12_111 ms_X12_lies (Nat.le_of_ble_eq_true rfl) (n := 9) rfl (c_X12_lies ?_)
  refine Vw.if_eq (tgt := 27) (n := 12) (de_if_eq (B 9 _ rfl) (B 10 _ rfl) (B 11 _ rfl)) rfl rfl (fun c_9 => ?_) (fun c_9 => ?_)
  · refine Vw.iconst (v := 0) (de_iconst_0 (B 27 _ rfl)) rfl (n := 28) rfl ?_
    exact Vw.zret (de_ireturn (B 28 _ rfl)) rfl rfl ⟨_, rfl, (by simpa [zSize, c_9] using h)⟩
  refine Vw.iload_n (de_iload_1 (B 12 _ rfl)) 1 rfl (n := 13) rfl ?_
  refine Vw.iconst (v := 5) (de_iconst_5 (B 13 _ rfl)) rfl (n := 14) rfl ?_
  refine Vw.sipush (v := 250) (de_sipush (B 14 _ rfl) (B 15 _ rfl) (B 16 _ rfl)) rfl (n := 17) rfl ?_
  refine Vw.isi3 (mi' := mX12_lies) (de_invokestatic (B 17 _ rfl) (B 18 _ rfl) (B 19 _ rfl)) ml_X12_111 ms_X12_lies (Nat.le_of_ble_eq_true rfl) (n := 20) rfl (c_X12_lies ?_)
  refine Vw.if_eq (tgt := 27) (n := 23) (de_if_eq (B 20 _ rfl) (B 21 _ rfl) (B 22 _ rfl)) rfl rfl (fun c_20 => ?_) (fun c_20 => ?_)
  · refine Vw.iconst (v := 0) (de_iconst_0 (B 27 _ rfl)) rfl (n := 28) rfl ?_
    exact Vw.zret (de_ireturn (B 28 _ rfl)) rfl rfl ⟨_, rfl, (by simpa [zSize, c_9, c_20] using h)⟩
  refine Vw.iconst (v := 1) (de_iconst_1 (B 23 _ rfl)) rfl (n := 24) rfl ?_
  refine Vw.goto_ (n := 28) (de_goto_ (B 24 _ rfl) (B 25 _ rfl) (B 26 _ rfl)) rfl ?_
  exact Vw.zret (de_ireturn (B 28 _ rfl)) rfl rfl ⟨_, rfl, (by simpa [zSize, c_9, c_20] using h)⟩
theorem c_X12_adds {d : Nat} {S : vS} {I : vI} {L : vL} {Q : vS → vI → vL → Prop} {r : Nat} {a : Int32} {s : Int32} {w : Int32} {n : Nat} (hM : MS S r) (hn : I (r + 2) 142 = nI n) (hn8 : n < 8) (h : Q S (mAdds I r n a s w) L) : Vc mX12_adds (d + 1) 0 0 [.ref r, .int a, .int s, .int w] S I L (VvQ Q) := by
  refine Vc.of rfl (Nat.le_of_ble_eq_true rfl) ?_
  have B := bs_X12_adds
  show Vw mX12_adds (d + 1) 0 0 0 0 (VvQ Q) 0 [(0, .ref r), (1, .int a), (2, .int s), (3, .int w)] [] S I L
  refine Vw.iconst (v := 0) (de_iconst_0 (B 0 _ rfl)) rfl (n := 1) rfl ?_
  refine Vw.iconst (v := 4) (de_iconst_4 (B 1 _ rfl)) rfl (n := 2) rfl ?_
  refine Vw.aload_n (de_aload_0 (B 2 _ rfl)) 0 rfl (n := 3) rfl ?_
  refine Vw.ivi0 (mi' := mX12_people) (de_invokevirtual (B 3 _ rfl) (B 4 _ rfl) (B 5 _ rfl)) ml_X12_121 mv_X12_people hM.k (Nat.le_of_ble_eq_true rfl) (n := 6) rfl (c_X12_people hM ?_)
  rw [hn]
  refine Vw.imul (de_imul (B 6 _ rfl)) (n := 7) rfl ?_
  refine Vw.iadd (de_iadd (B 7 _ rfl)) (n := 8) rfl ?_
  refine Vw.istore (lv2 := [(0, _), (1, _), (2, _), (3, _), (4, _)]) (de_istore (B 8 _ rfl) (B 9 _ rfl)) (by decide) [1, 2, 3, 4, 0] rfl (n := 10) rfl ?_
  refine Vw.aload_n (de_aload_0 (B 10 _ rfl)) 0 rfl (n := 11) rfl ?_
  refine Vw.getR (de_getfield (B 11 _ rfl) (B 12 _ rfl) (B 13 _ rfl)) fl_X12_24 rfl hM.k (MS_kept hM).1 (n := 14) rfl ?_
  refine Vw.iload (de_iload (B 14 _ rfl) (B 15 _ rfl)) 4 rfl (n := 16) rfl ?_
  refine Vw.iconst (v := 0) (de_iconst_0 (B 16 _ rfl)) rfl (n := 17) rfl ?_
  refine Vw.iadd (de_iadd (B 17 _ rfl)) (n := 18) rfl ?_
  refine Vw.iload_n (de_iload_1 (B 18 _ rfl)) 1 rfl (n := 19) rfl ?_
  refine Vw.iast (de_iastore (B 19 _ rfl)) (MS_kept hM).2 (vIx_n (k := 4 * n) (by simp only [nI_A, nI_M, Int32.zero_add, Int32.add_zero] <;> rfl) (by omega)) (n := 20) rfl ?_
  refine Vw.aload_n (de_aload_0 (B 20 _ rfl)) 0 rfl (n := 21) rfl ?_
  refine Vw.getR (de_getfield (B 21 _ rfl) (B 22 _ rfl) (B 23 _ rfl)) fl_X12_24 rfl hM.k (MS_kept hM).1 (n := 24) rfl ?_
  refine Vw.iload (de_iload (B 24 _ rfl) (B 25 _ rfl)) 4 rfl (n := 26) rfl ?_
  refine Vw.iconst (v := 1) (de_iconst_1 (B 26 _ rfl)) rfl (n := 27) rfl ?_
  refine Vw.iadd (de_iadd (B 27 _ rfl)) (n := 28) rfl ?_
  refine Vw.iload_n (de_iload_2 (B 28 _ rfl)) 2 rfl (n := 29) rfl ?_
  refine Vw.iast (de_iastore (B 29 _ rfl)) (MS_kept hM).2 (vIx_n (k := 4 * n + 1) (by simp only [nI_A, nI_M, Int32.zero_add, Int32.add_zero] <;> rfl) (by omega)) (n := 30) rfl ?_
  refine Vw.aload_n (de_aload_0 (B 30 _ rfl)) 0 rfl (n := 31) rfl ?_
  refine Vw.getR (de_getfield (B 31 _ rfl) (B 32 _ rfl) (B 33 _ rfl)) fl_X12_24 rfl hM.k (MS_kept hM).1 (n := 34) rfl ?_
  refine Vw.iload (de_iload (B 34 _ rfl) (B 35 _ rfl)) 4 rfl (n := 36) rfl ?_
  refine Vw.iconst (v := 2) (de_iconst_2 (B 36 _ rfl)) rfl (n := 37) rfl ?_
  refine Vw.iadd (de_iadd (B 37 _ rfl)) (n := 38) rfl ?_
  refine Vw.iload_n (de_iload_3 (B 38 _ rfl)) 3 rfl (n := 39) rfl ?_
  refine Vw.iast (de_iastore (B 39 _ rfl)) (MS_kept hM).2 (vIx_n (k := 4 * n + 2) (by simp only [nI_A, nI_M, Int32.zero_add, Int32.add_zero] <;> rfl) (by omega)) (n := 40) rfl ?_
  refine Vw.aload_n (de_aload_0 (B 40 _ rfl)) 0 rfl (n := 41) rfl ?_
  refine Vw.getR (de_getfield (B 41 _ rfl) (B 42 _ rfl) (B 43 _ rfl)) fl_X12_24 rfl hM.k (MS_kept hM).1 (n := 44) rfl ?_
  refine Vw.iload (de_iload (B 44 _ rfl) (B 45 _ rfl)) 4 rfl (n := 46) rfl ?_
  refine Vw.iconst (v := 3) (de_iconst_3 (B 46 _ rfl)) rfl (n := 47) rfl ?_
  refine Vw.iadd (de_iadd (B 47 _ rfl)) (n := 48) rfl ?_
  refine Vw.iconst (v := 0) (de_iconst_0 (B 48 _ rfl)) rfl (n := 49) rfl ?_
  refine Vw.iast (de_iastore (B 49 _ rfl)) (MS_kept hM).2 (vIx_n (k := 4 * n + 3) (by simp only [nI_A, nI_M, Int32.zero_add, Int32.add_zero] <;> rfl) (by omega)) (n := 50) rfl ?_
  refine Vw.aload_n (de_aload_0 (B 50 _ rfl)) 0 rfl (n := 51) rfl ?_
  refine Vw.getR (de_getfield (B 51 _ rfl) (B 52 _ rfl) (B 53 _ rfl)) fl_X12_24 rfl hM.k (MS_kept hM).1 (n := 54) rfl ?_
  refine Vw.sipush (v := 142) (de_sipush (B 54 _ rfl) (B 55 _ rfl) (B 56 _ rfl)) rfl (n := 57) rfl ?_
  refine Vw.dup2 (de_dup2 (B 57 _ rfl)) rfl rfl (n := 58) rfl ?_
  refine Vw.iald (de_iaload (B 58 _ rfl)) (MS_kept hM).2 (j := 142) ⟨rfl, by decide, by decide⟩ (n := 59) rfl ?_
  refine Vw.iconst (v := 1) (de_iconst_1 (B 59 _ rfl)) rfl (n := 60) rfl ?_
  refine Vw.iadd (de_iadd (B 60 _ rfl)) (n := 61) rfl ?_
  refine Vw.iast (de_iastore (B 61 _ rfl)) (MS_kept hM).2 (j := 142) ⟨rfl, by decide, by decide⟩ (n := 62) rfl ?_
  exact Vw.vret (de_return_ (B 62 _ rfl)) rfl ⟨rfl, (by simpa (disch := omega) only [mAdds, up2_a, up2_k, up2_s, ] using h)⟩
theorem c_X12_person {d : Nat} {S : vS} {I : vI} {L : vL} {Q : Int32 → vS → vI → vL → Prop} {r : Nat} {a : Int32} {s : Int32} {w : Int32} {n : Nat} (hM : MS S r) (hn : I (r + 2) 142 = nI n) (hn8 : n ≤ 8) (h1 : zCan a s w = 0 → Q (-1) S (mRef I r (-1) 1) L) (h2 : ¬ zCan a s w = 0 → I (r + 2) 142 = 8 → Q (-5) S (mRef I r (-5) 5) L) (h : ¬ zCan a s w = 0 → ¬ I (r + 2) 142 = 8 → Q (I (r + 2) 142) S (mSet (mAdds I r n a s w) r) L) : Vc mX12_person (d + 2) 0 0 [.ref r, .int a, .int s, .int w] S I L (ViQ Q) := by
  refine Vc.of rfl (Nat.le_of_ble_eq_true rfl) ?_
  have B := bs_X12_person
  show Vw mX12_person (d + 2) 0 0 0 0 (ViQ Q) 0 [(0, .ref r), (1, .int a), (2, .int s), (3, .int w)] [] S I L
  refine Vw.iload_n (de_iload_1 (B 0 _ rfl)) 1 rfl (n := 1) rfl ?_
  refine Vw.iload_n (de_iload_2 (B 1 _ rfl)) 2 rfl (n := 2) rfl ?_
  refine Vw.iload_n (de_iload_3 (B 2 _ rfl)) 3 rfl (n := 3) rfl ?_
  refine Vw.isi3 (mi' := mX12_canBe) (de_invokestatic (B 3 _ rfl) (B 4 _ rfl) (B 5 _ rfl)) ml_X12_125 ms_X12_canBe (Nat.le_of_ble_eq_true rfl) (n := 6) rfl (c_X12_canBe ?_)
  refine Vw.if_ne (tgt := 15) (n := 9) (de_if_ne (B 6 _ rfl) (B 7 _ rfl) (B 8 _ rfl)) rfl rfl (fun c_6 => ?_) (fun c_6 => ?_)
  · refine Vw.aload_n (de_aload_0 (B 15 _ rfl)) 0 rfl (n := 16) rfl ?_
    refine Vw.ivi0 (mi' := mX12_people) (de_invokevirtual (B 16 _ rfl) (B 17 _ rfl) (B 18 _ rfl)) ml_X12_121 mv_X12_people hM.k (Nat.le_of_ble_eq_true rfl) (n := 19) rfl (c_X12_people hM ?_)
    refine Vw.bipush (v := 8) (de_bipush (B 19 _ rfl) (B 20 _ rfl)) rfl (n := 21) rfl ?_
    refine Vw.icmp_ne (tgt := 31) (n := 24) (de_icmp_ne (B 21 _ rfl) (B 22 _ rfl) (B 23 _ rfl)) rfl rfl (fun c_21 => ?_) (fun c_21 => ?_)
    · refine Vw.aload_n (de_aload_0 (B 31 _ rfl)) 0 rfl (n := 32) rfl ?_
      refine Vw.iload_n (de_iload_1 (B 32 _ rfl)) 1 rfl (n := 33) rfl ?_
      refine Vw.iload_n (de_iload_2 (B 33 _ rfl)) 2 rfl (n := 34) rfl ?_
      refine Vw.iload_n (de_iload_3 (B 34 _ rfl)) 3 rfl (n := 35) rfl ?_
      refine Vw.ivv3 (mi' := mX12_adds) (de_invokevirtual (B 35 _ rfl) (B 36 _ rfl) (B 37 _ rfl)) ml_X12_128 mv_X12_adds hM.k (Nat.le_of_ble_eq_true rfl) (n := 38) rfl (c_X12_adds hM hn (by rcases Nat.lt_or_ge n 8 with q | q; exact q; exact absurd (by rw [hn, show n = 8 by omega]; rfl) c_21) ?_)
      refine Vw.aload_n (de_aload_0 (B 38 _ rfl)) 0 rfl (n := 39) rfl ?_
      refine Vw.aload_n (de_aload_0 (B 39 _ rfl)) 0 rfl (n := 40) rfl ?_
      refine Vw.ivi0 (mi' := mX12_people) (de_invokevirtual (B 40 _ rfl) (B 41 _ rfl) (B 42 _ rfl)) ml_X12_121 mv_X12_people hM.k (Nat.le_of_ble_eq_true rfl) (n := 43) rfl (c_X12_people hM ?_)
      refine Vw.iconst (v := 1) (de_iconst_1 (B 43 _ rfl)) rfl (n := 44) rfl ?_
      refine Vw.isub (de_isub (B 44 _ rfl)) (n := 45) rfl ?_
      refine Vw.ivi1 (mi' := mX12_settled) (de_invokevirtual (B 45 _ rfl) (B 46 _ rfl) (B 47 _ rfl)) ml_X12_118 mv_X12_settled hM.k (Nat.le_of_ble_eq_true rfl) (n := 48) rfl (c_X12_settled hM ?_)
      exact Vw.iret (de_ireturn (B 48 _ rfl)) rfl ⟨_, rfl, (by rw [mAdds_m]; exact h c_6 c_21)⟩
    refine Vw.aload_n (de_aload_0 (B 24 _ rfl)) 0 rfl (n := 25) rfl ?_
    refine Vw.bipush (v := -5) (de_bipush (B 25 _ rfl) (B 26 _ rfl)) rfl (n := 27) rfl ?_
    refine Vw.ivi1 (mi' := mX12_refuses) (de_invokevirtual (B 27 _ rfl) (B 28 _ rfl) (B 29 _ rfl)) ml_X12_115 mv_X12_refuses hM.k (Nat.le_of_ble_eq_true rfl) (n := 30) rfl (c_X12_refuses hM (j := 5) ⟨rfl, by decide, by decide⟩ ?_)
    exact Vw.iret (de_ireturn (B 30 _ rfl)) rfl ⟨_, rfl, (h2 c_6 c_21)⟩
  refine Vw.aload_n (de_aload_0 (B 9 _ rfl)) 0 rfl (n := 10) rfl ?_
  refine Vw.iconst (v := -1) (de_iconst_m1 (B 10 _ rfl)) rfl (n := 11) rfl ?_
  refine Vw.ivi1 (mi' := mX12_refuses) (de_invokevirtual (B 11 _ rfl) (B 12 _ rfl) (B 13 _ rfl)) ml_X12_115 mv_X12_refuses hM.k (Nat.le_of_ble_eq_true rfl) (n := 14) rfl (c_X12_refuses hM (j := 1) ⟨rfl, by decide, by decide⟩ ?_)
  exact Vw.iret (de_ireturn (B 14 _ rfl)) rfl ⟨_, rfl, (h1 c_6)⟩
