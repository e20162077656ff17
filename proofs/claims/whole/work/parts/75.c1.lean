/-! Leaves of the class -/
def lMin (a b : Int64) : Int64 := if b < a then b else a
def lMax (a b : Int64) : Int64 := if a < b then b else a
def perA (I : vI) (a : Nat) : tP := (I a 0, I a 1, I a 2, I a 3)
def Oa (a : Nat) (I I2 : vI) : Prop := ∀ b, b ≠ a → I2 b = I b
theorem Oa.trans {a : Nat} {I I2 I3 : vI} (h : Oa a I I2) (g : Oa a I2 I3) : Oa a I I3 := fun b hb => (g b hb).trans (h b hb)
theorem Oa.up {a k : Nat} {I J : vI} {v : Int32} (h : Oa a I J) : Oa a I (up2 J a k v) := fun b hb => by rw [up2_row hb]; exact h b hb
theorem Oa.rfl {a : Nat} {I : vI} : Oa a I I := fun _ _ => Eq.refl _
theorem perAe {I : vI} {a : Nat} {P : tP} (h : perA I a = P) : I a 0 = P.1 ∧ I a 1 = P.2.1 ∧ I a 2 = P.2.2.1 ∧ I a 3 = P.2.2.2 := by subst h; exact ⟨rfl, rfl, rfl, rfl⟩
theorem perA_of {I J : vI} {a : Nat} (h : J a = I a) : perA J a = perA I a := by unfold perA; rw [h]
theorem zMin_x {x y : Int32} : (if y < x then y else x) = zMin y x := by
  unfold zMin
  by_cases z : y < x
  · rw [if_pos z, if_neg (Int32.not_le.mpr z)]
  · rw [if_neg z, if_pos (Int32.not_lt.mp z)]
theorem zMax_x {x y : Int32} : (if x < y then y else x) = zMax y x := by
  unfold zMax
  by_cases z : x < y
  · rw [if_pos z, if_neg (Int32.not_le.mpr z)]
  · rw [if_neg z, if_pos (Int32.not_lt.mp z)]
theorem Vw.mminI {mi : vM} {d mc ms cr sr : Nat} {Q : Option Value → vS → vI → vL → Prop} {pc n : Nat} {lv : List (Nat × Value)} {st : List Value} {S : vS} {I : vI} {L : vL} {idx : Nat} {x y : Int32} (hd : decode mi.2.1 pc = .ok (.invokestatic idx, 3)) (hlk : Cond.methodLink mi.1.cls idx yJ9_min_7cf53 ∈ vTs) (hw : (st.map fun v => v.category).sum ≤ 8) (hn : pc + 3 = n) (k : Vw mi (d + 1) mc ms cr sr Q n lv (.int (zMin y x) :: st) S I L) : Vw mi (d + 1) mc ms cr sr Q pc lv (.int y :: .int x :: st) S I L := by
  subst hn
  intro l G p e R s m args below meth cd H locs cells slots ls hC hH hS h1 h2 hl
  have hts := hC.2.2.2.2.2.2.1
  have hR := hC.2.2.2.2.2.2.2.2.2.2.2
  have e0 : (if y < x then y else x) = zMin y x := by exact zMin_x
  refine va_mmin hC.1 hC.2.1 (hC.2.2.1.trans hl.1.symm) hC.2.2.2.2.2.1 (hts _ hlk) (hts _ ms_J9_min_7cf53.2) (hts _ ms_J9_min_7cf53.1.1) (hts _ ms_J9_min_7cf53.1.2.1) (by omega) (by omega) (by omega) (by omega) hd ?_
  rw [e0]
  exact k l G p e R s m args below meth cd H locs cells slots ls hC hH hS h1 h2 hl
theorem Vw.mmaxI {mi : vM} {d mc ms cr sr : Nat} {Q : Option Value → vS → vI → vL → Prop} {pc n : Nat} {lv : List (Nat × Value)} {st : List Value} {S : vS} {I : vI} {L : vL} {idx : Nat} {x y : Int32} (hd : decode mi.2.1 pc = .ok (.invokestatic idx, 3)) (hlk : Cond.methodLink mi.1.cls idx yJ9_max_7cf53 ∈ vTs) (hw : (st.map fun v => v.category).sum ≤ 8) (hn : pc + 3 = n) (k : Vw mi (d + 1) mc ms cr sr Q n lv (.int (zMax y x) :: st) S I L) : Vw mi (d + 1) mc ms cr sr Q pc lv (.int y :: .int x :: st) S I L := by
  subst hn
  intro l G p e R s m args below meth cd H locs cells slots ls hC hH hS h1 h2 hl
  have hts := hC.2.2.2.2.2.2.1
  have hR := hC.2.2.2.2.2.2.2.2.2.2.2
  have e0 : (if x < y then y else x) = zMax y x := by exact zMax_x
  refine va_mmax hC.1 hC.2.1 (hC.2.2.1.trans hl.1.symm) hC.2.2.2.2.2.1 (hts _ hlk) (hts _ ms_J9_max_7cf53.2) (hts _ ms_J9_max_7cf53.1.1) (hts _ ms_J9_max_7cf53.1.2.1) (by omega) (by omega) (by omega) (by omega) hd ?_
  rw [e0]
  exact k l G p e R s m args below meth cd H locs cells slots ls hC hH hS h1 h2 hl
theorem Vw.mminL {mi : vM} {d mc ms cr sr : Nat} {Q : Option Value → vS → vI → vL → Prop} {pc n : Nat} {lv : List (Nat × Value)} {st : List Value} {S : vS} {I : vI} {L : vL} {idx : Nat} {x y : Int64} (hd : decode mi.2.1 pc = .ok (.invokestatic idx, 3)) (hlk : Cond.methodLink mi.1.cls idx yJ9_min_f86c9 ∈ vTs) (hw : (st.map fun v => v.category).sum ≤ 8) (hn : pc + 3 = n) (k : Vw mi (d + 1) mc ms cr sr Q n lv (.long (lMin x y) :: st) S I L) : Vw mi (d + 1) mc ms cr sr Q pc lv (.long y :: .long x :: st) S I L := by
  subst hn
  intro l G p e R s m args below meth cd H locs cells slots ls hC hH hS h1 h2 hl
  have hts := hC.2.2.2.2.2.2.1
  have hR := hC.2.2.2.2.2.2.2.2.2.2.2
  have e0 : (if y < x then y else x) = lMin x y := by rfl
  refine va_mmin_long hC.1 hC.2.1 (hC.2.2.1.trans hl.1.symm) hC.2.2.2.2.2.1 (hts _ hlk) (hts _ ms_J9_min_f86c9.2) (hts _ ms_J9_min_f86c9.1.1) (hts _ ms_J9_min_f86c9.1.2.1) (by omega) (by omega) (by omega) (by omega) hd ?_
  rw [e0]
  exact k l G p e R s m args below meth cd H locs cells slots ls hC hH hS h1 h2 hl
theorem Vw.mmaxL {mi : vM} {d mc ms cr sr : Nat} {Q : Option Value → vS → vI → vL → Prop} {pc n : Nat} {lv : List (Nat × Value)} {st : List Value} {S : vS} {I : vI} {L : vL} {idx : Nat} {x y : Int64} (hd : decode mi.2.1 pc = .ok (.invokestatic idx, 3)) (hlk : Cond.methodLink mi.1.cls idx yJ9_max_f86c9 ∈ vTs) (hw : (st.map fun v => v.category).sum ≤ 8) (hn : pc + 3 = n) (k : Vw mi (d + 1) mc ms cr sr Q n lv (.long (if y < x then x else y) :: st) S I L) : Vw mi (d + 1) mc ms cr sr Q pc lv (.long y :: .long x :: st) S I L := by
  subst hn
  intro l G p e R s m args below meth cd H locs cells slots ls hC hH hS h1 h2 hl
  have hts := hC.2.2.2.2.2.2.1
  have hR := hC.2.2.2.2.2.2.2.2.2.2.2
  have e0 : (if y < x then x else y) = if y < x then x else y := by rfl
  refine va_mmax_long hC.1 hC.2.1 (hC.2.2.1.trans hl.1.symm) hC.2.2.2.2.2.1 (hts _ hlk) (hts _ ms_J9_max_f86c9.2) (hts _ ms_J9_max_f86c9.1.1) (hts _ ms_J9_max_f86c9.1.2.1) (by omega) (by omega) (by omega) (by omega) hd ?_
  rw [e0]
  exact k l G p e R s m args below meth cd H locs cells slots ls hC hH hS h1 h2 hl
theorem c_X11_isWithin {d : Nat} {S : vS} {I : vI} {L : vL} {Q : Int32 → vS → vI → vL → Prop} {v lo hi : Int32}  (h : Q (zLie v lo hi) S I L) : Vc mX11_isWithin d 0 0 [.int v, .int lo, .int hi] S I L (ViQ Q) := by
  refine Vc.of rfl (Nat.le_of_ble_eq_true rfl) ?_
  have B := bs_X11_isWithin
  show Vw mX11_isWithin d 0 0 0 0 (ViQ Q) 0 [(0, .int v), (1, .int lo), (2, .int hi)] [] S I L
  refine Vw.iload_n (de_iload_0 (B 0 _ rfl)) 0 rfl (n := 1) rfl ?_
  refine Vw.iload_n (de_iload_1 (B 1 _ rfl)) 1 rfl (n := 2) rfl ?_
  refine Vw.icmp_lt (tgt := 14) (n := 5) (de_icmp_lt (B 2 _ rfl) (B 3 _ rfl) (B 4 _ rfl)) rfl rfl (fun c_2 => ?_) (fun c_2 => ?_)
  · refine Vw.iconst (v := 0) (de_iconst_0 (B 14 _ rfl)) rfl (n := 15) rfl ?_
    exact Vw.zret (de_ireturn (B 15 _ rfl)) rfl rfl ⟨_, rfl, (by unfold zLie at h; first | (rw [if_pos c_2] at h; exact h) | (rw [if_neg c_2, if_pos c_7] at h; exact h) | (rw [if_neg c_2, if_neg c_7] at h; exact h))⟩
  refine Vw.iload_n (de_iload_0 (B 5 _ rfl)) 0 rfl (n := 6) rfl ?_
  refine Vw.iload_n (de_iload_2 (B 6 _ rfl)) 2 rfl (n := 7) rfl ?_
  refine Vw.icmp_gt (tgt := 14) (n := 10) (de_icmp_gt (B 7 _ rfl) (B 8 _ rfl) (B 9 _ rfl)) rfl rfl (fun c_7 => ?_) (fun c_7 => ?_)
  · refine Vw.iconst (v := 0) (de_iconst_0 (B 14 _ rfl)) rfl (n := 15) rfl ?_
    exact Vw.zret (de_ireturn (B 15 _ rfl)) rfl rfl ⟨_, rfl, (by unfold zLie at h; first | (rw [if_pos c_2] at h; exact h) | (rw [if_neg c_2, if_pos c_7] at h; exact h) | (rw [if_neg c_2, if_neg c_7] at h; exact h))⟩
  refine Vw.iconst (v := 1) (de_iconst_1 (B 10 _ rfl)) rfl (n := 11) rfl ?_
  refine Vw.goto_ (n := 15) (de_goto_ (B 11 _ rfl) (B 12 _ rfl) (B 13 _ rfl)) rfl ?_
  exact Vw.zret (de_ireturn (B 15 _ rfl)) rfl rfl ⟨_, rfl, (by unfold zLie at h; first | (rw [if_pos c_2] at h; exact h) | (rw [if_neg c_2, if_pos c_7] at h; exact h) | (rw [if_neg c_2, if_neg c_7] at h; exact h))⟩
theorem c_X11_nearest {d : Nat} {S : vS} {I : vI} {L : vL} {Q : Int32 → vS → vI → vL → Prop} {v lo hi : Int32}  (h : Q (zWithin v lo hi) S I L) : Vc mX11_nearest d 0 0 [.int v, .int lo, .int hi] S I L (ViQ Q) := by
  refine Vc.of rfl (Nat.le_of_ble_eq_true rfl) ?_
  have B := bs_X11_nearest
  show Vw mX11_nearest d 0 0 0 0 (ViQ Q) 0 [(0, .int v), (1, .int lo), (2, .int hi)] [] S I L
  refine Vw.iload_n (de_iload_0 (B 0 _ rfl)) 0 rfl (n := 1) rfl ?_
  refine Vw.iload_n (de_iload_1 (B 1 _ rfl)) 1 rfl (n := 2) rfl ?_
  refine Vw.icmp_ge (tgt := 9) (n := 5) (de_icmp_ge (B 2 _ rfl) (B 3 _ rfl) (B 4 _ rfl)) rfl rfl (fun c_2 => ?_) (fun c_2 => ?_)
  · refine Vw.iload_n (de_iload_0 (B 9 _ rfl)) 0 rfl (n := 10) rfl ?_
    refine Vw.iload_n (de_iload_2 (B 10 _ rfl)) 2 rfl (n := 11) rfl ?_
    refine Vw.icmp_le (tgt := 18) (n := 14) (de_icmp_le (B 11 _ rfl) (B 12 _ rfl) (B 13 _ rfl)) rfl rfl (fun c_11 => ?_) (fun c_11 => ?_)
    · refine Vw.iload_n (de_iload_0 (B 18 _ rfl)) 0 rfl (n := 19) rfl ?_
      exact Vw.iret (de_ireturn (B 19 _ rfl)) rfl ⟨_, rfl, (by unfold zWithin at h; first | (rw [if_pos c_2, if_pos c_11] at h; exact h) | (rw [if_pos c_2, if_neg c_11] at h; exact h) | (rw [if_pos c_2] at h; exact h) | (rw [if_neg c_2] at h; exact h))⟩
    refine Vw.iload_n (de_iload_2 (B 14 _ rfl)) 2 rfl (n := 15) rfl ?_
    refine Vw.goto_ (n := 19) (de_goto_ (B 15 _ rfl) (B 16 _ rfl) (B 17 _ rfl)) rfl ?_
    exact Vw.iret (de_ireturn (B 19 _ rfl)) rfl ⟨_, rfl, (by unfold zWithin at h; first | (rw [if_pos c_2, if_pos c_11] at h; exact h) | (rw [if_pos c_2, if_neg c_11] at h; exact h) | (rw [if_pos c_2] at h; exact h) | (rw [if_neg c_2] at h; exact h))⟩
  refine Vw.iload_n (de_iload_1 (B 5 _ rfl)) 1 rfl (n := 6) rfl ?_
  refine Vw.goto_ (n := 19) (de_goto_ (B 6 _ rfl) (B 7 _ rfl) (B 8 _ rfl)) rfl ?_
  exact Vw.iret (de_ireturn (B 19 _ rfl)) rfl ⟨_, rfl, (by unfold zWithin at h; first | (rw [if_pos c_2, if_pos c_11] at h; exact h) | (rw [if_pos c_2, if_neg c_11] at h; exact h) | (rw [if_pos c_2] at h; exact h) | (rw [if_neg c_2] at h; exact h))⟩
theorem c_X11_isTailor {d : Nat} {S : vS} {I : vI} {L : vL} {Q : Int32 → vS → vI → vL → Prop} {v : Int32}  (h : Q (zLie v 0 3) S I L) : Vc mX11_isTailor (d + 1) 0 0 [.int v] S I L (ViQ Q) := by
  refine Vc.of rfl (Nat.le_of_ble_eq_true rfl) ?_
  have B := bs_X11_isTailor
  show Vw mX11_isTailor (d + 1) 0 0 0 0 (ViQ Q) 0 [(0, .int v)] [] S I L
  refine Vw.iload_n (de_iload_0 (B 0 _ rfl)) 0 rfl (n := 1) rfl ?_
  refine Vw.iconst (v := 0) (de_iconst_0 (B 1 _ rfl)) rfl (n := 2) rfl ?_
  refine Vw.iconst (v := 3) (de_iconst_3 (B 2 _ rfl)) rfl (n := 3) rfl ?_
  refine Vw.isi3 (mi' := mX11_isWithin) (de_invokestatic (B 3 _ rfl) (B 4 _ rfl) (B 5 _ rfl)) ml_X11_165 ms_X11_isWithin (Nat.le_of_ble_eq_true rfl) (n := 6) rfl (c_X11_isWithin ?_)
  exact Vw.zret (de_ireturn (B 6 _ rfl)) rfl (zLie_z _ _ _) ⟨_, rfl, h⟩
theorem c_X11_canBePerson {d : Nat} {S : vS} {I : vI} {L : vL} {Q : Int32 → vS → vI → vL → Prop} {a s w : Int32}  (h : Q (zCan a s w) S I L) : Vc mX11_canBePerson (d + 1) 0 0 [.int a, .int s, .int w] S I L (ViQ Q) := by
  refine Vc.of rfl (Nat.le_of_ble_eq_true rfl) ?_
  have B := bs_X11_canBePerson
  show Vw mX11_canBePerson (d + 1) 0 0 0 0 (ViQ Q) 0 [(0, .int a), (1, .int s), (2, .int w)] [] S I L
  refine Vw.iload_n (de_iload_0 (B 0 _ rfl)) 0 rfl (n := 1) rfl ?_
  refine Vw.iconst (v := 0) (de_iconst_0 (B 1 _ rfl)) rfl (n := 2) rfl ?_
  refine Vw.sipush (v := 999) (de_sipush (B 2 _ rfl) (B 3 _ rfl) (B 4 _ rfl)) rfl (n := 5) rfl ?_
  refine Vw.isi3 (mi' := mX11_isWithin) (de_invokestatic (B 5 _ rfl) (B 6 _ rfl) (B 7 _ rfl)) ml_X11_165 ms_X11_isWithin (Nat.le_of_ble_eq_true rfl) (n := 8) rfl (c_X11_isWithin ?_)
  refine Vw.if_eq (tgt := 38) (n := 11) (de_if_eq (B 8 _ rfl) (B 9 _ rfl) (B 10 _ rfl)) rfl rfl (fun c_8 => ?_) (fun c_8 => ?_)
  · refine Vw.iconst (v := 0) (de_iconst_0 (B 38 _ rfl)) rfl (n := 39) rfl ?_
    exact Vw.zret (de_ireturn (B 39 _ rfl)) rfl rfl ⟨_, rfl, (by unfold zCan at h; first | (rw [if_pos c_8] at h; exact h) | (rw [if_neg c_8, if_pos c_20] at h; exact h) | (rw [if_neg c_8, if_neg c_20, if_pos c_31] at h; exact h) | (rw [if_neg c_8, if_neg c_20, if_neg c_31] at h; exact h))⟩
  refine Vw.iload_n (de_iload_1 (B 11 _ rfl)) 1 rfl (n := 12) rfl ?_
  refine Vw.bipush (v := 20) (de_bipush (B 12 _ rfl) (B 13 _ rfl)) rfl (n := 14) rfl ?_
  refine Vw.sipush (v := 250) (de_sipush (B 14 _ rfl) (B 15 _ rfl) (B 16 _ rfl)) rfl (n := 17) rfl ?_
  refine Vw.isi3 (mi' := mX11_isWithin) (de_invokestatic (B 17 _ rfl) (B 18 _ rfl) (B 19 _ rfl)) ml_X11_165 ms_X11_isWithin (Nat.le_of_ble_eq_true rfl) (n := 20) rfl (c_X11_isWithin ?_)
  refine Vw.if_eq (tgt := 38) (n := 23) (de_if_eq (B 20 _ rfl) (B 21 _ rfl) (B 22 _ rfl)) rfl rfl (fun c_20 => ?_) (fun c_20 => ?_)
  · refine Vw.iconst (v := 0) (de_iconst_0 (B 38 _ rfl)) rfl (n := 39) rfl ?_
    exact Vw.zret (de_ireturn (B 39 _ rfl)) rfl rfl ⟨_, rfl, (by unfold zCan at h; first | (rw [if_pos c_8] at h; exact h) | (rw [if_neg c_8, if_pos c_20] at h; exact h) | (rw [if_neg c_8, if_neg c_20, if_pos c_31] at h; exact h) | (rw [if_neg c_8, if_neg c_20, if_neg c_31] at h; exact h))⟩
  refine Vw.iload_n (de_iload_2 (B 23 _ rfl)) 2 rfl (n := 24) rfl ?_
  refine Vw.iconst (v := 5) (de_iconst_5 (B 24 _ rfl)) rfl (n := 25) rfl ?_
  refine Vw.sipush (v := 200) (de_sipush (B 25 _ rfl) (B 26 _ rfl) (B 27 _ rfl)) rfl (n := 28) rfl ?_
  refine Vw.isi3 (mi' := mX11_isWithin) (de_invokestatic (B 28 _ rfl) (B 29 _ rfl) (B 30 _ rfl)) ml_X11_165 ms_X11_isWithin (Nat.le_of_ble_eq_true rfl) (n := 31) rfl (c_X11_isWithin ?_)
  refine Vw.if_eq (tgt := 38) (n := 34) (de_if_eq (B 31 _ rfl) (B 32 _ rfl) (B 33 _ rfl)) rfl rfl (fun c_31 => ?_) (fun c_31 => ?_)
  · refine Vw.iconst (v := 0) (de_iconst_0 (B 38 _ rfl)) rfl (n := 39) rfl ?_
    exact Vw.zret (de_ireturn (B 39 _ rfl)) rfl rfl ⟨_, rfl, (by unfold zCan at h; first | (rw [if_pos c_8] at h; exact h) | (rw [if_neg c_8, if_pos c_20] at h; exact h) | (rw [if_neg c_8, if_neg c_20, if_pos c_31] at h; exact h) | (rw [if_neg c_8, if_neg c_20, if_neg c_31] at h; exact h))⟩
  refine Vw.iconst (v := 1) (de_iconst_1 (B 34 _ rfl)) rfl (n := 35) rfl ?_
  refine Vw.goto_ (n := 39) (de_goto_ (B 35 _ rfl) (B 36 _ rfl) (B 37 _ rfl)) rfl ?_
  exact Vw.zret (de_ireturn (B 39 _ rfl)) rfl rfl ⟨_, rfl, (by unfold zCan at h; first | (rw [if_pos c_8] at h; exact h) | (rw [if_neg c_8, if_pos c_20] at h; exact h) | (rw [if_neg c_8, if_neg c_20, if_pos c_31] at h; exact h) | (rw [if_neg c_8, if_neg c_20, if_neg c_31] at h; exact h))⟩
theorem c_X11_canBeCoat {d : Nat} {S : vS} {I : vI} {L : vL} {Q : Int32 → vS → vI → vL → Prop} {s w : Int32}  (h : Q (zSize s w) S I L) : Vc mX11_canBeCoat (d + 1) 0 0 [.int s, .int w] S I L (ViQ Q) := by
  refine Vc.of rfl (Nat.le_of_ble_eq_true rfl) ?_
  have B := bs_X11_canBeCoat
  show Vw mX11_canBeCoat (d + 1) 0 0 0 0 (ViQ Q) 0 [(0, .int s), (1, .int w)] [] S I L
  refine Vw.iload_n (de_iload_0 (B 0 _ rfl)) 0 rfl (n := 1) rfl ?_
  refine Vw.bipush (v := 20) (de_bipush (B 1 _ rfl) (B 2 _ rfl)) rfl (n := 3) rfl ?_
  refine Vw.sipush (v := 300) (de_sipush (B 3 _ rfl) (B 4 _ rfl) (B 5 _ rfl)) rfl (n := 6) rfl ?_
  refine Vw.isi3 (mi' := mX11_isWithin) (de_invokestatic (B 6 _ rfl) (B 7 _ rfl) (B 8 _ rfl)) ml_X11_165 ms_X11_isWithin (Nat.le_of_ble_eq_true rfl) (n := 9) rfl (c_X11_isWithin ?_)
  refine Vw.if_eq (tgt := 27) (n := 12) (de_if_eq (B 9 _ rfl) (B 10 _ rfl) (B 11 _ rfl)) rfl rfl (fun c_9 => ?_) (fun c_9 => ?_)
  · refine Vw.iconst (v := 0) (de_iconst_0 (B 27 _ rfl)) rfl (n := 28) rfl ?_
    exact Vw.zret (de_ireturn (B 28 _ rfl)) rfl rfl ⟨_, rfl, (by unfold zSize at h; first | (rw [if_pos c_9] at h; exact h) | (rw [if_neg c_9, if_pos c_20] at h; exact h) | (rw [if_neg c_9, if_neg c_20] at h; exact h))⟩
  refine Vw.iload_n (de_iload_1 (B 12 _ rfl)) 1 rfl (n := 13) rfl ?_
  refine Vw.iconst (v := 5) (de_iconst_5 (B 13 _ rfl)) rfl (n := 14) rfl ?_
  refine Vw.sipush (v := 250) (de_sipush (B 14 _ rfl) (B 15 _ rfl) (B 16 _ rfl)) rfl (n := 17) rfl ?_
  refine Vw.isi3 (mi' := mX11_isWithin) (de_invokestatic (B 17 _ rfl) (B 18 _ rfl) (B 19 _ rfl)) ml_X11_165 ms_X11_isWithin (Nat.le_of_ble_eq_true rfl) (n := 20) rfl (c_X11_isWithin ?_)
  refine Vw.if_eq (tgt := 27) (n := 23) (de_if_eq (B 20 _ rfl) (B 21 _ rfl) (B 22 _ rfl)) rfl rfl (fun c_20 => ?_) (fun c_20 => ?_)
  · refine Vw.iconst (v := 0) (de_iconst_0 (B 27 _ rfl)) rfl (n := 28) rfl ?_
    exact Vw.zret (de_ireturn (B 28 _ rfl)) rfl rfl ⟨_, rfl, (by unfold zSize at h; first | (rw [if_pos c_9] at h; exact h) | (rw [if_neg c_9, if_pos c_20] at h; exact h) | (rw [if_neg c_9, if_neg c_20] at h; exact h))⟩
  refine Vw.iconst (v := 1) (de_iconst_1 (B 23 _ rfl)) rfl (n := 24) rfl ?_
  refine Vw.goto_ (n := 28) (de_goto_ (B 24 _ rfl) (B 25 _ rfl) (B 26 _ rfl)) rfl ?_
  exact Vw.zret (de_ireturn (B 28 _ rfl)) rfl rfl ⟨_, rfl, (by unfold zSize at h; first | (rw [if_pos c_9] at h; exact h) | (rw [if_neg c_9, if_pos c_20] at h; exact h) | (rw [if_neg c_9, if_neg c_20] at h; exact h))⟩
theorem c_X3_set {d : Nat} {S : vS} {I : vI} {L : vL} {Q : vS → vI → vL → Prop} {a : Nat} {x y z w : Int32} (hk : (S.1 a).1 = 3) (h : ∀ I2, Oa a I I2 → perA I2 a = (x, y, z, w) → Q S I2 L) : Vc mX3_set d 0 0 [.ref a, .int x, .int y, .int z, .int w] S I L (VvQ Q) := by
  refine Vc.of rfl (Nat.le_of_ble_eq_true rfl) ?_
  have B := bs_X3_set
  show Vw mX3_set d 0 0 0 0 (VvQ Q) 0 [(0, .ref a), (1, .int x), (2, .int y), (3, .int z), (4, .int w)] [] S I L
  refine Vw.aload_n (de_aload_0 (B 0 _ rfl)) 0 rfl (n := 1) rfl ?_
  refine Vw.iload_n (de_iload_1 (B 1 _ rfl)) 1 rfl (n := 2) rfl ?_
  refine Vw.putI (de_putfield (B 2 _ rfl) (B 3 _ rfl) (B 4 _ rfl)) fl_X3_9 hk rfl rfl (n := 5) rfl ?_
  refine Vw.aload_n (de_aload_0 (B 5 _ rfl)) 0 rfl (n := 6) rfl ?_
  refine Vw.iload_n (de_iload_2 (B 6 _ rfl)) 2 rfl (n := 7) rfl ?_
  refine Vw.putI (de_putfield (B 7 _ rfl) (B 8 _ rfl) (B 9 _ rfl)) fl_X3_15 hk rfl rfl (n := 10) rfl ?_
  refine Vw.aload_n (de_aload_0 (B 10 _ rfl)) 0 rfl (n := 11) rfl ?_
  refine Vw.iload_n (de_iload_3 (B 11 _ rfl)) 3 rfl (n := 12) rfl ?_
  refine Vw.putI (de_putfield (B 12 _ rfl) (B 13 _ rfl) (B 14 _ rfl)) fl_X3_18 hk rfl rfl (n := 15) rfl ?_
  refine Vw.aload_n (de_aload_0 (B 15 _ rfl)) 0 rfl (n := 16) rfl ?_
  refine Vw.iload (de_iload (B 16 _ rfl) (B 17 _ rfl)) 4 rfl (n := 18) rfl ?_
  refine Vw.putI (de_putfield (B 18 _ rfl) (B 19 _ rfl) (B 20 _ rfl)) fl_X3_21 hk rfl rfl (n := 21) rfl ?_
  exact Vw.vret (de_return_ (B 21 _ rfl)) rfl ⟨rfl, (h _ (((Oa.rfl.up).up).up).up (by unfold perA; rw [up2_k (by decide), up2_k (by decide), up2_k (by decide), up2_s, up2_k (by decide), up2_k (by decide), up2_s, up2_k (by decide), up2_s, up2_s]))⟩
theorem c_X3_copyFrom {d : Nat} {S : vS} {I : vI} {L : vL} {Q : vS → vI → vL → Prop} {a b : Nat} (hk : (S.1 a).1 = 3) (hb : (S.1 b).1 = 3) (h : ∀ I2, Oa a I I2 → perA I2 a = perA I b → Q S I2 L) : Vc mX3_copyFrom (d + 1) 0 0 [.ref a, .ref b] S I L (VvQ Q) := by
  refine Vc.of rfl (Nat.le_of_ble_eq_true rfl) ?_
  have B := bs_X3_copyFrom
  show Vw mX3_copyFrom (d + 1) 0 0 0 0 (VvQ Q) 0 [(0, .ref a), (1, .ref b)] [] S I L
  refine Vw.aload_n (de_aload_0 (B 0 _ rfl)) 0 rfl (n := 1) rfl ?_
  refine Vw.aload_n (de_aload_1 (B 1 _ rfl)) 1 rfl (n := 2) rfl ?_
  refine Vw.getI (de_getfield (B 2 _ rfl) (B 3 _ rfl) (B 4 _ rfl)) fl_X3_9 rfl hb (n := 5) rfl ?_
  refine Vw.aload_n (de_aload_1 (B 5 _ rfl)) 1 rfl (n := 6) rfl ?_
  refine Vw.getI (de_getfield (B 6 _ rfl) (B 7 _ rfl) (B 8 _ rfl)) fl_X3_15 rfl hb (n := 9) rfl ?_
  refine Vw.aload_n (de_aload_1 (B 9 _ rfl)) 1 rfl (n := 10) rfl ?_
  refine Vw.getI (de_getfield (B 10 _ rfl) (B 11 _ rfl) (B 12 _ rfl)) fl_X3_18 rfl hb (n := 13) rfl ?_
  refine Vw.aload_n (de_aload_1 (B 13 _ rfl)) 1 rfl (n := 14) rfl ?_
  refine Vw.getI (de_getfield (B 14 _ rfl) (B 15 _ rfl) (B 16 _ rfl)) fl_X3_21 rfl hb (n := 17) rfl ?_
  refine Vw.ivv4 (mi' := mX3_set) (de_invokevirtual (B 17 _ rfl) (B 18 _ rfl) (B 19 _ rfl)) ml_X3_24 mv_X3_set hk (Nat.le_of_ble_eq_true rfl) (n := 20) rfl (c_X3_set hk (fun I2 f2 e2 => ?_))
  exact Vw.vret (de_return_ (B 20 _ rfl)) rfl ⟨rfl, (h I2 f2 e2)⟩
theorem c_X3_fitsInto {d : Nat} {S : vS} {I : vI} {L : vL} {Q : Int32 → vS → vI → vL → Prop} {a : Nat} {l w : Int32} (hk : (S.1 a).1 = 3) (h : Q (fitP l w (perA I a)) S I L) : Vc mX3_fitsInto d 0 0 [.ref a, .int l, .int w] S I L (ViQ Q) := by
  refine Vc.of rfl (Nat.le_of_ble_eq_true rfl) ?_
  have B := bs_X3_fitsInto
  show Vw mX3_fitsInto d 0 0 0 0 (ViQ Q) 0 [(0, .ref a), (1, .int l), (2, .int w)] [] S I L
  refine Vw.aload_n (de_aload_0 (B 0 _ rfl)) 0 rfl (n := 1) rfl ?_
  refine Vw.getI (de_getfield (B 1 _ rfl) (B 2 _ rfl) (B 3 _ rfl)) fl_X3_15 rfl hk (n := 4) rfl ?_
  refine Vw.iload_n (de_iload_1 (B 4 _ rfl)) 1 rfl (n := 5) rfl ?_
  refine Vw.icmp_gt (tgt := 20) (n := 8) (de_icmp_gt (B 5 _ rfl) (B 6 _ rfl) (B 7 _ rfl)) rfl rfl (fun c_5 => ?_) (fun c_5 => ?_)
  · refine Vw.iconst (v := 0) (de_iconst_0 (B 20 _ rfl)) rfl (n := 21) rfl ?_
    exact Vw.zret (de_ireturn (B 21 _ rfl)) rfl rfl ⟨_, rfl, (by first | exact qv (fitP_a (P := perA I a) c_5) h | exact qv (fitP_b (P := perA I a) c_5 c_13) h | exact qv (fitP_1 (P := perA I a) c_5 c_13) h)⟩
  refine Vw.aload_n (de_aload_0 (B 8 _ rfl)) 0 rfl (n := 9) rfl ?_
  refine Vw.getI (de_getfield (B 9 _ rfl) (B 10 _ rfl) (B 11 _ rfl)) fl_X3_18 rfl hk (n := 12) rfl ?_
  refine Vw.iload_n (de_iload_2 (B 12 _ rfl)) 2 rfl (n := 13) rfl ?_
  refine Vw.icmp_gt (tgt := 20) (n := 16) (de_icmp_gt (B 13 _ rfl) (B 14 _ rfl) (B 15 _ rfl)) rfl rfl (fun c_13 => ?_) (fun c_13 => ?_)
  · refine Vw.iconst (v := 0) (de_iconst_0 (B 20 _ rfl)) rfl (n := 21) rfl ?_
    exact Vw.zret (de_ireturn (B 21 _ rfl)) rfl rfl ⟨_, rfl, (by first | exact qv (fitP_a (P := perA I a) c_5) h | exact qv (fitP_b (P := perA I a) c_5 c_13) h | exact qv (fitP_1 (P := perA I a) c_5 c_13) h)⟩
  refine Vw.iconst (v := 1) (de_iconst_1 (B 16 _ rfl)) rfl (n := 17) rfl ?_
  refine Vw.goto_ (n := 21) (de_goto_ (B 17 _ rfl) (B 18 _ rfl) (B 19 _ rfl)) rfl ?_
  exact Vw.zret (de_ireturn (B 21 _ rfl)) rfl rfl ⟨_, rfl, (by first | exact qv (fitP_a (P := perA I a) c_5) h | exact qv (fitP_b (P := perA I a) c_5 c_13) h | exact qv (fitP_1 (P := perA I a) c_5 c_13) h)⟩
theorem c_X3_feast {d : Nat} {S : vS} {I : vI} {L : vL} {Q : vS → vI → vL → Prop} {a : Nat} (hk : (S.1 a).1 = 3) (h : ∀ I2, Oa a I I2 → perA I2 a = feastP (perA I a) → Q S I2 L) : Vc mX3_feast (d + 1) 0 0 [.ref a] S I L (VvQ Q) := by
  refine Vc.of rfl (Nat.le_of_ble_eq_true rfl) ?_
  have B := bs_X3_feast
  show Vw mX3_feast (d + 1) 0 0 0 0 (VvQ Q) 0 [(0, .ref a)] [] S I L
  refine Vw.aload_n (de_aload_0 (B 0 _ rfl)) 0 rfl (n := 1) rfl ?_
  refine Vw.aload_n (de_aload_0 (B 1 _ rfl)) 0 rfl (n := 2) rfl ?_
  refine Vw.getI (de_getfield (B 2 _ rfl) (B 3 _ rfl) (B 4 _ rfl)) fl_X3_18 rfl hk (n := 5) rfl ?_
  refine Vw.iconst (v := 1) (de_iconst_1 (B 5 _ rfl)) rfl (n := 6) rfl ?_
  refine Vw.iadd (de_iadd (B 6 _ rfl)) (n := 7) rfl ?_
  refine Vw.sipush (v := 200) (de_sipush (B 7 _ rfl) (B 8 _ rfl) (B 9 _ rfl)) rfl (n := 10) rfl ?_
  refine Vw.mminI (de_invokestatic (B 10 _ rfl) (B 11 _ rfl) (B 12 _ rfl)) ml_X3_28 (Nat.le_of_ble_eq_true rfl) (n := 13) rfl ?_
  refine Vw.putI (de_putfield (B 13 _ rfl) (B 14 _ rfl) (B 15 _ rfl)) fl_X3_18 hk rfl rfl (n := 16) rfl ?_
  exact Vw.vret (de_return_ (B 16 _ rfl)) rfl ⟨rfl, (h _ Oa.rfl.up (by unfold perA feastP; rw [up2_k (by decide), up2_k (by decide), up2_s, up2_k (by decide)]))⟩
def coA (I : vI) (a : Nat) (K : Nat → Int32) (c : Nat) : Prop := ∀ k, k < 8 → I a k = K (32 + 8 * c + k)
theorem share_x {v : Int32} (h : 0 ≤ v.toInt ∧ v.toInt ≤ 999) : v - (v + 1) / 2 = v / 2 := by
  obtain ⟨n, h1, rfl⟩ := nI_ex (x := v) (n := 1000) h.1 (by omega)
  rw [nI_1, show (2 : Int32) = nI 2 from rfl, nI_div (by omega) (by decide), nI_div (by omega) (by decide), nI_sub (by omega) (by omega)]
  congr 1; omega
theorem c_X0_shareOf {d : Nat} {S : vS} {I : vI} {L : vL} {Q : Int32 → vS → vI → vL → Prop} {a : Nat} {t v : Int32} (hk : (S.1 a).1 = 0) (hv : 0 ≤ v.toInt ∧ v.toInt ≤ 999) (h : Q (shareT t (I a 2) (I a 3) v) S I L) : Vc mX0_shareOf d 0 0 [.ref a, .int t, .int v] S I L (ViQ Q) := by
  refine Vc.of rfl (Nat.le_of_ble_eq_true rfl) ?_
  have B := bs_X0_shareOf
  show Vw mX0_shareOf d 0 0 0 0 (ViQ Q) 0 [(0, .ref a), (1, .int t), (2, .int v)] [] S I L
  refine Vw.iload_n (de_iload_2 (B 0 _ rfl)) 2 rfl (n := 1) rfl ?_
  refine Vw.iconst (v := 1) (de_iconst_1 (B 1 _ rfl)) rfl (n := 2) rfl ?_
  refine Vw.iadd (de_iadd (B 2 _ rfl)) (n := 3) rfl ?_
  refine Vw.iconst (v := 2) (de_iconst_2 (B 3 _ rfl)) rfl (n := 4) rfl ?_
  refine Vw.idiv (de_idiv (B 4 _ rfl)) (by decide) (n := 5) rfl ?_
  refine Vw.istore_n (lv2 := [(0, _), (1, _), (2, _), (3, _)]) (de_istore_3 (B 5 _ rfl)) rfl (by decide) [1, 2, 3, 0] rfl (n := 6) rfl ?_
  refine Vw.iload_n (de_iload_1 (B 6 _ rfl)) 1 rfl (n := 7) rfl ?_
  refine Vw.aload_n (de_aload_0 (B 7 _ rfl)) 0 rfl (n := 8) rfl ?_
  refine Vw.getI (de_getfield (B 8 _ rfl) (B 9 _ rfl) (B 10 _ rfl)) fl_X0_21 rfl hk (n := 11) rfl ?_
  refine Vw.icmp_ne (tgt := 18) (n := 14) (de_icmp_ne (B 11 _ rfl) (B 12 _ rfl) (B 13 _ rfl)) rfl rfl (fun c_11 => ?_) (fun c_11 => ?_)
  · refine Vw.iconst (v := 0) (de_iconst_0 (B 18 _ rfl)) rfl (n := 19) rfl ?_
    refine Vw.iload_n (de_iload_1 (B 19 _ rfl)) 1 rfl (n := 20) rfl ?_
    refine Vw.aload_n (de_aload_0 (B 20 _ rfl)) 0 rfl (n := 21) rfl ?_
    refine Vw.getI (de_getfield (B 21 _ rfl) (B 22 _ rfl) (B 23 _ rfl)) fl_X0_24 rfl hk (n := 24) rfl ?_
    refine Vw.icmp_ne (tgt := 33) (n := 27) (de_icmp_ne (B 24 _ rfl) (B 25 _ rfl) (B 26 _ rfl)) rfl rfl (fun c_24 => ?_) (fun c_24 => ?_)
    · refine Vw.iconst (v := 0) (de_iconst_0 (B 33 _ rfl)) rfl (n := 34) rfl ?_
      refine Vw.iadd (de_iadd (B 34 _ rfl)) (n := 35) rfl ?_
      exact Vw.iret (de_ireturn (B 35 _ rfl)) rfl ⟨_, rfl, (by unfold shareT at h; rw [← share_x hv] at h; first | (rw [if_pos c_11.symm, if_pos c_24.symm] at h; exact h) | (rw [if_pos c_11.symm, if_neg (fun z => c_24 z.symm)] at h; exact h) | (rw [if_neg (fun z => c_11 z.symm), if_pos c_24.symm] at h; exact h) | (rw [if_neg (fun z => c_11 z.symm), if_neg (fun z => c_24 z.symm)] at h; exact h))⟩
    refine Vw.iload_n (de_iload_2 (B 27 _ rfl)) 2 rfl (n := 28) rfl ?_
    refine Vw.iload_n (de_iload_3 (B 28 _ rfl)) 3 rfl (n := 29) rfl ?_
    refine Vw.isub (de_isub (B 29 _ rfl)) (n := 30) rfl ?_
    refine Vw.goto_ (n := 34) (de_goto_ (B 30 _ rfl) (B 31 _ rfl) (B 32 _ rfl)) rfl ?_
    refine Vw.iadd (de_iadd (B 34 _ rfl)) (n := 35) rfl ?_
    exact Vw.iret (de_ireturn (B 35 _ rfl)) rfl ⟨_, rfl, (by unfold shareT at h; rw [← share_x hv] at h; first | (rw [if_pos c_11.symm, if_pos c_24.symm] at h; exact h) | (rw [if_pos c_11.symm, if_neg (fun z => c_24 z.symm)] at h; exact h) | (rw [if_neg (fun z => c_11 z.symm), if_pos c_24.symm] at h; exact h) | (rw [if_neg (fun z => c_11 z.symm), if_neg (fun z => c_24 z.symm)] at h; exact h))⟩
  refine Vw.iload_n (de_iload_3 (B 14 _ rfl)) 3 rfl (n := 15) rfl ?_
  refine Vw.goto_ (n := 19) (de_goto_ (B 15 _ rfl) (B 16 _ rfl) (B 17 _ rfl)) rfl ?_
  refine Vw.iload_n (de_iload_1 (B 19 _ rfl)) 1 rfl (n := 20) rfl ?_
  refine Vw.aload_n (de_aload_0 (B 20 _ rfl)) 0 rfl (n := 21) rfl ?_
  refine Vw.getI (de_getfield (B 21 _ rfl) (B 22 _ rfl) (B 23 _ rfl)) fl_X0_24 rfl hk (n := 24) rfl ?_
  refine Vw.icmp_ne (tgt := 33) (n := 27) (de_icmp_ne (B 24 _ rfl) (B 25 _ rfl) (B 26 _ rfl)) rfl rfl (fun c_24 => ?_) (fun c_24 => ?_)
  · refine Vw.iconst (v := 0) (de_iconst_0 (B 33 _ rfl)) rfl (n := 34) rfl ?_
    refine Vw.iadd (de_iadd (B 34 _ rfl)) (n := 35) rfl ?_
    exact Vw.iret (de_ireturn (B 35 _ rfl)) rfl ⟨_, rfl, (by unfold shareT at h; rw [← share_x hv] at h; first | (rw [if_pos c_11.symm, if_pos c_24.symm] at h; exact h) | (rw [if_pos c_11.symm, if_neg (fun z => c_24 z.symm)] at h; exact h) | (rw [if_neg (fun z => c_11 z.symm), if_pos c_24.symm] at h; exact h) | (rw [if_neg (fun z => c_11 z.symm), if_neg (fun z => c_24 z.symm)] at h; exact h))⟩
  refine Vw.iload_n (de_iload_2 (B 27 _ rfl)) 2 rfl (n := 28) rfl ?_
  refine Vw.iload_n (de_iload_3 (B 28 _ rfl)) 3 rfl (n := 29) rfl ?_
  refine Vw.isub (de_isub (B 29 _ rfl)) (n := 30) rfl ?_
  refine Vw.goto_ (n := 34) (de_goto_ (B 30 _ rfl) (B 31 _ rfl) (B 32 _ rfl)) rfl ?_
  refine Vw.iadd (de_iadd (B 34 _ rfl)) (n := 35) rfl ?_
  exact Vw.iret (de_ireturn (B 35 _ rfl)) rfl ⟨_, rfl, (by unfold shareT at h; rw [← share_x hv] at h; first | (rw [if_pos c_11.symm, if_pos c_24.symm] at h; exact h) | (rw [if_pos c_11.symm, if_neg (fun z => c_24 z.symm)] at h; exact h) | (rw [if_neg (fun z => c_11 z.symm), if_pos c_24.symm] at h; exact h) | (rw [if_neg (fun z => c_11 z.symm), if_neg (fun z => c_24 z.symm)] at h; exact h))⟩
theorem c_X0_copyFrom {d : Nat} {S : vS} {I : vI} {L : vL} {Q : vS → vI → vL → Prop} {a b : Nat} (hk : (S.1 a).1 = 0) (hb : (S.1 b).1 = 0) (hab : a ≠ b) (h : ∀ I2, Oa a I I2 → (∀ k, k < 8 → I2 a k = I b k) → Q S I2 L) : Vc mX0_copyFrom d 0 0 [.ref a, .ref b] S I L (VvQ Q) := by
  refine Vc.of rfl (Nat.le_of_ble_eq_true rfl) ?_
  have B := bs_X0_copyFrom
  show Vw mX0_copyFrom d 0 0 0 0 (VvQ Q) 0 [(0, .ref a), (1, .ref b)] [] S I L
  refine Vw.aload_n (de_aload_0 (B 0 _ rfl)) 0 rfl (n := 1) rfl ?_
  refine Vw.aload_n (de_aload_1 (B 1 _ rfl)) 1 rfl (n := 2) rfl ?_
  refine Vw.getI (de_getfield (B 2 _ rfl) (B 3 _ rfl) (B 4 _ rfl)) fl_X0_15 rfl hb (n := 5) rfl ?_
  refine Vw.putI (de_putfield (B 5 _ rfl) (B 6 _ rfl) (B 7 _ rfl)) fl_X0_15 hk rfl rfl (n := 8) rfl ?_
  refine Vw.aload_n (de_aload_0 (B 8 _ rfl)) 0 rfl (n := 9) rfl ?_
  refine Vw.aload_n (de_aload_1 (B 9 _ rfl)) 1 rfl (n := 10) rfl ?_
  refine Vw.getI (de_getfield (B 10 _ rfl) (B 11 _ rfl) (B 12 _ rfl)) fl_X0_18 rfl hb (n := 13) rfl ?_
  rw [up2_a (show b ≠ a from fun z => hab z.symm)]
  refine Vw.putI (de_putfield (B 13 _ rfl) (B 14 _ rfl) (B 15 _ rfl)) fl_X0_18 hk rfl rfl (n := 16) rfl ?_
  refine Vw.aload_n (de_aload_0 (B 16 _ rfl)) 0 rfl (n := 17) rfl ?_
  refine Vw.aload_n (de_aload_1 (B 17 _ rfl)) 1 rfl (n := 18) rfl ?_
  refine Vw.getI (de_getfield (B 18 _ rfl) (B 19 _ rfl) (B 20 _ rfl)) fl_X0_21 rfl hb (n := 21) rfl ?_
  rw [up2_a (show b ≠ a from fun z => hab z.symm), up2_a (show b ≠ a from fun z => hab z.symm)]
  refine Vw.putI (de_putfield (B 21 _ rfl) (B 22 _ rfl) (B 23 _ rfl)) fl_X0_21 hk rfl rfl (n := 24) rfl ?_
  refine Vw.aload_n (de_aload_0 (B 24 _ rfl)) 0 rfl (n := 25) rfl ?_
  refine Vw.aload_n (de_aload_1 (B 25 _ rfl)) 1 rfl (n := 26) rfl ?_
  refine Vw.getI (de_getfield (B 26 _ rfl) (B 27 _ rfl) (B 28 _ rfl)) fl_X0_24 rfl hb (n := 29) rfl ?_
  rw [up2_a (show b ≠ a from fun z => hab z.symm), up2_a (show b ≠ a from fun z => hab z.symm), up2_a (show b ≠ a from fun z => hab z.symm)]
  refine Vw.putI (de_putfield (B 29 _ rfl) (B 30 _ rfl) (B 31 _ rfl)) fl_X0_24 hk rfl rfl (n := 32) rfl ?_
  refine Vw.aload_n (de_aload_0 (B 32 _ rfl)) 0 rfl (n := 33) rfl ?_
  refine Vw.aload_n (de_aload_1 (B 33 _ rfl)) 1 rfl (n := 34) rfl ?_
  refine Vw.getI (de_getfield (B 34 _ rfl) (B 35 _ rfl) (B 36 _ rfl)) fl_X0_9 rfl hb (n := 37) rfl ?_
  rw [up2_a (show b ≠ a from fun z => hab z.symm), up2_a (show b ≠ a from fun z => hab z.symm), up2_a (show b ≠ a from fun z => hab z.symm), up2_a (show b ≠ a from fun z => hab z.symm)]
  refine Vw.putI (de_putfield (B 37 _ rfl) (B 38 _ rfl) (B 39 _ rfl)) fl_X0_9 hk rfl rfl (n := 40) rfl ?_
  refine Vw.aload_n (de_aload_0 (B 40 _ rfl)) 0 rfl (n := 41) rfl ?_
  refine Vw.aload_n (de_aload_1 (B 41 _ rfl)) 1 rfl (n := 42) rfl ?_
  refine Vw.getI (de_getfield (B 42 _ rfl) (B 43 _ rfl) (B 44 _ rfl)) fl_X0_27 rfl hb (n := 45) rfl ?_
  rw [up2_a (show b ≠ a from fun z => hab z.symm), up2_a (show b ≠ a from fun z => hab z.symm), up2_a (show b ≠ a from fun z => hab z.symm), up2_a (show b ≠ a from fun z => hab z.symm), up2_a (show b ≠ a from fun z => hab z.symm)]
  refine Vw.putI (de_putfield (B 45 _ rfl) (B 46 _ rfl) (B 47 _ rfl)) fl_X0_27 hk rfl rfl (n := 48) rfl ?_
  refine Vw.aload_n (de_aload_0 (B 48 _ rfl)) 0 rfl (n := 49) rfl ?_
  refine Vw.aload_n (de_aload_1 (B 49 _ rfl)) 1 rfl (n := 50) rfl ?_
  refine Vw.getI (de_getfield (B 50 _ rfl) (B 51 _ rfl) (B 52 _ rfl)) fl_X0_30 rfl hb (n := 53) rfl ?_
  rw [up2_a (show b ≠ a from fun z => hab z.symm), up2_a (show b ≠ a from fun z => hab z.symm), up2_a (show b ≠ a from fun z => hab z.symm), up2_a (show b ≠ a from fun z => hab z.symm), up2_a (show b ≠ a from fun z => hab z.symm), up2_a (show b ≠ a from fun z => hab z.symm)]
  refine Vw.putI (de_putfield (B 53 _ rfl) (B 54 _ rfl) (B 55 _ rfl)) fl_X0_30 hk rfl rfl (n := 56) rfl ?_
  refine Vw.aload_n (de_aload_0 (B 56 _ rfl)) 0 rfl (n := 57) rfl ?_
  refine Vw.aload_n (de_aload_1 (B 57 _ rfl)) 1 rfl (n := 58) rfl ?_
  refine Vw.getI (de_getfield (B 58 _ rfl) (B 59 _ rfl) (B 60 _ rfl)) fl_X0_33 rfl hb (n := 61) rfl ?_
  rw [up2_a (show b ≠ a from fun z => hab z.symm), up2_a (show b ≠ a from fun z => hab z.symm), up2_a (show b ≠ a from fun z => hab z.symm), up2_a (show b ≠ a from fun z => hab z.symm), up2_a (show b ≠ a from fun z => hab z.symm), up2_a (show b ≠ a from fun z => hab z.symm), up2_a (show b ≠ a from fun z => hab z.symm)]
  refine Vw.putI (de_putfield (B 61 _ rfl) (B 62 _ rfl) (B 63 _ rfl)) fl_X0_33 hk rfl rfl (n := 64) rfl ?_
  exact Vw.vret (de_return_ (B 64 _ rfl)) rfl ⟨rfl, (h _ (((((((Oa.rfl.up).up).up).up).up).up).up).up (fun k hk8 => by rcases (show k = 0 ∨ k = 1 ∨ k = 2 ∨ k = 3 ∨ k = 4 ∨ k = 5 ∨ k = 6 ∨ k = 7 by omega) with rfl | rfl | rfl | rfl | rfl | rfl | rfl | rfl <;> (simp (disch := omega) only [up2_s, up2_k, up2_a])))⟩
theorem c_X0_sewn {d : Nat} {S : vS} {I : vI} {L : vL} {Q : vS → vI → vL → Prop} {a : Nat} {f s q l w : Int32} (hk : (S.1 a).1 = 0) (h : ∀ I2, Oa a I I2 → I2 a 0 = l → I2 a 1 = w → I2 a 2 = f → I2 a 3 = s → I2 a 4 = q → I2 a 5 = 2 → I2 a 6 = 3 → I2 a 7 = 0 → Q S I2 L) : Vc mX0_sewn d 0 0 [.ref a, .int f, .int s, .int q, .int l, .int w] S I L (VvQ Q) := by
  refine Vc.of rfl (Nat.le_of_ble_eq_true rfl) ?_
  have B := bs_X0_sewn
  show Vw mX0_sewn d 0 0 0 0 (VvQ Q) 0 [(0, .ref a), (1, .int f), (2, .int s), (3, .int q), (4, .int l), (5, .int w)] [] S I L
  refine Vw.aload_n (de_aload_0 (B 0 _ rfl)) 0 rfl (n := 1) rfl ?_
  refine Vw.iload (de_iload (B 1 _ rfl) (B 2 _ rfl)) 4 rfl (n := 3) rfl ?_
  refine Vw.putI (de_putfield (B 3 _ rfl) (B 4 _ rfl) (B 5 _ rfl)) fl_X0_15 hk rfl rfl (n := 6) rfl ?_
  refine Vw.aload_n (de_aload_0 (B 6 _ rfl)) 0 rfl (n := 7) rfl ?_
  refine Vw.iload (de_iload (B 7 _ rfl) (B 8 _ rfl)) 5 rfl (n := 9) rfl ?_
  refine Vw.putI (de_putfield (B 9 _ rfl) (B 10 _ rfl) (B 11 _ rfl)) fl_X0_18 hk rfl rfl (n := 12) rfl ?_
  refine Vw.aload_n (de_aload_0 (B 12 _ rfl)) 0 rfl (n := 13) rfl ?_
  refine Vw.iload_n (de_iload_1 (B 13 _ rfl)) 1 rfl (n := 14) rfl ?_
  refine Vw.putI (de_putfield (B 14 _ rfl) (B 15 _ rfl) (B 16 _ rfl)) fl_X0_21 hk rfl rfl (n := 17) rfl ?_
  refine Vw.aload_n (de_aload_0 (B 17 _ rfl)) 0 rfl (n := 18) rfl ?_
  refine Vw.iload_n (de_iload_2 (B 18 _ rfl)) 2 rfl (n := 19) rfl ?_
  refine Vw.putI (de_putfield (B 19 _ rfl) (B 20 _ rfl) (B 21 _ rfl)) fl_X0_24 hk rfl rfl (n := 22) rfl ?_
  refine Vw.aload_n (de_aload_0 (B 22 _ rfl)) 0 rfl (n := 23) rfl ?_
  refine Vw.iload_n (de_iload_3 (B 23 _ rfl)) 3 rfl (n := 24) rfl ?_
  refine Vw.putI (de_putfield (B 24 _ rfl) (B 25 _ rfl) (B 26 _ rfl)) fl_X0_9 hk rfl rfl (n := 27) rfl ?_
  refine Vw.aload_n (de_aload_0 (B 27 _ rfl)) 0 rfl (n := 28) rfl ?_
  refine Vw.iconst (v := 2) (de_iconst_2 (B 28 _ rfl)) rfl (n := 29) rfl ?_
  refine Vw.putI (de_putfield (B 29 _ rfl) (B 30 _ rfl) (B 31 _ rfl)) fl_X0_27 hk rfl rfl (n := 32) rfl ?_
  refine Vw.aload_n (de_aload_0 (B 32 _ rfl)) 0 rfl (n := 33) rfl ?_
  refine Vw.iconst (v := 3) (de_iconst_3 (B 33 _ rfl)) rfl (n := 34) rfl ?_
  refine Vw.putI (de_putfield (B 34 _ rfl) (B 35 _ rfl) (B 36 _ rfl)) fl_X0_30 hk rfl rfl (n := 37) rfl ?_
  refine Vw.aload_n (de_aload_0 (B 37 _ rfl)) 0 rfl (n := 38) rfl ?_
  refine Vw.iconst (v := 0) (de_iconst_0 (B 38 _ rfl)) rfl (n := 39) rfl ?_
  refine Vw.putI (de_putfield (B 39 _ rfl) (B 40 _ rfl) (B 41 _ rfl)) fl_X0_33 hk rfl rfl (n := 42) rfl ?_
  exact Vw.vret (de_return_ (B 42 _ rfl)) rfl ⟨rfl, (h _ (((((((Oa.rfl.up).up).up).up).up).up).up).up (by simp (disch := omega) only [up2_s, up2_k, up2_a]) (by simp (disch := omega) only [up2_s, up2_k, up2_a]) (by simp (disch := omega) only [up2_s, up2_k, up2_a]) (by simp (disch := omega) only [up2_s, up2_k, up2_a]) (by simp (disch := omega) only [up2_s, up2_k, up2_a]) (by simp (disch := omega) only [up2_s, up2_k, up2_a]) (by simp (disch := omega) only [up2_s, up2_k, up2_a]) (by simp (disch := omega) only [up2_s, up2_k, up2_a]))⟩
