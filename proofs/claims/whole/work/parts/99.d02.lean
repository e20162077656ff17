/-! The reader: tokens -/
def knO (x : Int32) : Int32 := if ¬ zLie x 97 122 = 0 then 256 else if ¬ zLie x 48 57 = 0 then 257 else x
def knF (c : Int32) : Int32 := if isSm c = true then 256 else if isDg c = true then 257 else c &&& 255
def bt (x : Int32) : Prop := -128 ≤ x.toInt ∧ x.toInt ≤ 127
def ofB (i : Fin 256) : Int32 := Int32.ofInt ((i.1 : Int) - 128)
theorem bt_ex {x : Int32} (h : bt x) : ∃ i : Fin 256, x = ofB i := by
  obtain ⟨h1, h2⟩ := h
  refine ⟨⟨(x.toInt + 128).toNat, by omega⟩, ?_⟩
  unfold ofB
  rw [show (((x.toInt + 128).toNat : Nat) : Int) - 128 = x.toInt by omega, Int32.ofInt_toInt]
theorem bt_all : ∀ i : Fin 256, knO (ofB i &&& 255) = knF (ofB i) ∧ ((ofB i &&& 255) = 32 ↔ ofB i = 32) ∧ (isSm (ofB i) = true → ofB i &&& 255 = ofB i ∧ isDg (ofB i) = false) ∧ (isDg (ofB i) = true → ofB i &&& 255 = ofB i ∧ 48 ≤ (ofB i).toInt ∧ (ofB i).toInt ≤ 57) ∧ (∃ c, c < 256 ∧ ofB i &&& 255 = nI c) := by
  intro i
  have h : ∀ i : Fin 256, knO (ofB i &&& 255) = knF (ofB i) ∧ ((ofB i &&& 255) = 32 ↔ ofB i = 32) ∧ (isSm (ofB i) = true → ofB i &&& 255 = ofB i ∧ isDg (ofB i) = false) ∧ (isDg (ofB i) = true → ofB i &&& 255 = ofB i ∧ 48 ≤ (ofB i).toInt ∧ (ofB i).toInt ≤ 57) := by decide +kernel
  obtain ⟨h1, h2, h3, h4⟩ := h i
  exact ⟨h1, h2, h3, h4, by obtain ⟨j, j1, j2⟩ := pk_andE (ofB i) (m := 255) 8 rfl; exact ⟨j, j1, j2⟩⟩
theorem bt_f {x : Int32} (h : bt x) : knO (x &&& 255) = knF x ∧ ((x &&& 255) = 32 ↔ x = 32) ∧ (isSm x = true → x &&& 255 = x ∧ isDg x = false) ∧ (isDg x = true → x &&& 255 = x ∧ 48 ≤ x.toInt ∧ x.toInt ≤ 57) ∧ (∃ c, c < 256 ∧ x &&& 255 = nI c) := by
  obtain ⟨i, rfl⟩ := bt_ex h
  exact bt_all i
def nbS (u : Nat → Int32) (a : Nat) : Nat → Int32
  | 0 => 0
  | j + 1 => zMin 1001 (nbS u a j * 10 + (u (a + j) &&& 255) - 48)
def nmF (u : Nat → Int32) (a e : Nat) : Int32 := if isDg (u a) = true then nbS u a (e - a) else -1
theorem zl_in {v lo hi : Int32} (h1 : ¬ v < lo) (h2 : ¬ hi < v) : ¬ zLie v lo hi = 0 := by unfold zLie; rw [if_neg h1, if_neg h2]; decide
theorem zl_lo {v lo hi : Int32} (h1 : v < lo) : zLie v lo hi = 0 := by unfold zLie; rw [if_pos h1]
theorem zl_hi {v lo hi : Int32} (h1 : ¬ v < lo) (h2 : hi < v) : zLie v lo hi = 0 := by unfold zLie; rw [if_neg h1, if_pos h2]
theorem c_X5_kindOf {d : Nat} {S : vS} {I : vI} {L : vL} {Q : Int32 → vS → vI → vL → Prop} {x : Int32}  (h : Q (knO x) S I L) : Vc mX5_kindOf d 0 0 [.int x] S I L (ViQ Q) := by
  refine Vc.of rfl (Nat.le_of_ble_eq_true rfl) ?_
  have B := bs_X5_kindOf
  show Vw mX5_kindOf d 0 0 0 0 (ViQ Q) 0 [(0, .int x)] [] S I L
  refine Vw.iload_n (de_iload_0 (B 0 _ rfl)) 0 rfl (n := 1) rfl ?_
  refine Vw.bipush (v := 97) (de_bipush (B 1 _ rfl) (B 2 _ rfl)) rfl (n := 3) rfl ?_
  refine Vw.icmp_lt (tgt := 16) (n := 6) (de_icmp_lt (B 3 _ rfl) (B 4 _ rfl) (B 5 _ rfl)) rfl rfl (fun c_3 => ?_) (fun c_3 => ?_)
  · refine Vw.iload_n (de_iload_0 (B 16 _ rfl)) 0 rfl (n := 17) rfl ?_
    refine Vw.bipush (v := 48) (de_bipush (B 17 _ rfl) (B 18 _ rfl)) rfl (n := 19) rfl ?_
    refine Vw.icmp_lt (tgt := 34) (n := 22) (de_icmp_lt (B 19 _ rfl) (B 20 _ rfl) (B 21 _ rfl)) rfl rfl (fun c_19 => ?_) (fun c_19 => ?_)
    · refine Vw.iload_n (de_iload_0 (B 34 _ rfl)) 0 rfl (n := 35) rfl ?_
      exact Vw.iret (de_ireturn (B 35 _ rfl)) rfl ⟨_, rfl, (by
    refine qv ?_ h
    unfold knO
    have a1 : zLie x 97 122 = 0 := by first | exact zl_lo c_3 | exact zl_hi c_3 c_9
    rw [if_neg (fun q => q a1)]
    first
    | rw [if_pos (zl_in c_19 c_25)]
    | (have q0 : zLie x 48 57 = 0 := zl_hi c_19 c_25
       rw [if_neg (fun q => q q0)])
    | (have q0 : zLie x 48 57 = 0 := zl_lo c_19
       rw [if_neg (fun q => q q0)]))⟩
    refine Vw.iload_n (de_iload_0 (B 22 _ rfl)) 0 rfl (n := 23) rfl ?_
    refine Vw.bipush (v := 57) (de_bipush (B 23 _ rfl) (B 24 _ rfl)) rfl (n := 25) rfl ?_
    refine Vw.icmp_gt (tgt := 34) (n := 28) (de_icmp_gt (B 25 _ rfl) (B 26 _ rfl) (B 27 _ rfl)) rfl rfl (fun c_25 => ?_) (fun c_25 => ?_)
    · refine Vw.iload_n (de_iload_0 (B 34 _ rfl)) 0 rfl (n := 35) rfl ?_
      exact Vw.iret (de_ireturn (B 35 _ rfl)) rfl ⟨_, rfl, (by
    refine qv ?_ h
    unfold knO
    have a1 : zLie x 97 122 = 0 := by first | exact zl_lo c_3 | exact zl_hi c_3 c_9
    rw [if_neg (fun q => q a1)]
    first
    | rw [if_pos (zl_in c_19 c_25)]
    | (have q0 : zLie x 48 57 = 0 := zl_hi c_19 c_25
       rw [if_neg (fun q => q q0)])
    | (have q0 : zLie x 48 57 = 0 := zl_lo c_19
       rw [if_neg (fun q => q q0)]))⟩
    refine Vw.sipush (v := 257) (de_sipush (B 28 _ rfl) (B 29 _ rfl) (B 30 _ rfl)) rfl (n := 31) rfl ?_
    refine Vw.goto_ (n := 35) (de_goto_ (B 31 _ rfl) (B 32 _ rfl) (B 33 _ rfl)) rfl ?_
    exact Vw.iret (de_ireturn (B 35 _ rfl)) rfl ⟨_, rfl, (by
    refine qv ?_ h
    unfold knO
    have a1 : zLie x 97 122 = 0 := by first | exact zl_lo c_3 | exact zl_hi c_3 c_9
    rw [if_neg (fun q => q a1)]
    first
    | rw [if_pos (zl_in c_19 c_25)]
    | (have q0 : zLie x 48 57 = 0 := zl_hi c_19 c_25
       rw [if_neg (fun q => q q0)])
    | (have q0 : zLie x 48 57 = 0 := zl_lo c_19
       rw [if_neg (fun q => q q0)]))⟩
  refine Vw.iload_n (de_iload_0 (B 6 _ rfl)) 0 rfl (n := 7) rfl ?_
  refine Vw.bipush (v := 122) (de_bipush (B 7 _ rfl) (B 8 _ rfl)) rfl (n := 9) rfl ?_
  refine Vw.icmp_gt (tgt := 16) (n := 12) (de_icmp_gt (B 9 _ rfl) (B 10 _ rfl) (B 11 _ rfl)) rfl rfl (fun c_9 => ?_) (fun c_9 => ?_)
  · refine Vw.iload_n (de_iload_0 (B 16 _ rfl)) 0 rfl (n := 17) rfl ?_
    refine Vw.bipush (v := 48) (de_bipush (B 17 _ rfl) (B 18 _ rfl)) rfl (n := 19) rfl ?_
    refine Vw.icmp_lt (tgt := 34) (n := 22) (de_icmp_lt (B 19 _ rfl) (B 20 _ rfl) (B 21 _ rfl)) rfl rfl (fun c_19 => ?_) (fun c_19 => ?_)
    · refine Vw.iload_n (de_iload_0 (B 34 _ rfl)) 0 rfl (n := 35) rfl ?_
      exact Vw.iret (de_ireturn (B 35 _ rfl)) rfl ⟨_, rfl, (by
    refine qv ?_ h
    unfold knO
    have a1 : zLie x 97 122 = 0 := by first | exact zl_lo c_3 | exact zl_hi c_3 c_9
    rw [if_neg (fun q => q a1)]
    first
    | rw [if_pos (zl_in c_19 c_25)]
    | (have q0 : zLie x 48 57 = 0 := zl_hi c_19 c_25
       rw [if_neg (fun q => q q0)])
    | (have q0 : zLie x 48 57 = 0 := zl_lo c_19
       rw [if_neg (fun q => q q0)]))⟩
    refine Vw.iload_n (de_iload_0 (B 22 _ rfl)) 0 rfl (n := 23) rfl ?_
    refine Vw.bipush (v := 57) (de_bipush (B 23 _ rfl) (B 24 _ rfl)) rfl (n := 25) rfl ?_
    refine Vw.icmp_gt (tgt := 34) (n := 28) (de_icmp_gt (B 25 _ rfl) (B 26 _ rfl) (B 27 _ rfl)) rfl rfl (fun c_25 => ?_) (fun c_25 => ?_)
    · refine Vw.iload_n (de_iload_0 (B 34 _ rfl)) 0 rfl (n := 35) rfl ?_
      exact Vw.iret (de_ireturn (B 35 _ rfl)) rfl ⟨_, rfl, (by
    refine qv ?_ h
    unfold knO
    have a1 : zLie x 97 122 = 0 := by first | exact zl_lo c_3 | exact zl_hi c_3 c_9
    rw [if_neg (fun q => q a1)]
    first
    | rw [if_pos (zl_in c_19 c_25)]
    | (have q0 : zLie x 48 57 = 0 := zl_hi c_19 c_25
       rw [if_neg (fun q => q q0)])
    | (have q0 : zLie x 48 57 = 0 := zl_lo c_19
       rw [if_neg (fun q => q q0)]))⟩
    refine Vw.sipush (v := 257) (de_sipush (B 28 _ rfl) (B 29 _ rfl) (B 30 _ rfl)) rfl (n := 31) rfl ?_
    refine Vw.goto_ (n := 35) (de_goto_ (B 31 _ rfl) (B 32 _ rfl) (B 33 _ rfl)) rfl ?_
    exact Vw.iret (de_ireturn (B 35 _ rfl)) rfl ⟨_, rfl, (by
    refine qv ?_ h
    unfold knO
    have a1 : zLie x 97 122 = 0 := by first | exact zl_lo c_3 | exact zl_hi c_3 c_9
    rw [if_neg (fun q => q a1)]
    first
    | rw [if_pos (zl_in c_19 c_25)]
    | (have q0 : zLie x 48 57 = 0 := zl_hi c_19 c_25
       rw [if_neg (fun q => q q0)])
    | (have q0 : zLie x 48 57 = 0 := zl_lo c_19
       rw [if_neg (fun q => q q0)]))⟩
  refine Vw.sipush (v := 256) (de_sipush (B 12 _ rfl) (B 13 _ rfl) (B 14 _ rfl)) rfl (n := 15) rfl ?_
  exact Vw.iret (de_ireturn (B 15 _ rfl)) rfl ⟨_, rfl, (qv (by unfold knO; rw [if_pos (zl_in c_3 c_9)]) h)⟩
theorem c_X5_numberBetween {d : Nat} {S : vS} {I : vI} {L : vL} {Q : Int32 → vS → vI → vL → Prop} {s tp a e : Nat} {u : Nat → Int32} (hR : ReadS S (s + 74)) (ht : S.2.1 (s + 74) 5 = some tp) (htk : S.1 tp = (100, 400)) (hu : ∀ x, x < 400 → I tp x = u x &&& 255 ∧ bt (u x)) (hae : a ≤ e) (he : e ≤ 400) (h : Q (nbS u a (e - a)) S I L) : Vc mX5_numberBetween (d + 1) 0 0 [.ref (s + 74), .int (nI a), .int (nI e)] S I L (ViQ Q) := by
  refine Vc.of rfl (Nat.le_of_ble_eq_true rfl) ?_
  have B := bs_X5_numberBetween
  show Vw mX5_numberBetween (d + 1) 0 0 0 0 (ViQ Q) 0 [(0, .ref (s + 74)), (1, .int (nI a)), (2, .int (nI e))] [] S I L
  have loop : ∀ j, j ≤ e - a → Vw mX5_numberBetween (d + 1) 0 0 0 0 (ViQ Q) 5 [(0, .ref (s + 74)), (1, .int (nI a)), (2, .int (nI e)), (3, .int (nbS u a j)), (4, .int (nI (a + j)))] [] S I L := by
    refine loop_up (fun j hj ih => ?_)
    refine Vw.iload (de_iload (B 5 _ rfl) (B 6 _ rfl)) 4 rfl (n := 7) rfl ?_
    refine Vw.iload_n (de_iload_2 (B 7 _ rfl)) 2 rfl (n := 8) rfl ?_
    refine Vw.icmp_ge (tgt := 39) (n := 11) (de_icmp_ge (B 8 _ rfl) (B 9 _ rfl) (B 10 _ rfl)) rfl rfl (fun c_8 => ?_) (fun c_8 => ?_)
    · have z_8 : e ≤ a + j := (nI_leI (a := e) (b := a + j) (by omega) (by omega)).mp c_8
      obtain rfl : j = e - a := by omega
      refine Vw.iload_n (de_iload_3 (B 39 _ rfl)) 3 rfl (n := 40) rfl ?_
      exact Vw.iret (de_ireturn (B 40 _ rfl)) rfl ⟨_, rfl, h⟩
    have z_8 : j < e - a := by rcases Nat.lt_or_ge j (e - a) with z | z; exact z; exact absurd ((nI_leI (a := e) (b := a + j) (by omega) (by omega)).mpr (by omega)) c_8
    refine Vw.iload_n (de_iload_3 (B 11 _ rfl)) 3 rfl (n := 12) rfl ?_
    refine Vw.bipush (v := 10) (de_bipush (B 12 _ rfl) (B 13 _ rfl)) rfl (n := 14) rfl ?_
    refine Vw.imul (de_imul (B 14 _ rfl)) (n := 15) rfl ?_
    refine Vw.aload_n (de_aload_0 (B 15 _ rfl)) 0 rfl (n := 16) rfl ?_
    refine Vw.getR (de_getfield (B 16 _ rfl) (B 17 _ rfl) (B 18 _ rfl)) fl_X5_33 rfl hR.k ht (n := 19) rfl ?_
    refine Vw.iload (de_iload (B 19 _ rfl) (B 20 _ rfl)) 4 rfl (n := 21) rfl ?_
    refine Vw.iald (de_iaload (B 21 _ rfl)) htk (vIx_n (k := a + j) rfl (by omega)) (n := 22) rfl ?_
    rw [(hu (a + j) (by omega)).1]
    refine Vw.iadd (de_iadd (B 22 _ rfl)) (n := 23) rfl ?_
    refine Vw.bipush (v := 48) (de_bipush (B 23 _ rfl) (B 24 _ rfl)) rfl (n := 25) rfl ?_
    refine Vw.isub (de_isub (B 25 _ rfl)) (n := 26) rfl ?_
    refine Vw.sipush (v := 1001) (de_sipush (B 26 _ rfl) (B 27 _ rfl) (B 28 _ rfl)) rfl (n := 29) rfl ?_
    refine Vw.mminI (de_invokestatic (B 29 _ rfl) (B 30 _ rfl) (B 31 _ rfl)) ml_X5_86 (Nat.le_of_ble_eq_true rfl) (n := 32) rfl ?_
    refine Vw.istore_n (lv2 := [(0, _), (1, _), (2, _), (3, _), (4, _)]) (de_istore_3 (B 32 _ rfl)) rfl (by decide) [1, 2, 3, 0, 4] rfl (n := 33) rfl ?_
    refine Vw.iinc (v := nI (a + (j + 1))) (lv2 := [(0, _), (1, _), (2, _), (3, _), (4, _)]) (de_iinc (B 33 _ rfl) (B 34 _ rfl) (B 35 _ rfl)) 4 rfl (nI_1 (a + j)) (by decide) [1, 2, 3, 4, 0] rfl (n := 36) rfl ?_
    refine Vw.goto_ (n := 5) (de_goto_ (B 36 _ rfl) (B 37 _ rfl) (B 38 _ rfl)) rfl ?_
    have g := ih z_8
    rw [nbS] at g
    exact g
  refine Vw.iconst (v := 0) (de_iconst_0 (B 0 _ rfl)) rfl (n := 1) rfl ?_
  refine Vw.istore_n (lv2 := [(0, _), (1, _), (2, _), (3, _)]) (de_istore_3 (B 1 _ rfl)) rfl (by decide) [1, 2, 3, 0] rfl (n := 2) rfl ?_
  refine Vw.iload_n (de_iload_1 (B 2 _ rfl)) 1 rfl (n := 3) rfl ?_
  refine Vw.istore (lv2 := [(0, _), (1, _), (2, _), (3, _), (4, _)]) (de_istore (B 3 _ rfl) (B 4 _ rfl)) (by decide) [1, 2, 3, 4, 0] rfl (n := 5) rfl ?_
  exact loop 0 (Nat.zero_le _)
theorem c_X5_addToken {d : Nat} {S : vS} {I : vI} {L : vL} {Q : vS → vI → vL → Prop} {s tp a e t : Nat} {kd : Int32} {u : Nat → Int32} (hR : ReadS S (s + 74)) (ht : S.2.1 (s + 74) 5 = some tp) (htk : S.1 tp = (100, 400)) (hu : ∀ x, x < 400 → I tp x = u x &&& 255 ∧ bt (u x)) (hae : a ≤ e) (he : e ≤ 400) (htp : s + 87 ≤ tp) (ht7 : I (s + 74) 7 = nI t) (ht4 : t ≤ 400) (h : ∀ I2, (∀ b x, ¬ (b = s + 74 ∧ x = 7) → ¬ (s + 83 ≤ b ∧ b ≤ s + 86 ∧ x = t) → I2 b x = I b x) → I2 (s + 74) 7 = nI (t + 1) → I2 (s + 83) t = kd → I2 (s + 84) t = nI a → I2 (s + 85) t = nI e → I2 (s + 86) t = (if kd = 257 then nbS u a (e - a) else -1) → Q S I2 L) : Vc mX5_addToken (d + 2) 0 0 [.ref (s + 74), .int kd, .int (nI a), .int (nI e)] S I L (VvQ Q) := by
  refine Vc.of rfl (Nat.le_of_ble_eq_true rfl) ?_
  have B := bs_X5_addToken
  show Vw mX5_addToken (d + 2) 0 0 0 0 (VvQ Q) 0 [(0, .ref (s + 74)), (1, .int kd), (2, .int (nI a)), (3, .int (nI e))] [] S I L
  have e7 : (up2 (up2 (up2 I (s + 74 + 9) t kd) (s + 74 + 10) t (nI a)) (s + 74 + 11) t (nI e)) (s + 74) 7 = nI t := by rw [up2_a (by omega), up2_a (by omega), up2_a (by omega)]; exact ht7
  have fin : ∀ v, v = (if kd = 257 then nbS u a (e - a) else -1) → Vw mX5_addToken (d + 2) 0 0 0 0 (VvQ Q) 65 [(0, .ref (s + 74)), (1, .int kd), (2, .int (nI a)), (3, .int (nI e))] [.int v, .int (nI t), .ref (s + 74 + 12)] S (up2 (up2 (up2 I (s + 74 + 9) t kd) (s + 74 + 10) t (nI a)) (s + 74 + 11) t (nI e)) L := by
    intro v ev
    refine Vw.iast (de_iastore (B 65 _ rfl)) hR.r4 (vIx_n (k := t) rfl (by omega)) (n := 66) rfl ?_
    refine Vw.aload_n (de_aload_0 (B 66 _ rfl)) 0 rfl (n := 67) rfl ?_
    refine Vw.dup (de_dup (B 67 _ rfl)) rfl (n := 68) rfl ?_
    refine Vw.getI (de_getfield (B 68 _ rfl) (B 69 _ rfl) (B 70 _ rfl)) fl_X5_71 rfl hR.k (n := 71) rfl ?_
    rw [up2_a (show s + 74 ≠ s + 74 + 12 by omega), e7]
    refine Vw.iconst (v := 1) (de_iconst_1 (B 71 _ rfl)) rfl (n := 72) rfl ?_
    refine Vw.iadd (de_iadd (B 72 _ rfl)) (n := 73) rfl ?_
    rw [nI_1]
    refine Vw.putI (de_putfield (B 73 _ rfl) (B 74 _ rfl) (B 75 _ rfl)) fl_X5_71 hR.k rfl rfl (n := 76) rfl ?_
    exact Vw.vret (de_return_ (B 76 _ rfl)) rfl ⟨rfl, (h _ (fun b x h1 h2 => by rw [up2_ne (by omega), up2_ne (by omega), up2_ne (by omega), up2_ne (by omega), up2_ne (by omega)]) (up2_s _ _ _ _)
    (by rw [up2_ne (by omega), up2_ne (by omega), up2_ne (by omega), up2_ne (by omega)]; exact up2_s _ _ _ _)
    (by rw [up2_ne (by omega), up2_ne (by omega), up2_ne (by omega)]; exact up2_s _ _ _ _)
    (by rw [up2_ne (by omega), up2_ne (by omega)]; exact up2_s _ _ _ _)
    (by rw [up2_ne (by omega)]; exact (up2_s _ _ _ _).trans ev))⟩
  refine Vw.aload_n (de_aload_0 (B 0 _ rfl)) 0 rfl (n := 1) rfl ?_
  refine Vw.getI (de_getfield (B 1 _ rfl) (B 2 _ rfl) (B 3 _ rfl)) fl_X5_71 rfl hR.k (n := 4) rfl ?_
  rw [ht7]
  refine Vw.sipush (v := 400) (de_sipush (B 4 _ rfl) (B 5 _ rfl) (B 6 _ rfl)) rfl (n := 7) rfl ?_
  refine Vw.icmp_gt (tgt := 76) (n := 10) (de_icmp_gt (B 7 _ rfl) (B 8 _ rfl) (B 9 _ rfl)) rfl rfl (fun c_7 => ?_) (fun c_7 => ?_)
  · exact absurd ((nI_leI (a := t) (b := 400) (by omega) (by omega)).mpr ht4) (Int32.not_le.mpr c_7)
  refine Vw.aload_n (de_aload_0 (B 10 _ rfl)) 0 rfl (n := 11) rfl ?_
  refine Vw.getR (de_getfield (B 11 _ rfl) (B 12 _ rfl) (B 13 _ rfl)) fl_X5_20 rfl hR.k hR.f1 (n := 14) rfl ?_
  refine Vw.aload_n (de_aload_0 (B 14 _ rfl)) 0 rfl (n := 15) rfl ?_
  refine Vw.getI (de_getfield (B 15 _ rfl) (B 16 _ rfl) (B 17 _ rfl)) fl_X5_71 rfl hR.k (n := 18) rfl ?_
  rw [ht7]
  refine Vw.iload_n (de_iload_1 (B 18 _ rfl)) 1 rfl (n := 19) rfl ?_
  refine Vw.iast (de_iastore (B 19 _ rfl)) hR.r1 (vIx_n (k := t) rfl (by omega)) (n := 20) rfl ?_
  refine Vw.aload_n (de_aload_0 (B 20 _ rfl)) 0 rfl (n := 21) rfl ?_
  refine Vw.getR (de_getfield (B 21 _ rfl) (B 22 _ rfl) (B 23 _ rfl)) fl_X5_24 rfl hR.k hR.f2 (n := 24) rfl ?_
  refine Vw.aload_n (de_aload_0 (B 24 _ rfl)) 0 rfl (n := 25) rfl ?_
  refine Vw.getI (de_getfield (B 25 _ rfl) (B 26 _ rfl) (B 27 _ rfl)) fl_X5_71 rfl hR.k (n := 28) rfl ?_
  rw [up2_a (show s + 74 ≠ s + 74 + 9 by omega), ht7]
  refine Vw.iload_n (de_iload_2 (B 28 _ rfl)) 2 rfl (n := 29) rfl ?_
  refine Vw.iast (de_iastore (B 29 _ rfl)) hR.r2 (vIx_n (k := t) rfl (by omega)) (n := 30) rfl ?_
  refine Vw.aload_n (de_aload_0 (B 30 _ rfl)) 0 rfl (n := 31) rfl ?_
  refine Vw.getR (de_getfield (B 31 _ rfl) (B 32 _ rfl) (B 33 _ rfl)) fl_X5_27 rfl hR.k hR.f3 (n := 34) rfl ?_
  refine Vw.aload_n (de_aload_0 (B 34 _ rfl)) 0 rfl (n := 35) rfl ?_
  refine Vw.getI (de_getfield (B 35 _ rfl) (B 36 _ rfl) (B 37 _ rfl)) fl_X5_71 rfl hR.k (n := 38) rfl ?_
  rw [up2_a (show s + 74 ≠ s + 74 + 10 by omega), up2_a (show s + 74 ≠ s + 74 + 9 by omega), ht7]
  refine Vw.iload_n (de_iload_3 (B 38 _ rfl)) 3 rfl (n := 39) rfl ?_
  refine Vw.iast (de_iastore (B 39 _ rfl)) hR.r3 (vIx_n (k := t) rfl (by omega)) (n := 40) rfl ?_
  refine Vw.aload_n (de_aload_0 (B 40 _ rfl)) 0 rfl (n := 41) rfl ?_
  refine Vw.getR (de_getfield (B 41 _ rfl) (B 42 _ rfl) (B 43 _ rfl)) fl_X5_30 rfl hR.k hR.f4 (n := 44) rfl ?_
  refine Vw.aload_n (de_aload_0 (B 44 _ rfl)) 0 rfl (n := 45) rfl ?_
  refine Vw.getI (de_getfield (B 45 _ rfl) (B 46 _ rfl) (B 47 _ rfl)) fl_X5_71 rfl hR.k (n := 48) rfl ?_
  rw [e7]
  refine Vw.iload_n (de_iload_1 (B 48 _ rfl)) 1 rfl (n := 49) rfl ?_
  refine Vw.sipush (v := 257) (de_sipush (B 49 _ rfl) (B 50 _ rfl) (B 51 _ rfl)) rfl (n := 52) rfl ?_
  refine Vw.icmp_ne (tgt := 64) (n := 55) (de_icmp_ne (B 52 _ rfl) (B 53 _ rfl) (B 54 _ rfl)) rfl rfl (fun c_52 => ?_) (fun c_52 => ?_)
  · refine Vw.iconst (v := -1) (de_iconst_m1 (B 64 _ rfl)) rfl (n := 65) rfl ?_
    first
    | exact fin _ (by rw [if_pos c_52])
    | exact fin _ (by rw [if_neg c_52])
  refine Vw.aload_n (de_aload_0 (B 55 _ rfl)) 0 rfl (n := 56) rfl ?_
  refine Vw.iload_n (de_iload_2 (B 56 _ rfl)) 2 rfl (n := 57) rfl ?_
  refine Vw.iload_n (de_iload_3 (B 57 _ rfl)) 3 rfl (n := 58) rfl ?_
  refine Vw.ivi2 (mi' := mX5_numberBetween) (de_invokevirtual (B 58 _ rfl) (B 59 _ rfl) (B 60 _ rfl)) ml_X5_82 mv_X5_numberBetween hR.k (Nat.le_of_ble_eq_true rfl) (n := 61) rfl (c_X5_numberBetween (u := u) hR ht htk (fun x hx => ⟨by rw [up2_a (by omega), up2_a (by omega), up2_a (by omega)]; exact (hu x hx).1, (hu x hx).2⟩) hae he ?_)
  refine Vw.goto_ (n := 65) (de_goto_ (B 61 _ rfl) (B 62 _ rfl) (B 63 _ rfl)) rfl ?_
  first
  | exact fin _ (by rw [if_pos c_52])
  | exact fin _ (by rw [if_neg c_52])
theorem knF_s {x : Int32} : knF x = 256 → bt x → isSm x = true := by
  intro h hb
  unfold knF at h
  by_cases z : isSm x = true
  · exact z
  · rw [if_neg z] at h
    by_cases z2 : isDg x = true
    · rw [if_pos z2] at h; exact absurd h (by decide)
    · rw [if_neg z2] at h
      obtain ⟨c, h1, h2⟩ := (bt_f hb).2.2.2.2
      rw [h2] at h
      exact absurd (nI_inj (a := c) (b := 256) (by omega) (by decide) h) (by omega)
theorem knF_d {x : Int32} : knF x = 257 → bt x → isDg x = true := by
  intro h hb
  unfold knF at h
  by_cases z : isSm x = true
  · rw [if_pos z] at h; exact absurd h (by decide)
  · rw [if_neg z] at h
    by_cases z2 : isDg x = true
    · exact z2
    · rw [if_neg z2] at h
      obtain ⟨c, h1, h2⟩ := (bt_f hb).2.2.2.2
      rw [h2] at h
      exact absurd (nI_inj (a := c) (b := 257) (by omega) (by decide) h) (by omega)
theorem knF_os {x : Int32} (h : isSm x = true) : knF x = 256 := by unfold knF; rw [if_pos h]
theorem knF_od {x : Int32} (h : isDg x = true) (hb : bt x) : knF x = 257 := by
  unfold knF
  rw [if_neg (fun z => by rw [((bt_f hb).2.2.1 z).2] at h; cases h), if_pos h]
theorem knF_o {x : Int32} (h : ¬ isSm x = true) (h2 : ¬ isDg x = true) (hb : bt x) : knF x < 256 := by
  unfold knF
  rw [if_neg h, if_neg h2]
  obtain ⟨c, h1, h2⟩ := (bt_f hb).2.2.2.2
  rw [h2, i32_lt, nI_ti (by omega)]
  show (c : Int) < 256
  omega
/-- rows of the tokens so far -/
def TkR (J : vI) (s : Nat) (u : Nat → Int32) (pre : List (Nat × Nat)) : Prop := ∀ i a e, pre[i]? = some (a, e) → J (s + 83) i = knF (u a) ∧ J (s + 84) i = nI a ∧ J (s + 85) i = nI e ∧ J (s + 86) i = nmF u a e
theorem tkL_len {u : Nat → Int32} {n : Nat} : ∀ {f k : Nat}, (tkL u n f k).length ≤ n - k
  | 0, _ => Nat.zero_le _
  | f + 1, k => by
    rw [tkL]
    split
    · split
      · have := tkL_len (u := u) (n := n) (f := f) (k := k + 1); omega
      · rename_i h _
        have h1 := tkL_len (u := u) (n := n) (f := f) (k := tEnd u n k)
        have h2 := tEnd_b (u := u) h
        rw [List.length_cons]; omega
    · exact Nat.zero_le _
theorem c_X5_split {d : Nat} {S : vS} {I : vI} {L : vL} {Q : vS → vI → vL → Prop} {s tp n : Nat} {u : Nat → Int32} (hR : ReadS S (s + 74)) (ht : S.2.1 (s + 74) 5 = some tp) (htk : S.1 tp = (100, 400)) (hu : ∀ x, x < 400 → I tp x = u x &&& 255 ∧ bt (u x)) (htp : s + 87 ≤ tp) (hn : n ≤ 400) (h : ∀ I2, (∀ b x, ¬ (b = s + 74 ∧ x = 7) → ¬ (s + 83 ≤ b ∧ b ≤ s + 86) → I2 b x = I b x) → TkR I2 s u (tkL u n 401 0) → I2 (s + 83) (tkL u n 401 0).length = 258 → I2 (s + 84) (tkL u n 401 0).length = nI n → I2 (s + 86) (tkL u n 401 0).length = -1 → Q S I2 L) : Vc mX5_split (d + 3) 0 0 [.ref (s + 74), .int (nI n)] S I L (VvQ Q) := by
  refine Vc.of rfl (Nat.le_of_ble_eq_true rfl) ?_
  have B := bs_X5_split
  show Vw mX5_split (d + 3) 0 0 0 0 (VvQ Q) 0 [(0, .ref (s + 74)), (1, .int (nI n))] [] S I L
  have loop : ∀ i, i ≤ 400 → ∀ J k pre, (∀ b x, ¬ (b = s + 74 ∧ x = 7) → ¬ (s + 83 ≤ b ∧ b ≤ s + 86) → J b x = I b x) → TkR J s u pre → J (s + 74) 7 = nI pre.length → pre.length ≤ i → i ≤ k → k ≤ 400 → k ≤ n ∨ k = 0 → (tkL u n 401 0) = pre ++ tkL u n (400 - i + 1) k → Vw mX5_split (d + 3) 0 0 0 0 (VvQ Q) 9 [(0, .ref (s + 74)), (1, .int (nI n)), (2, .int (nI k)), (3, .int (nI i))] [] S J L := by
    refine loop_up (fun i hi ih => ?_)
    intro J k pre fJ rJ tJ hpl hik hk4 hkn eT
    have hJu : ∀ x, x < 400 → J tp x = u x &&& 255 ∧ bt (u x) := fun x hx => ⟨by rw [fJ _ _ (by omega) (by omega)]; exact (hu x hx).1, (hu x hx).2⟩
    have pl4 : pre.length ≤ 400 := by omega
    have fin : n ≤ k → Vw mX5_split (d + 3) 0 0 0 0 (VvQ Q) 107 [(0, .ref (s + 74)), (1, .int (nI n)), (2, .int (nI k)), (3, .int (nI i))] [] S J L := by
      intro hnk
      have eT2 : (tkL u n 401 0) = pre := by rw [eT, tkL, if_neg (by omega), List.append_nil]
      rw [eT2] at h
      refine Vw.aload_n (de_aload_0 (B 107 _ rfl)) 0 rfl (n := 108) rfl ?_
      refine Vw.sipush (v := 258) (de_sipush (B 108 _ rfl) (B 109 _ rfl) (B 110 _ rfl)) rfl (n := 111) rfl ?_
      refine Vw.iload_n (de_iload_1 (B 111 _ rfl)) 1 rfl (n := 112) rfl ?_
      refine Vw.iload_n (de_iload_1 (B 112 _ rfl)) 1 rfl (n := 113) rfl ?_
      refine Vw.ivv3 (mi' := mX5_addToken) (de_invokevirtual (B 113 _ rfl) (B 114 _ rfl) (B 115 _ rfl)) ml_X5_78 mv_X5_addToken hR.k (Nat.le_of_ble_eq_true rfl) (n := 116) rfl (c_X5_addToken (u := u) (t := pre.length) hR ht htk hJu (Nat.le_refl n) hn htp tJ pl4 (fun I3 f3 a1 a2 a3 a4 a5 => ?_))
      exact Vw.vret (de_return_ (B 116 _ rfl)) rfl ⟨rfl, (h I3 (fun b x h1 h2 => by rw [f3 b x h1 (by omega)]; exact fJ b x h1 h2) (fun i2 a e hi2 => by
      have hlt : i2 < pre.length := (List.getElem?_eq_some_iff.mp hi2).1
      rw [f3 _ _ (by omega) (by omega), f3 _ _ (by omega) (by omega), f3 _ _ (by omega) (by omega), f3 _ _ (by omega) (by omega)]; exact rJ i2 a e hi2) a2 a3 (by rw [a5, if_neg (by decide)]))⟩
    have tok : k < n → ¬ u k = 32 → i < 400 → ∀ e, e = tEnd u n k → Vw mX5_split (d + 3) 0 0 0 0 (VvQ Q) 89 [(0, .ref (s + 74)), (1, .int (nI n)), (2, .int (nI k)), (3, .int (nI i)), (4, .int (knF (u k))), (5, .int (nI e))] [] S J L := by
      intro hkn2 hu32 hi4 e ee
      have hb := tEnd_b (u := u) hkn2
      rw [← ee] at hb
      refine Vw.aload_n (de_aload_0 (B 89 _ rfl)) 0 rfl (n := 90) rfl ?_
      refine Vw.iload (de_iload (B 90 _ rfl) (B 91 _ rfl)) 4 rfl (n := 92) rfl ?_
      refine Vw.iload_n (de_iload_2 (B 92 _ rfl)) 2 rfl (n := 93) rfl ?_
      refine Vw.iload (de_iload (B 93 _ rfl) (B 94 _ rfl)) 5 rfl (n := 95) rfl ?_
      refine Vw.ivv3 (mi' := mX5_addToken) (de_invokevirtual (B 95 _ rfl) (B 96 _ rfl) (B 97 _ rfl)) ml_X5_78 mv_X5_addToken hR.k (Nat.le_of_ble_eq_true rfl) (n := 98) rfl (c_X5_addToken (u := u) (t := pre.length) hR ht htk hJu (show k ≤ e by omega) (by omega) htp tJ pl4 (fun I3 f3 a1 a2 a3 a4 a5 => ?_))
      refine Vw.iload (de_iload (B 98 _ rfl) (B 99 _ rfl)) 5 rfl (n := 100) rfl ?_
      refine Vw.istore_n (lv2 := [(0, _), (1, _), (2, _), (3, _), (4, _), (5, _)]) (de_istore_2 (B 100 _ rfl)) rfl (by decide) [1, 2, 0, 3, 4, 5] rfl (n := 101) rfl ?_
      refine Vw.iinc (v := nI (i + 1)) (lv2 := [(0, _), (1, _), (2, _), (3, _), (4, _), (5, _)]) (de_iinc (B 101 _ rfl) (B 102 _ rfl) (B 103 _ rfl)) 3 rfl (nI_1 i) (by decide) [1, 2, 3, 0, 4, 5] rfl (n := 104) rfl ?_
      refine Vw.goto_ (n := 9) (de_goto_ (B 104 _ rfl) (B 105 _ rfl) (B 106 _ rfl)) rfl ?_
      refine Vw.lvs (lv2 := [(0, _), (1, _), (2, _), (3, _)]) [0, 1, 2, 3] rfl ?_
      refine ih hi4 I3 e (pre ++ [(k, e)]) (fun b x h1 h2 => by rw [f3 b x h1 (by omega)]; exact fJ b x h1 h2) (fun i2 a e2 hi2 => ?_) (by rw [a1, List.length_append]; rfl) (by rw [List.length_append]; simp only [List.length_cons, List.length_nil]; omega) (by omega) (by omega) (Or.inl hb.2) ?_
      · rcases Nat.lt_or_ge i2 pre.length with z | z
        · rw [List.getElem?_append_left z] at hi2
          rw [f3 _ _ (by omega) (by omega), f3 _ _ (by omega) (by omega), f3 _ _ (by omega) (by omega), f3 _ _ (by omega) (by omega)]; exact rJ i2 a e2 hi2
        · rw [List.getElem?_append_right z] at hi2
          have z2 : i2 = pre.length := by
            rcases Nat.eq_zero_or_pos (i2 - pre.length) with q | q
            · omega
            · rw [List.getElem?_eq_none (by simp only [List.length_cons, List.length_nil]; omega)] at hi2; cases hi2
          subst z2
          rw [Nat.sub_self] at hi2
          simp only [List.getElem?_cons_zero, Option.some.injEq, Prod.mk.injEq] at hi2
          obtain ⟨rfl, rfl⟩ := hi2
          refine ⟨a2, a3, a4, ?_⟩
          rw [a5]
          unfold nmF
          by_cases q : isDg (u k) = true
          · rw [if_pos (knF_od q (hu k (by omega)).2), if_pos q]
          · rw [if_neg (fun z => q (knF_d z (hu k (by omega)).2)), if_neg q]
      · rw [eT, tkL, if_pos hkn2, if_neg hu32, ← ee, List.append_assoc, show 400 - i = 400 - (i + 1) + 1 by omega]
        rfl
    have runisSm : k < n → ¬ u k = 32 → i < 400 → isSm (u k) = true → ∀ x, x ≤ n → k + 1 ≤ x → tEnd u n k = runE isSm u n (400 - (x - (k + 1))) x → Vw mX5_split (d + 3) 0 0 0 0 (VvQ Q) 54 [(0, .ref (s + 74)), (1, .int (nI n)), (2, .int (nI k)), (3, .int (nI i)), (4, .int (knF (u k))), (5, .int (nI x))] [] S J L := by
      intro hkn2 hu32 hi4 hP
      have ek : knF (u k) = 256 := by first | exact knF_os hP | exact knF_od hP (hu k (by omega)).2
      refine loop_up (fun x hx ihx => ?_)
      intro hkx eR
      refine Vw.iload (de_iload (B 54 _ rfl) (B 55 _ rfl)) 4 rfl (n := 56) rfl ?_
      refine Vw.sipush (v := 256) (de_sipush (B 56 _ rfl) (B 57 _ rfl) (B 58 _ rfl)) rfl (n := 59) rfl ?_
      refine Vw.icmp_lt (tgt := 89) (n := 62) (de_icmp_lt (B 59 _ rfl) (B 60 _ rfl) (B 61 _ rfl)) rfl rfl (fun c_59 => ?_) (fun c_59 => ?_)
      · rw [ek] at c_59; exact absurd c_59 (by decide)
      refine Vw.iload (de_iload (B 62 _ rfl) (B 63 _ rfl)) 5 rfl (n := 64) rfl ?_
      refine Vw.iload_n (de_iload_1 (B 64 _ rfl)) 1 rfl (n := 65) rfl ?_
      refine Vw.icmp_ge (tgt := 89) (n := 68) (de_icmp_ge (B 65 _ rfl) (B 66 _ rfl) (B 67 _ rfl)) rfl rfl (fun c_65 => ?_) (fun c_65 => ?_)
      · refine tok hkn2 hu32 hi4 x ?_
        rw [eR, show 400 - (x - (k + 1)) = 400 - (x + 1 - (k + 1)) + 1 by omega, runE, if_neg ?_]
        intro z
        first
        | exact absurd ((nI_leI (a := n) (b := x) (by omega) (by omega)).mp c_65) (by omega)
        | exact c_80 (by rw [ek]; first | exact knF_os z.2 | exact knF_od z.2 (hu x (by omega)).2)
      have z_65 : x < n := by rcases Nat.lt_or_ge x n with z | z; exact z; exact absurd ((nI_leI (a := n) (b := x) (by omega) (by omega)).mpr z) c_65
      refine Vw.aload_n (de_aload_0 (B 68 _ rfl)) 0 rfl (n := 69) rfl ?_
      refine Vw.getR (de_getfield (B 69 _ rfl) (B 70 _ rfl) (B 71 _ rfl)) fl_X5_33 rfl hR.k ht (n := 72) rfl ?_
      refine Vw.iload (de_iload (B 72 _ rfl) (B 73 _ rfl)) 5 rfl (n := 74) rfl ?_
      refine Vw.iald (de_iaload (B 74 _ rfl)) htk (vIx_n (k := x) rfl (by omega)) (n := 75) rfl ?_
      rw [(hJu x (by omega)).1]
      refine Vw.isi1 (mi' := mX5_kindOf) (de_invokestatic (B 75 _ rfl) (B 76 _ rfl) (B 77 _ rfl)) ml_X5_74 ms_X5_kindOf (Nat.le_of_ble_eq_true rfl) (n := 78) rfl (c_X5_kindOf ?_)
      rw [(bt_f (hu x (by omega)).2).1]
      refine Vw.iload (de_iload (B 78 _ rfl) (B 79 _ rfl)) 4 rfl (n := 80) rfl ?_
      refine Vw.icmp_ne (tgt := 89) (n := 83) (de_icmp_ne (B 80 _ rfl) (B 81 _ rfl) (B 82 _ rfl)) rfl rfl (fun c_80 => ?_) (fun c_80 => ?_)
      · refine tok hkn2 hu32 hi4 x ?_
        rw [eR, show 400 - (x - (k + 1)) = 400 - (x + 1 - (k + 1)) + 1 by omega, runE, if_neg ?_]
        intro z
        first
        | exact absurd ((nI_leI (a := n) (b := x) (by omega) (by omega)).mp c_65) (by omega)
        | exact c_80 (by rw [ek]; first | exact knF_os z.2 | exact knF_od z.2 (hu x (by omega)).2)
      refine Vw.iinc (v := nI (x + 1)) (lv2 := [(0, _), (1, _), (2, _), (3, _), (4, _), (5, _)]) (de_iinc (B 83 _ rfl) (B 84 _ rfl) (B 85 _ rfl)) 5 rfl (nI_1 x) (by decide) [1, 2, 3, 4, 5, 0] rfl (n := 86) rfl ?_
      refine Vw.goto_ (n := 54) (de_goto_ (B 86 _ rfl) (B 87 _ rfl) (B 88 _ rfl)) rfl ?_
      refine ihx z_65 (by omega) ?_
      have hPx : isSm (u x) = true := by rw [ek] at c_80; first | exact knF_s c_80 (hu x (by omega)).2 | exact knF_d c_80 (hu x (by omega)).2
      rw [eR, show 400 - (x - (k + 1)) = 400 - (x + 1 - (k + 1)) + 1 by omega, runE, if_pos ⟨z_65, hPx⟩]
    have runisDg : k < n → ¬ u k = 32 → i < 400 → isDg (u k) = true → ∀ x, x ≤ n → k + 1 ≤ x → tEnd u n k = runE isDg u n (400 - (x - (k + 1))) x → Vw mX5_split (d + 3) 0 0 0 0 (VvQ Q) 54 [(0, .ref (s + 74)), (1, .int (nI n)), (2, .int (nI k)), (3, .int (nI i)), (4, .int (knF (u k))), (5, .int (nI x))] [] S J L := by
      intro hkn2 hu32 hi4 hP
      have ek : knF (u k) = 257 := by first | exact knF_os hP | exact knF_od hP (hu k (by omega)).2
      refine loop_up (fun x hx ihx => ?_)
      intro hkx eR
      refine Vw.iload (de_iload (B 54 _ rfl) (B 55 _ rfl)) 4 rfl (n := 56) rfl ?_
      refine Vw.sipush (v := 256) (de_sipush (B 56 _ rfl) (B 57 _ rfl) (B 58 _ rfl)) rfl (n := 59) rfl ?_
      refine Vw.icmp_lt (tgt := 89) (n := 62) (de_icmp_lt (B 59 _ rfl) (B 60 _ rfl) (B 61 _ rfl)) rfl rfl (fun c_59 => ?_) (fun c_59 => ?_)
      · rw [ek] at c_59; exact absurd c_59 (by decide)
      refine Vw.iload (de_iload (B 62 _ rfl) (B 63 _ rfl)) 5 rfl (n := 64) rfl ?_
      refine Vw.iload_n (de_iload_1 (B 64 _ rfl)) 1 rfl (n := 65) rfl ?_
      refine Vw.icmp_ge (tgt := 89) (n := 68) (de_icmp_ge (B 65 _ rfl) (B 66 _ rfl) (B 67 _ rfl)) rfl rfl (fun c_65 => ?_) (fun c_65 => ?_)
      · refine tok hkn2 hu32 hi4 x ?_
        rw [eR, show 400 - (x - (k + 1)) = 400 - (x + 1 - (k + 1)) + 1 by omega, runE, if_neg ?_]
        intro z
        first
        | exact absurd ((nI_leI (a := n) (b := x) (by omega) (by omega)).mp c_65) (by omega)
        | exact c_80 (by rw [ek]; first | exact knF_os z.2 | exact knF_od z.2 (hu x (by omega)).2)
      have z_65 : x < n := by rcases Nat.lt_or_ge x n with z | z; exact z; exact absurd ((nI_leI (a := n) (b := x) (by omega) (by omega)).mpr z) c_65
      refine Vw.aload_n (de_aload_0 (B 68 _ rfl)) 0 rfl (n := 69) rfl ?_
      refine Vw.getR (de_getfield (B 69 _ rfl) (B 70 _ rfl) (B 71 _ rfl)) fl_X5_33 rfl hR.k ht (n := 72) rfl ?_
      refine Vw.iload (de_iload (B 72 _ rfl) (B 73 _ rfl)) 5 rfl (n := 74) rfl ?_
      refine Vw.iald (de_iaload (B 74 _ rfl)) htk (vIx_n (k := x) rfl (by omega)) (n := 75) rfl ?_
      rw [(hJu x (by omega)).1]
      refine Vw.isi1 (mi' := mX5_kindOf) (de_invokestatic (B 75 _ rfl) (B 76 _ rfl) (B 77 _ rfl)) ml_X5_74 ms_X5_kindOf (Nat.le_of_ble_eq_true rfl) (n := 78) rfl (c_X5_kindOf ?_)
      rw [(bt_f (hu x (by omega)).2).1]
      refine Vw.iload (de_iload (B 78 _ rfl) (B 79 _ rfl)) 4 rfl (n := 80) rfl ?_
      refine Vw.icmp_ne (tgt := 89) (n := 83) (de_icmp_ne (B 80 _ rfl) (B 81 _ rfl) (B 82 _ rfl)) rfl rfl (fun c_80 => ?_) (fun c_80 => ?_)
      · refine tok hkn2 hu32 hi4 x ?_
        rw [eR, show 400 - (x - (k + 1)) = 400 - (x + 1 - (k + 1)) + 1 by omega, runE, if_neg ?_]
        intro z
        first
        | exact absurd ((nI_leI (a := n) (b := x) (by omega) (by omega)).mp c_65) (by omega)
        | exact c_80 (by rw [ek]; first | exact knF_os z.2 | exact knF_od z.2 (hu x (by omega)).2)
      refine Vw.iinc (v := nI (x + 1)) (lv2 := [(0, _), (1, _), (2, _), (3, _), (4, _), (5, _)]) (de_iinc (B 83 _ rfl) (B 84 _ rfl) (B 85 _ rfl)) 5 rfl (nI_1 x) (by decide) [1, 2, 3, 4, 5, 0] rfl (n := 86) rfl ?_
      refine Vw.goto_ (n := 54) (de_goto_ (B 86 _ rfl) (B 87 _ rfl) (B 88 _ rfl)) rfl ?_
      refine ihx z_65 (by omega) ?_
      have hPx : isDg (u x) = true := by rw [ek] at c_80; first | exact knF_s c_80 (hu x (by omega)).2 | exact knF_d c_80 (hu x (by omega)).2
      rw [eR, show 400 - (x - (k + 1)) = 400 - (x + 1 - (k + 1)) + 1 by omega, runE, if_pos ⟨z_65, hPx⟩]
    refine Vw.iload_n (de_iload_3 (B 9 _ rfl)) 3 rfl (n := 10) rfl ?_
    refine Vw.sipush (v := 400) (de_sipush (B 10 _ rfl) (B 11 _ rfl) (B 12 _ rfl)) rfl (n := 13) rfl ?_
    refine Vw.icmp_ge (tgt := 107) (n := 16) (de_icmp_ge (B 13 _ rfl) (B 14 _ rfl) (B 15 _ rfl)) rfl rfl (fun c_13 => ?_) (fun c_13 => ?_)
    · first
      | exact fin ((nI_leI (a := n) (b := k) (by omega) (by omega)).mp c_18)
      | exact fin (by have := (nI_leI (a := 400) (b := i) (by omega) (by omega)).mp c_13; omega)
    have z_13 : i < 400 := by rcases Nat.lt_or_ge i 400 with z | z; exact z; exact absurd ((nI_leI (a := 400) (b := i) (by omega) (by omega)).mpr z) c_13
    refine Vw.iload_n (de_iload_2 (B 16 _ rfl)) 2 rfl (n := 17) rfl ?_
    refine Vw.iload_n (de_iload_1 (B 17 _ rfl)) 1 rfl (n := 18) rfl ?_
    refine Vw.icmp_ge (tgt := 107) (n := 21) (de_icmp_ge (B 18 _ rfl) (B 19 _ rfl) (B 20 _ rfl)) rfl rfl (fun c_18 => ?_) (fun c_18 => ?_)
    · first
      | exact fin ((nI_leI (a := n) (b := k) (by omega) (by omega)).mp c_18)
      | exact fin (by have := (nI_leI (a := 400) (b := i) (by omega) (by omega)).mp c_13; omega)
    have z_18 : k < n := by rcases Nat.lt_or_ge k n with z | z; exact z; exact absurd ((nI_leI (a := n) (b := k) (by omega) (by omega)).mpr z) c_18
    refine Vw.aload_n (de_aload_0 (B 21 _ rfl)) 0 rfl (n := 22) rfl ?_
    refine Vw.getR (de_getfield (B 22 _ rfl) (B 23 _ rfl) (B 24 _ rfl)) fl_X5_33 rfl hR.k ht (n := 25) rfl ?_
    refine Vw.iload_n (de_iload_2 (B 25 _ rfl)) 2 rfl (n := 26) rfl ?_
    refine Vw.iald (de_iaload (B 26 _ rfl)) htk (vIx_n (k := k) rfl (by omega)) (n := 27) rfl ?_
    rw [(hJu k (by omega)).1]
    refine Vw.bipush (v := 32) (de_bipush (B 27 _ rfl) (B 28 _ rfl)) rfl (n := 29) rfl ?_
    refine Vw.icmp_ne (tgt := 38) (n := 32) (de_icmp_ne (B 29 _ rfl) (B 30 _ rfl) (B 31 _ rfl)) rfl rfl (fun c_29 => ?_) (fun c_29 => ?_)
    · have u32 : ¬ u k = 32 := fun z => c_29 ((bt_f (hu k (by omega)).2).2.1.mpr z)
      refine Vw.aload_n (de_aload_0 (B 38 _ rfl)) 0 rfl (n := 39) rfl ?_
      refine Vw.getR (de_getfield (B 39 _ rfl) (B 40 _ rfl) (B 41 _ rfl)) fl_X5_33 rfl hR.k ht (n := 42) rfl ?_
      refine Vw.iload_n (de_iload_2 (B 42 _ rfl)) 2 rfl (n := 43) rfl ?_
      refine Vw.iald (de_iaload (B 43 _ rfl)) htk (vIx_n (k := k) rfl (by omega)) (n := 44) rfl ?_
      rw [(hJu k (by omega)).1]
      refine Vw.isi1 (mi' := mX5_kindOf) (de_invokestatic (B 44 _ rfl) (B 45 _ rfl) (B 46 _ rfl)) ml_X5_74 ms_X5_kindOf (Nat.le_of_ble_eq_true rfl) (n := 47) rfl (c_X5_kindOf ?_)
      rw [(bt_f (hu k (by omega)).2).1]
      refine Vw.istore (lv2 := [(0, _), (1, _), (2, _), (3, _), (4, _)]) (de_istore (B 47 _ rfl) (B 48 _ rfl)) (by decide) [1, 2, 3, 4, 0] rfl (n := 49) rfl ?_
      refine Vw.iload_n (de_iload_2 (B 49 _ rfl)) 2 rfl (n := 50) rfl ?_
      refine Vw.iconst (v := 1) (de_iconst_1 (B 50 _ rfl)) rfl (n := 51) rfl ?_
      refine Vw.iadd (de_iadd (B 51 _ rfl)) (n := 52) rfl ?_
      rw [nI_1]
      refine Vw.istore (lv2 := [(0, _), (1, _), (2, _), (3, _), (4, _), (5, _)]) (de_istore (B 52 _ rfl) (B 53 _ rfl)) (by decide) [1, 2, 3, 4, 5, 0] rfl (n := 54) rfl ?_
      by_cases q1 : isSm (u k) = true
      · exact runisSm z_18 u32 z_13 q1 (k + 1) (by omega) (Nat.le_refl _) (by unfold tEnd; rw [if_pos q1, Nat.sub_self])
      · by_cases q2 : isDg (u k) = true
        · exact runisDg z_18 u32 z_13 q2 (k + 1) (by omega) (Nat.le_refl _) (by unfold tEnd; rw [if_neg q1, if_pos q2, Nat.sub_self])
        · have hlt := knF_o q1 q2 (hu k (by omega)).2
          have et : k + 1 = tEnd u n k := by unfold tEnd; rw [if_neg q1, if_neg q2]
          refine Vw.iload (de_iload (B 54 _ rfl) (B 55 _ rfl)) 4 rfl (n := 56) rfl ?_
          refine Vw.sipush (v := 256) (de_sipush (B 56 _ rfl) (B 57 _ rfl) (B 58 _ rfl)) rfl (n := 59) rfl ?_
          exact Vw.icmp_lt (tgt := 89) (n := 62) (de_icmp_lt (B 59 _ rfl) (B 60 _ rfl) (B 61 _ rfl)) rfl rfl (fun _ => tok z_18 u32 z_13 (k + 1) et) (fun c => absurd hlt c)
    refine Vw.iinc (v := nI (k + 1)) (lv2 := [(0, _), (1, _), (2, _), (3, _)]) (de_iinc (B 32 _ rfl) (B 33 _ rfl) (B 34 _ rfl)) 2 rfl (nI_1 k) (by decide) [1, 2, 0, 3] rfl (n := 35) rfl ?_
    refine Vw.goto_ (n := 101) (de_goto_ (B 35 _ rfl) (B 36 _ rfl) (B 37 _ rfl)) rfl ?_
    refine Vw.iinc (v := nI (i + 1)) (lv2 := [(0, _), (1, _), (2, _), (3, _)]) (de_iinc (B 101 _ rfl) (B 102 _ rfl) (B 103 _ rfl)) 3 rfl (nI_1 i) (by decide) [1, 2, 3, 0] rfl (n := 104) rfl ?_
    refine Vw.goto_ (n := 9) (de_goto_ (B 104 _ rfl) (B 105 _ rfl) (B 106 _ rfl)) rfl ?_
    refine ih z_13 J (k + 1) pre fJ rJ tJ (by omega) (by omega) (by omega) (Or.inl z_18) ?_
    rw [eT, tkL, if_pos z_18, if_pos ((bt_f (hu k (by omega)).2).2.1.mp c_29), show 400 - i = 400 - (i + 1) + 1 by omega]
  refine Vw.aload_n (de_aload_0 (B 0 _ rfl)) 0 rfl (n := 1) rfl ?_
  refine Vw.iconst (v := 0) (de_iconst_0 (B 1 _ rfl)) rfl (n := 2) rfl ?_
  refine Vw.putI (de_putfield (B 2 _ rfl) (B 3 _ rfl) (B 4 _ rfl)) fl_X5_71 hR.k rfl rfl (n := 5) rfl ?_
  refine Vw.iconst (v := 0) (de_iconst_0 (B 5 _ rfl)) rfl (n := 6) rfl ?_
  refine Vw.istore_n (lv2 := [(0, _), (1, _), (2, _)]) (de_istore_2 (B 6 _ rfl)) rfl (by decide) [1, 2, 0] rfl (n := 7) rfl ?_
  refine Vw.iconst (v := 0) (de_iconst_0 (B 7 _ rfl)) rfl (n := 8) rfl ?_
  refine Vw.istore_n (lv2 := [(0, _), (1, _), (2, _), (3, _)]) (de_istore_3 (B 8 _ rfl)) rfl (by decide) [1, 2, 3, 0] rfl (n := 9) rfl ?_
  exact loop 0 (Nat.zero_le _) _ 0 [] (fun b x h1 _ => up2_ne h1) (fun i a e hi => by cases hi) (up2_s _ _ _ _) (Nat.le_refl _) (Nat.le_refl _) (by omega) (Or.inr rfl) rfl
