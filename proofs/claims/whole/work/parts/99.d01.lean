/-! The reader: texts, listed, isWord -/
section STR2
variable {mi mi' : vM} {d mc ms cr sr : Nat} {Q : Option Value → vS → vI → vL → Prop} {pc n idx i b : Nat} {lv : List (Nat × Value)} {st : List Value} {S : vS} {I : vI} {L : vL} {x1 : Value}
theorem Vw.iti0 (hd : decode mi.2.1 pc = .ok (.invokevirtual idx, 3)) (hl : Cond.methodLink mi.1.cls idx mi'.1 ∈ vTs) (hm : vMt mi' 0) (hi : i < 11) (hs : (S.1 b).1 = 300 + i) (hw : (st.map fun v => v.category).sum ≤ 8) (hn : pc + 3 = n) (hC : Vc mi' d 0 0 [.ref b] S I L (ViQ fun r S' I' L' => Vw mi (d + 1) mc ms cr sr Q n lv (.int r :: st) S' I' L')) : Vw mi (d + 1) mc ms cr sr Q pc lv (.ref b :: st) S I L :=
  Vw.invT (mc' := 0) (ms' := 0) (As := []) hd hl hm hi hs rfl rfl hw hn (hC.mono (fun v S' I' L' h => by obtain ⟨r, rfl, h⟩ := h; exact h))
theorem Vw.iti1 (hd : decode mi.2.1 pc = .ok (.invokevirtual idx, 3)) (hl : Cond.methodLink mi.1.cls idx mi'.1 ∈ vTs) (hm : vMt mi' 1) (hi : i < 11) (hs : (S.1 b).1 = 300 + i) (hw : (st.map fun v => v.category).sum ≤ 8) (hn : pc + 3 = n) (hC : Vc mi' d 0 0 [.ref b, x1] S I L (ViQ fun r S' I' L' => Vw mi (d + 1) mc ms cr sr Q n lv (.int r :: st) S' I' L')) : Vw mi (d + 1) mc ms cr sr Q pc lv (x1 :: .ref b :: st) S I L :=
  Vw.invT (mc' := 0) (ms' := 0) (As := [x1]) hd hl hm hi hs rfl rfl hw hn (hC.mono (fun v S' I' L' h => by obtain ⟨r, rfl, h⟩ := h; exact h))
end STR2
def TxS (S : vS) (k z : Nat) : Prop := k < 11 ∧ (S.1 z).1 = 300 + k ∧ ∃ b, vBy (S.1 b) k
def sch (k j : Nat) : Int32 := (vSby.getD k []).getD j 0
theorem str_ok : ∀ k, k < 11 → (vSby.getD k []).length = vSlen.getD k 0 ∧ vSlen.getD k 0 ≤ 50 ∧ nI (vSlen.getD k 0) >>> ((0 : Int32) &&& 31) = nI (vSlen.getD k 0) := by decide +kernel
theorem sch_ok : ∀ k, k < 11 → ∀ j, j < vSlen.getD k 0 → ((sch k j &&& 255).toUInt32 % 65536).toInt32 = sch k j ∧ narrow .char (.int (sch k j)) = .int (sch k j) := by decide +kernel
theorem c_J0_coder_7d493 {d : Nat} {S : vS} {I : vI} {L : vL} {Q : Int32 → vS → vI → vL → Prop} {k z : Nat} (hk : TxS S k z) (h : Q 0 S I L) : Vc mJ0_coder_7d493 d 0 0 [.ref z] S I L (ViQ Q) := by
  refine Vc.of rfl (Nat.le_of_ble_eq_true rfl) ?_
  have B := bs_J0_coder_7d493
  show Vw mJ0_coder_7d493 d 0 0 0 0 (ViQ Q) 0 [(0, .ref z)] [] S I L
  refine Vw.getsC (de_getstatic (B 0 _ rfl) (B 1 _ rfl) (B 2 _ rfl)) rfl (n := 3) rfl ?_
  refine Vw.if_eq (tgt := 13) (n := 6) (de_if_eq (B 3 _ rfl) (B 4 _ rfl) (B 5 _ rfl)) rfl rfl (fun c_3 => absurd c_3 (by decide)) (fun c_3 => ?_)
  refine Vw.aload_n (de_aload_0 (B 6 _ rfl)) 0 rfl (n := 7) rfl ?_
  refine Vw.getC (de_getfield (B 7 _ rfl) (B 8 _ rfl) (B 9 _ rfl)) rfl hk.1 hk.2.1 (n := 10) rfl ?_
  refine Vw.goto_ (n := 14) (de_goto_ (B 10 _ rfl) (B 11 _ rfl) (B 12 _ rfl)) rfl ?_
  exact Vw.zret (de_ireturn (B 14 _ rfl)) rfl rfl ⟨_, rfl, h⟩
theorem c_J0_isLatin1_aae02 {d : Nat} {S : vS} {I : vI} {L : vL} {Q : Int32 → vS → vI → vL → Prop} {k z : Nat} (hk : TxS S k z) (h : Q 1 S I L) : Vc mJ0_isLatin1_aae02 d 0 0 [.ref z] S I L (ViQ Q) := by
  refine Vc.of rfl (Nat.le_of_ble_eq_true rfl) ?_
  have B := bs_J0_isLatin1_aae02
  show Vw mJ0_isLatin1_aae02 d 0 0 0 0 (ViQ Q) 0 [(0, .ref z)] [] S I L
  refine Vw.getsC (de_getstatic (B 0 _ rfl) (B 1 _ rfl) (B 2 _ rfl)) rfl (n := 3) rfl ?_
  refine Vw.if_eq (tgt := 17) (n := 6) (de_if_eq (B 3 _ rfl) (B 4 _ rfl) (B 5 _ rfl)) rfl rfl (fun c_3 => absurd c_3 (by decide)) (fun c_3 => ?_)
  refine Vw.aload_n (de_aload_0 (B 6 _ rfl)) 0 rfl (n := 7) rfl ?_
  refine Vw.getC (de_getfield (B 7 _ rfl) (B 8 _ rfl) (B 9 _ rfl)) rfl hk.1 hk.2.1 (n := 10) rfl ?_
  refine Vw.if_ne (tgt := 17) (n := 13) (de_if_ne (B 10 _ rfl) (B 11 _ rfl) (B 12 _ rfl)) rfl rfl (fun c_10 => absurd rfl c_10) (fun c_10 => ?_)
  refine Vw.iconst (v := 1) (de_iconst_1 (B 13 _ rfl)) rfl (n := 14) rfl ?_
  refine Vw.goto_ (n := 18) (de_goto_ (B 14 _ rfl) (B 15 _ rfl) (B 16 _ rfl)) rfl ?_
  exact Vw.zret (de_ireturn (B 18 _ rfl)) rfl rfl ⟨_, rfl, h⟩
theorem c_J0_length_8abf5 {d : Nat} {S : vS} {I : vI} {L : vL} {Q : Int32 → vS → vI → vL → Prop} {k z : Nat} (hk : TxS S k z) (h : Q (nI (vSlen.getD k 0)) S I L) : Vc mJ0_length_8abf5 (d + 1) 0 0 [.ref z] S I L (ViQ Q) := by
  refine Vc.of rfl (Nat.le_of_ble_eq_true rfl) ?_
  have B := bs_J0_length_8abf5
  show Vw mJ0_length_8abf5 (d + 1) 0 0 0 0 (ViQ Q) 0 [(0, .ref z)] [] S I L
  obtain ⟨b, hb⟩ := hk.2.2
  refine Vw.aload_n (de_aload_0 (B 0 _ rfl)) 0 rfl (n := 1) rfl ?_
  refine Vw.getV (de_getfield (B 1 _ rfl) (B 2 _ rfl) (B 3 _ rfl)) rfl hk.1 hk.2.1 hb (n := 4) rfl ?_
  refine Vw.alenV (de_arraylength (B 4 _ rfl)) hk.1 hb (n := 5) rfl ?_
  refine Vw.aload_n (de_aload_0 (B 5 _ rfl)) 0 rfl (n := 6) rfl ?_
  refine Vw.iti0 (mi' := mJ0_coder_7d493) (de_invokevirtual (B 6 _ rfl) (B 7 _ rfl) (B 8 _ rfl)) ml_J0_335 mt_J0_coder_7d493 hk.1 hk.2.1 (Nat.le_of_ble_eq_true rfl) (n := 9) rfl (c_J0_coder_7d493 hk ?_)
  refine Vw.ishr (de_ishr (B 9 _ rfl)) (n := 10) rfl ?_
  rw [(str_ok k hk.1).2.2]
  exact Vw.iret (de_ireturn (B 10 _ rfl)) rfl ⟨_, rfl, h⟩
theorem c_J3_checkIndex_n {d : Nat} {S : vS} {I : vI} {L : vL} {Q : Int32 → vS → vI → vL → Prop} {x y : Int32} (h1 : ¬ x < 0) (h2 : x < y) (h : Q x S I L) : Vc mJ3_checkIndex_8e157 d 0 0 [.int x, .int y, .null] S I L (ViQ Q) := by
  refine Vc.of rfl (Nat.le_of_ble_eq_true rfl) ?_
  have B := bs_J3_checkIndex_8e157
  show Vw mJ3_checkIndex_8e157 d 0 0 0 0 (ViQ Q) 0 [(0, .int x), (1, .int y), (2, .null)] [] S I L
  refine Vw.iload_n (de_iload_0 (B 0 _ rfl)) 0 rfl (n := 1) rfl ?_
  refine Vw.if_lt (tgt := 9) (n := 4) (de_if_lt (B 1 _ rfl) (B 2 _ rfl) (B 3 _ rfl)) rfl rfl (fun c_3 => absurd c_3 h1) (fun c_3 => ?_)
  refine Vw.iload_n (de_iload_0 (B 4 _ rfl)) 0 rfl (n := 5) rfl ?_
  refine Vw.iload_n (de_iload_1 (B 5 _ rfl)) 1 rfl (n := 6) rfl ?_
  refine Vw.icmp_lt (tgt := 16) (n := 9) (de_icmp_lt (B 6 _ rfl) (B 7 _ rfl) (B 8 _ rfl)) rfl rfl (fun c_6 => ?_) (fun c_6 => absurd h2 c_6)
  refine Vw.iload_n (de_iload_0 (B 16 _ rfl)) 0 rfl (n := 17) rfl ?_
  exact Vw.iret (de_ireturn (B 17 _ rfl)) rfl ⟨_, rfl, h⟩
theorem c_J3_checkIndex_r {d : Nat} {S : vS} {I : vI} {L : vL} {Q : Int32 → vS → vI → vL → Prop} {x y : Int32} {t : Nat} (h1 : ¬ x < 0) (h2 : x < y) (h : Q x S I L) : Vc mJ3_checkIndex_8e157 d 0 0 [.int x, .int y, .ref t] S I L (ViQ Q) := by
  refine Vc.of rfl (Nat.le_of_ble_eq_true rfl) ?_
  have B := bs_J3_checkIndex_8e157
  show Vw mJ3_checkIndex_8e157 d 0 0 0 0 (ViQ Q) 0 [(0, .int x), (1, .int y), (2, .ref t)] [] S I L
  refine Vw.iload_n (de_iload_0 (B 0 _ rfl)) 0 rfl (n := 1) rfl ?_
  refine Vw.if_lt (tgt := 9) (n := 4) (de_if_lt (B 1 _ rfl) (B 2 _ rfl) (B 3 _ rfl)) rfl rfl (fun c_3 => absurd c_3 h1) (fun c_3 => ?_)
  refine Vw.iload_n (de_iload_0 (B 4 _ rfl)) 0 rfl (n := 5) rfl ?_
  refine Vw.iload_n (de_iload_1 (B 5 _ rfl)) 1 rfl (n := 6) rfl ?_
  refine Vw.icmp_lt (tgt := 16) (n := 9) (de_icmp_lt (B 6 _ rfl) (B 7 _ rfl) (B 8 _ rfl)) rfl rfl (fun c_6 => ?_) (fun c_6 => absurd h2 c_6)
  refine Vw.iload_n (de_iload_0 (B 16 _ rfl)) 0 rfl (n := 17) rfl ?_
  exact Vw.iret (de_ireturn (B 17 _ rfl)) rfl ⟨_, rfl, h⟩
theorem c_J0_checkIndex_df160 {d : Nat} {S : vS} {I : vI} {L : vL} {Q : vS → vI → vL → Prop} {x y : Int32} (h1 : ¬ x < 0) (h2 : x < y) (h : Q S I L) : Vc mJ0_checkIndex_df160 (d + 1) 0 0 [.int x, .int y] S I L (VvQ Q) := by
  refine Vc.of rfl (Nat.le_of_ble_eq_true rfl) ?_
  have B := bs_J0_checkIndex_df160
  show Vw mJ0_checkIndex_df160 (d + 1) 0 0 0 0 (VvQ Q) 0 [(0, .int x), (1, .int y)] [] S I L
  refine Vw.iload_n (de_iload_0 (B 0 _ rfl)) 0 rfl (n := 1) rfl ?_
  refine Vw.iload_n (de_iload_1 (B 1 _ rfl)) 1 rfl (n := 2) rfl ?_
  refine Vw.getsQ (de_getstatic (B 2 _ rfl) (B 3 _ rfl) (B 4 _ rfl)) rfl (n := 5) rfl (fun v hv => ?_)
  refine Vw.isi3 (mi' := mJ3_checkIndex_8e157) (de_invokestatic (B 5 _ rfl) (B 6 _ rfl) (B 7 _ rfl)) ml_J0_1059 ms_J3_checkIndex_8e157 (Nat.le_of_ble_eq_true rfl) (n := 8) rfl ?_
  have hk2 : Vw mJ0_checkIndex_df160 (d + 1) 0 0 0 0 (VvQ Q) 8 [(0, .int x), (1, .int y)] [.int x] S I L := ?_
  · rcases hv with rfl | ⟨t, rfl⟩
    · exact c_J3_checkIndex_n h1 h2 hk2
    · exact c_J3_checkIndex_r h1 h2 hk2
  refine Vw.pop (de_pop (B 8 _ rfl)) rfl (n := 9) rfl ?_
  exact Vw.vret (de_return_ (B 9 _ rfl)) rfl ⟨rfl, h⟩
theorem c_J1_charAt_3b067 {d : Nat} {S : vS} {I : vI} {L : vL} {Q : Int32 → vS → vI → vL → Prop} {k j b : Nat} (hk : k < 11) (hb : vBy (S.1 b) k) (hj : j < vSlen.getD k 0) (h : Q (sch k j) S I L) : Vc mJ1_charAt_3b067 (d + 2) 0 0 [.ref b, .int (nI j)] S I L (ViQ Q) := by
  refine Vc.of rfl (Nat.le_of_ble_eq_true rfl) ?_
  have B := bs_J1_charAt_3b067
  show Vw mJ1_charAt_3b067 (d + 2) 0 0 0 0 (ViQ Q) 0 [(0, .ref b), (1, .int (nI j))] [] S I L
  have h43 := (str_ok k hk).2.1
  refine Vw.iload_n (de_iload_1 (B 0 _ rfl)) 1 rfl (n := 1) rfl ?_
  refine Vw.aload_n (de_aload_0 (B 1 _ rfl)) 0 rfl (n := 2) rfl ?_
  refine Vw.alenV (de_arraylength (B 2 _ rfl)) hk hb (n := 3) rfl ?_
  refine Vw.isv2 (mi' := mJ0_checkIndex_df160) (de_invokestatic (B 3 _ rfl) (B 4 _ rfl) (B 5 _ rfl)) ml_J1_9 ms_J0_checkIndex_df160 (Nat.le_of_ble_eq_true rfl) (n := 6) rfl (c_J0_checkIndex_df160 (nn_nI (by omega)) (i32_lt.mpr (by rw [nI_ti (by omega), nI_ti (by omega)]; omega)) ?_)
  refine Vw.aload_n (de_aload_0 (B 6 _ rfl)) 0 rfl (n := 7) rfl ?_
  refine Vw.iload_n (de_iload_1 (B 7 _ rfl)) 1 rfl (n := 8) rfl ?_
  refine Vw.baldV (j := j) (de_baload (B 8 _ rfl)) hk hb (vIx_n (k := j) rfl hj (by omega)) (n := 9) rfl ?_
  refine Vw.sipush (v := 255) (de_sipush (B 9 _ rfl) (B 10 _ rfl) (B 11 _ rfl)) rfl (n := 12) rfl ?_
  refine Vw.iand (de_iand (B 12 _ rfl)) (n := 13) rfl ?_
  refine Vw.i2c (de_i2c (B 13 _ rfl)) (n := 14) rfl ?_
  rw [show (((vSby.getD k []).getD j 0 &&& 255).toUInt32 % 65536).toInt32 = sch k j from (sch_ok k hk j hj).1]
  exact Vw.zret (de_ireturn (B 14 _ rfl)) rfl (sch_ok k hk j hj).2 ⟨_, rfl, h⟩
theorem c_J0_charAt_5068e {d : Nat} {S : vS} {I : vI} {L : vL} {Q : Int32 → vS → vI → vL → Prop} {k j z : Nat} (hk : TxS S k z) (hj : j < vSlen.getD k 0) (h : Q (sch k j) S I L) : Vc mJ0_charAt_5068e (d + 3) 0 0 [.ref z, .int (nI j)] S I L (ViQ Q) := by
  refine Vc.of rfl (Nat.le_of_ble_eq_true rfl) ?_
  have B := bs_J0_charAt_5068e
  show Vw mJ0_charAt_5068e (d + 3) 0 0 0 0 (ViQ Q) 0 [(0, .ref z), (1, .int (nI j))] [] S I L
  obtain ⟨b, hb⟩ := hk.2.2
  refine Vw.aload_n (de_aload_0 (B 0 _ rfl)) 0 rfl (n := 1) rfl ?_
  refine Vw.iti0 (mi' := mJ0_isLatin1_aae02) (de_invokevirtual (B 1 _ rfl) (B 2 _ rfl) (B 3 _ rfl)) ml_J0_492 mt_J0_isLatin1_aae02 hk.1 hk.2.1 (Nat.le_of_ble_eq_true rfl) (n := 4) rfl (c_J0_isLatin1_aae02 hk ?_)
  refine Vw.if_eq (tgt := 16) (n := 7) (de_if_eq (B 4 _ rfl) (B 5 _ rfl) (B 6 _ rfl)) rfl rfl (fun c_3 => absurd c_3 (by decide)) (fun c_3 => ?_)
  refine Vw.aload_n (de_aload_0 (B 7 _ rfl)) 0 rfl (n := 8) rfl ?_
  refine Vw.getV (de_getfield (B 8 _ rfl) (B 9 _ rfl) (B 10 _ rfl)) rfl hk.1 hk.2.1 hb (n := 11) rfl ?_
  refine Vw.iload_n (de_iload_1 (B 11 _ rfl)) 1 rfl (n := 12) rfl ?_
  refine Vw.isi2 (mi' := mJ1_charAt_3b067) (de_invokestatic (B 12 _ rfl) (B 13 _ rfl) (B 14 _ rfl)) ml_J0_495 ms_J1_charAt_3b067 (Nat.le_of_ble_eq_true rfl) (n := 15) rfl (c_J1_charAt_3b067 hk.1 hb hj ?_)
  exact Vw.zret (de_ireturn (B 15 _ rfl)) rfl (sch_ok k hk.1 j hj).2 ⟨_, rfl, h⟩
def nxA (g : Nat → Int32) (m : Nat) (b : Int32) : Option Nat → Option Nat
  | none => none
  | some k => if k < m ∧ g k = b then some (k + 1) else none
/-- which word of a list a token is -/
def lsG (g : Nat → Int32) (m : Nat) : List Int32 → Nat → Option Nat → Int32
  | [], num, al => if al = some m then nI num else -1
  | b :: B, num, al => if b = 32 then (if al = some m then nI num else lsG g m B (num + 1) (some 0)) else lsG g m B num (nxA g m b al)
def alI : Option Nat → Int32
  | none => -1
  | some k => nI k
def mtW (g : Nat → Int32) (m : Nat) : Nat → List Int32 → Option Nat
  | k, [] => some k
  | k, b :: w => if k < m ∧ g k = b then mtW g m (k + 1) w else none
theorem lsG_n {g : Nat → Int32} {m num : Nat} {R : List Int32} : ∀ {w : List Int32}, (∀ b ∈ w, ¬ b = 32) → lsG g m (w ++ R) num none = lsG g m R num none
  | [], _ => rfl
  | b :: w, h => by
    rw [List.cons_append, lsG, if_neg (h b List.mem_cons_self), nxA]
    exact lsG_n (fun x hx => h x (List.mem_cons_of_mem _ hx))
theorem lsG_w {g : Nat → Int32} {m num : Nat} {R : List Int32} : ∀ {w : List Int32} {k : Nat}, (∀ b ∈ w, ¬ b = 32) → lsG g m (w ++ R) num (some k) = lsG g m R num (mtW g m k w)
  | [], _, _ => rfl
  | b :: w, k, h => by
    rw [List.cons_append, lsG, if_neg (h b List.mem_cons_self), mtW, nxA]
    by_cases z : k < m ∧ g k = b
    · rw [if_pos z, if_pos z]; exact lsG_w (fun x hx => h x (List.mem_cons_of_mem _ hx))
    · rw [if_neg z, if_neg z]; exact lsG_n (fun x hx => h x (List.mem_cons_of_mem _ hx))
theorem mtW_s {g : Nat → Int32} {m : Nat} : ∀ {w : List Int32} {k : Nat}, mtW g m k w = some m ↔ k + w.length = m ∧ ∀ x, x < w.length → w.getD x 0 = g (k + x)
  | [], k => by
    rw [mtW, Option.some.injEq]
    simp
  | b :: w, k => by
    rw [mtW]
    by_cases z : k < m ∧ g k = b
    · rw [if_pos z, mtW_s (w := w) (k := k + 1)]
      constructor
      · rintro ⟨h1, h2⟩
        refine ⟨by simp only [List.length_cons]; omega, fun x hx => ?_⟩
        cases x with
        | zero => simpa using z.2.symm
        | succ x =>
          have := h2 x (by simp only [List.length_cons] at hx; omega)
          rw [show k + (x + 1) = k + 1 + x by omega]
          simpa using this
      · rintro ⟨h1, h2⟩
        refine ⟨by simp only [List.length_cons] at h1; omega, fun x hx => ?_⟩
        have := h2 (x + 1) (by simp only [List.length_cons]; omega)
        rw [show k + (x + 1) = k + 1 + x by omega] at this
        simpa using this
    · rw [if_neg z]
      refine ⟨fun h => (by cases h), fun h => absurd ⟨?_, ?_⟩ z⟩
      · have := h.1; simp only [List.length_cons] at this; omega
      · have := h.2 0 (by simp only [List.length_cons]; omega)
        simpa using this.symm
def joinS : List (List Int32) → List Int32
  | [] => []
  | [w] => w
  | w :: v :: ws => w ++ 32 :: joinS (v :: ws)
def lsW : List (List Int32) → List Int32 → Nat → Int32
  | [], _, _ => -1
  | w :: ws, t, k => if w = t then nI k else lsW ws t (k + 1)
theorem lsG_j {u : Nat → Int32} {a e : Nat} (hae : a ≤ e) : ∀ {ws : List (List Int32)} {num : Nat}, ws ≠ [] → (∀ w ∈ ws, ∀ b ∈ w, ¬ b = 32) → lsG (fun x => u (a + x)) (e - a) (joinS ws) num (some 0) = lsW ws (lett u a e) num
  | [], _, h, _ => absurd rfl h
  | [w], num, _, h => by
    have h1 := lsG_w (g := fun x => u (a + x)) (m := e - a) (num := num) (R := []) (k := 0) (h w List.mem_cons_self)
    rw [List.append_nil] at h1
    rw [joinS, h1, lsG, lsW, lsW]
    by_cases z : w = lett u a e
    · rw [if_pos z, if_pos (mtW_s.mpr ⟨by rw [z, lett_len]; omega, fun x hx => ?_⟩)]
      rw [z] at hx ⊢; rw [lett_len] at hx; simp [lett, List.getD, hx]
    · rw [if_neg z, if_neg (fun q => z ?_)]
      have q2 := mtW_s.mp q
      exact lett_eq (by omega) (fun x hx => by have := q2.2 x hx; simpa using this)
  | w :: v :: ws, num, _, h => by
    have h1 := lsG_w (g := fun x => u (a + x)) (m := e - a) (num := num) (R := 32 :: joinS (v :: ws)) (k := 0) (h w List.mem_cons_self)
    rw [joinS, h1, lsG, if_pos rfl, lsW]
    by_cases z : w = lett u a e
    · rw [if_pos z, if_pos (mtW_s.mpr ⟨by rw [z, lett_len]; omega, fun x hx => ?_⟩)]
      rw [z] at hx ⊢; rw [lett_len] at hx; simp [lett, List.getD, hx]
    · rw [if_neg z, if_neg (fun q => z ?_)]
      · exact lsG_j hae (by simp) (fun x hx => h x (List.mem_cons_of_mem _ hx))
      · have q2 := mtW_s.mp q
        exact lett_eq (by omega) (fun x hx => by have := q2.2 x hx; simpa using this)
def WK : List (List (List Int32)) := [[[102, 101, 101, 100], [104, 97, 110, 100], [104, 101, 109], [98, 117, 116, 116, 111, 110], [113, 117, 97, 114, 116, 101, 114]], [[103, 114, 111, 119, 115], [119, 105, 100, 101, 110, 115], [99, 108, 111, 116, 104], [112, 97, 121, 115], [98, 97, 114, 115]], [[110, 111, 119], [100, 111, 110, 101], [112, 97, 105, 100], [108, 111, 110, 103], [119, 105, 100, 101]], [[112, 101, 114, 115, 111, 110], [97, 103, 101], [102, 101, 100], [108, 111, 110, 103], [119, 105, 100, 101], [116, 97, 105, 108, 111, 114], [113, 117, 97, 114, 116, 101, 114], [109, 111, 111, 100]], [[98, 121]], [[116, 111]], [[116, 105, 109, 101, 115]], [[105, 102]], [[110, 111, 116]], [[97, 110, 100]], [[111, 114]]]
def lsC : List (List Int32) := [[21, 23, 25, 26, 16], [1, 2, 3, 4, 5], [18, 19, 20, 13, 14], [10, 11, 12, 13, 14, 15, 16, 17], [22], [24], [27], [6], [9], [8], [7]]
def lsX : List Int32 → Int32 → Nat → Int32
  | [], _, _ => -1
  | y :: ys, c, k => if y = c then nI k else lsX ys c (k + 1)
/-- the place of a code in the k-th list, -1 if it is none of them -/
def lsP (k : Nat) (c : Int32) : Int32 := lsX (lsC.getD k []) c 0
theorem WK_ok : ∀ k, k < 11 → vSby.getD k [] = joinS (WK.getD k []) ∧ WK.getD k [] ≠ [] ∧ (∀ w ∈ WK.getD k [], (∀ b ∈ w, ¬ b = 32) ∧ w ∈ WL) ∧ lsP k 0 = -1 := by decide +kernel
theorem WK_in : ∀ w ∈ WL, ∀ k, k < 11 → lsW (WK.getD k []) w 0 = lsP k (wIdx WL w 1) := by decide +kernel
theorem wIdx_no {t : List Int32} : ∀ {ws : List (List Int32)} {k : Nat}, ¬ t ∈ ws → wIdx ws t k = 0
  | [], _, _ => rfl
  | w :: ws, k, h => by rw [wIdx, if_neg (fun z => h (by rw [z]; exact List.mem_cons_self))]; exact wIdx_no (fun z => h (List.mem_cons_of_mem _ z))
theorem lsW_no {t : List Int32} : ∀ {ws : List (List Int32)} {k : Nat}, ¬ t ∈ ws → lsW ws t k = -1
  | [], _, _ => rfl
  | w :: ws, k, h => by rw [lsW, if_neg (fun z => h (by rw [z]; exact List.mem_cons_self))]; exact lsW_no (fun z => h (List.mem_cons_of_mem _ z))
theorem ls_all {u : Nat → Int32} {a e k : Nat} (hae : a ≤ e) (hk : k < 11) : lsG (fun x => u (a + x)) (e - a) (vSby.getD k []) 0 (some 0) = lsP k (wordF u a e) := by
  obtain ⟨h1, h2, h3, h4⟩ := WK_ok k hk
  rw [h1, lsG_j hae h2 (fun w hw => (h3 w hw).1)]
  unfold wordF
  by_cases z : lett u a e ∈ WL
  · exact WK_in _ z k hk
  · rw [lsW_no (fun q => z (h3 _ q).2), wIdx_no z, h4]
theorem c_X5_listed {d : Nat} {S : vS} {I : vI} {L : vL} {Q : Int32 → vS → vI → vL → Prop} {s tp k z i : Nat} (hR : ReadS S (s + 74)) (ht : S.2.1 (s + 74) 5 = some tp) (htk : S.1 tp = (100, 400)) (hz : TxS S k z) (hat : I (s + 74) 8 = nI i) (hi : i ≤ 400) (h0 : ¬ I (s + 83) i = 256 → Q (-1) S I L) (h : I (s + 83) i = 256 → ∃ a e, a < e ∧ e ≤ 400 ∧ I (s + 84) i = nI a ∧ I (s + 85) i = nI e ∧ Q (lsG (fun x => I tp (a + x)) (e - a) (vSby.getD k []) 0 (some 0)) S I L) : Vc mX5_listed (d + 5) 0 0 [.ref (s + 74), .ref z] S I L (ViQ Q) := by
  refine Vc.of rfl (Nat.le_of_ble_eq_true rfl) ?_
  have B := bs_X5_listed
  show Vw mX5_listed (d + 5) 0 0 0 0 (ViQ Q) 0 [(0, .ref (s + 74)), (1, .ref z)] [] S I L
  obtain ⟨so1, so2, -⟩ := str_ok k hz.1
  have loop : ∀ a e, a < e → e ≤ 400 → I (s + 84) i = nI a → I (s + 85) i = nI e → ∀ p, p ≤ (vSlen.getD k 0) → ∀ num al, num ≤ p → (∀ q, al = some q → q ≤ e - a) → Q (lsG (fun x => I tp (a + x)) (e - a) ((vSby.getD k []).drop p) num al) S I L → Vw mX5_listed (d + 5) 0 0 0 0 (ViQ Q) 45 [(0, .ref (s + 74)), (1, .ref z), (2, .int (nI (e - a))), (3, .int (nI num)), (4, .int (alI al)), (5, .int (nI p))] [] S I L := by
    intro a e hae he es ee
    have fin : ∀ x y, Q (-1) S I L → Vw mX5_listed (d + 5) 0 0 0 0 (ViQ Q) 45 [(0, .ref (s + 74)), (1, .ref z), (2, .int (nI (e - a))), (3, .int x), (4, .int y), (5, .int (nI ((vSlen.getD k 0) + 1)))] [] S I L := by
      intro x y hQ
      refine Vw.iload (de_iload (B 45 _ rfl) (B 46 _ rfl)) 5 rfl (n := 47) rfl ?_
      refine Vw.aload_n (de_aload_1 (B 47 _ rfl)) 1 rfl (n := 48) rfl ?_
      refine Vw.iti0 (mi' := mJ0_length_8abf5) (de_invokevirtual (B 48 _ rfl) (B 49 _ rfl) (B 50 _ rfl)) ml_X5_178 mt_J0_length_8abf5 hz.1 hz.2.1 (Nat.le_of_ble_eq_true rfl) (n := 51) rfl (c_J0_length_8abf5 hz ?_)
      refine Vw.icmp_gt (tgt := 157) (n := 54) (de_icmp_gt (B 51 _ rfl) (B 52 _ rfl) (B 53 _ rfl)) rfl rfl (fun c_51 => ?_) (fun c_51 => ?_)
      · refine Vw.iconst (v := -1) (de_iconst_m1 (B 157 _ rfl)) rfl (n := 158) rfl ?_
        exact Vw.iret (de_ireturn (B 158 _ rfl)) rfl ⟨_, rfl, hQ⟩
      exact absurd (i32_lt.mpr (by rw [nI_ti (by omega), nI_ti (by omega)]; omega)) c_51
    refine loop_up (fun p hp ih => ?_)
    intro num al hnum hal hQ
    rcases Nat.lt_or_ge p (vSlen.getD k 0) with hlt | hge
    · have eD : (vSby.getD k []).drop p = sch k p :: (vSby.getD k []).drop (p + 1) := by
        have hL : p < (vSby.getD k []).length := by omega
        unfold sch
        generalize vSby.getD k [] = B at hL ⊢
        rw [List.drop_eq_getElem_cons hL]
        congr 1
        simp only [List.getD_eq_getElem?_getD, List.getElem?_eq_getElem hL, Option.getD_some]
      rw [eD, lsG] at hQ
      rcases al with _ | kk
      · rw [show nxA (fun x => I tp (a + x)) (e - a) (sch k p) none = none from rfl] at hQ
        refine Vw.iload (de_iload (B 45 _ rfl) (B 46 _ rfl)) 5 rfl (n := 47) rfl ?_
        refine Vw.aload_n (de_aload_1 (B 47 _ rfl)) 1 rfl (n := 48) rfl ?_
        refine Vw.iti0 (mi' := mJ0_length_8abf5) (de_invokevirtual (B 48 _ rfl) (B 49 _ rfl) (B 50 _ rfl)) ml_X5_178 mt_J0_length_8abf5 hz.1 hz.2.1 (Nat.le_of_ble_eq_true rfl) (n := 51) rfl (c_J0_length_8abf5 hz ?_)
        refine Vw.icmp_gt (tgt := 157) (n := 54) (de_icmp_gt (B 51 _ rfl) (B 52 _ rfl) (B 53 _ rfl)) rfl rfl (fun c_51 => ?_) (fun c_51 => ?_)
        · exact absurd ((nI_leI (a := p) (b := (vSlen.getD k 0)) (by omega) (by omega)).mpr hp) (Int32.not_le.mpr c_51)
        refine Vw.iload (de_iload (B 54 _ rfl) (B 55 _ rfl)) 5 rfl (n := 56) rfl ?_
        refine Vw.aload_n (de_aload_1 (B 56 _ rfl)) 1 rfl (n := 57) rfl ?_
        refine Vw.iti0 (mi' := mJ0_length_8abf5) (de_invokevirtual (B 57 _ rfl) (B 58 _ rfl) (B 59 _ rfl)) ml_X5_178 mt_J0_length_8abf5 hz.1 hz.2.1 (Nat.le_of_ble_eq_true rfl) (n := 60) rfl (c_J0_length_8abf5 hz ?_)
        refine Vw.icmp_eq (tgt := 74) (n := 63) (de_icmp_eq (B 60 _ rfl) (B 61 _ rfl) (B 62 _ rfl)) rfl rfl (fun c_60 => ?_) (fun c_60 => ?_)
        · exact absurd (nI_inj (by omega) (by omega) c_60) (by omega)
        refine Vw.aload_n (de_aload_1 (B 63 _ rfl)) 1 rfl (n := 64) rfl ?_
        refine Vw.iload (de_iload (B 64 _ rfl) (B 65 _ rfl)) 5 rfl (n := 66) rfl ?_
        refine Vw.iti1 (mi' := mJ0_charAt_5068e) (de_invokevirtual (B 66 _ rfl) (B 67 _ rfl) (B 68 _ rfl)) ml_X5_184 mt_J0_charAt_5068e hz.1 hz.2.1 (Nat.le_of_ble_eq_true rfl) (n := 69) rfl (c_J0_charAt_5068e hz hlt ?_)
        refine Vw.bipush (v := 32) (de_bipush (B 69 _ rfl) (B 70 _ rfl)) rfl (n := 71) rfl ?_
        refine Vw.icmp_ne (tgt := 91) (n := 74) (de_icmp_ne (B 71 _ rfl) (B 72 _ rfl) (B 73 _ rfl)) rfl rfl (fun c_71 => ?_) (fun c_71 => ?_)
        · rw [if_neg c_71] at hQ
          refine Vw.iload (de_iload (B 91 _ rfl) (B 92 _ rfl)) 4 rfl (n := 93) rfl ?_
          refine Vw.iconst (v := -1) (de_iconst_m1 (B 93 _ rfl)) rfl (n := 94) rfl ?_
          refine Vw.icmp_eq (tgt := 151) (n := 97) (de_icmp_eq (B 94 _ rfl) (B 95 _ rfl) (B 96 _ rfl)) rfl rfl (fun c_94 => ?_) (fun c_94 => ?_)
          · refine Vw.iinc (v := nI (p + 1)) (lv2 := [(0, _), (1, _), (2, _), (3, _), (4, _), (5, _)]) (de_iinc (B 151 _ rfl) (B 152 _ rfl) (B 153 _ rfl)) 5 rfl (nI_1 p) (by decide) [1, 2, 3, 4, 5, 0] rfl (n := 154) rfl ?_
            refine Vw.goto_ (n := 45) (de_goto_ (B 154 _ rfl) (B 155 _ rfl) (B 156 _ rfl)) rfl ?_
            first
            | exact ih hlt num none (by omega) (fun q hq => by cases hq) hQ
            | (rw [if_neg (by simp)] at hQ
               exact ih hlt (num + 1) (some 0) (by omega) (fun q hq => by cases hq; omega) hQ)
          exact absurd rfl c_94
        rw [if_pos c_71] at hQ
        refine Vw.iload (de_iload (B 74 _ rfl) (B 75 _ rfl)) 4 rfl (n := 76) rfl ?_
        refine Vw.iload_n (de_iload_2 (B 76 _ rfl)) 2 rfl (n := 77) rfl ?_
        refine Vw.icmp_ne (tgt := 82) (n := 80) (de_icmp_ne (B 77 _ rfl) (B 78 _ rfl) (B 79 _ rfl)) rfl rfl (fun c_77 => ?_) (fun c_77 => ?_)
        · refine Vw.iinc (v := nI (num + 1)) (lv2 := [(0, _), (1, _), (2, _), (3, _), (4, _), (5, _)]) (de_iinc (B 82 _ rfl) (B 83 _ rfl) (B 84 _ rfl)) 3 rfl (nI_1 num) (by decide) [1, 2, 3, 0, 4, 5] rfl (n := 85) rfl ?_
          refine Vw.iconst (v := 0) (de_iconst_0 (B 85 _ rfl)) rfl (n := 86) rfl ?_
          refine Vw.istore (lv2 := [(0, _), (1, _), (2, _), (3, _), (4, _), (5, _)]) (de_istore (B 86 _ rfl) (B 87 _ rfl)) (by decide) [1, 2, 3, 4, 0, 5] rfl (n := 88) rfl ?_
          refine Vw.goto_ (n := 151) (de_goto_ (B 88 _ rfl) (B 89 _ rfl) (B 90 _ rfl)) rfl ?_
          refine Vw.iinc (v := nI (p + 1)) (lv2 := [(0, _), (1, _), (2, _), (3, _), (4, _), (5, _)]) (de_iinc (B 151 _ rfl) (B 152 _ rfl) (B 153 _ rfl)) 5 rfl (nI_1 p) (by decide) [1, 2, 3, 4, 5, 0] rfl (n := 154) rfl ?_
          refine Vw.goto_ (n := 45) (de_goto_ (B 154 _ rfl) (B 155 _ rfl) (B 156 _ rfl)) rfl ?_
          first
          | exact ih hlt num none (by omega) (fun q hq => by cases hq) hQ
          | (rw [if_neg (by simp)] at hQ
             exact ih hlt (num + 1) (some 0) (by omega) (fun q hq => by cases hq; omega) hQ)
        refine Vw.iload_n (de_iload_3 (B 80 _ rfl)) 3 rfl (n := 81) rfl ?_
        exact Vw.iret (de_ireturn (B 81 _ rfl)) rfl ⟨_, rfl, (absurd c_77.symm (nI_m1 (by omega)))⟩
      · have hkk := hal kk rfl
        rw [show nxA (fun x => I tp (a + x)) (e - a) (sch k p) (some kk) = (if kk < e - a ∧ I tp (a + kk) = sch k p then some (kk + 1) else none) from rfl] at hQ
        refine Vw.iload (de_iload (B 45 _ rfl) (B 46 _ rfl)) 5 rfl (n := 47) rfl ?_
        refine Vw.aload_n (de_aload_1 (B 47 _ rfl)) 1 rfl (n := 48) rfl ?_
        refine Vw.iti0 (mi' := mJ0_length_8abf5) (de_invokevirtual (B 48 _ rfl) (B 49 _ rfl) (B 50 _ rfl)) ml_X5_178 mt_J0_length_8abf5 hz.1 hz.2.1 (Nat.le_of_ble_eq_true rfl) (n := 51) rfl (c_J0_length_8abf5 hz ?_)
        refine Vw.icmp_gt (tgt := 157) (n := 54) (de_icmp_gt (B 51 _ rfl) (B 52 _ rfl) (B 53 _ rfl)) rfl rfl (fun c_51 => ?_) (fun c_51 => ?_)
        · exact absurd ((nI_leI (a := p) (b := (vSlen.getD k 0)) (by omega) (by omega)).mpr hp) (Int32.not_le.mpr c_51)
        refine Vw.iload (de_iload (B 54 _ rfl) (B 55 _ rfl)) 5 rfl (n := 56) rfl ?_
        refine Vw.aload_n (de_aload_1 (B 56 _ rfl)) 1 rfl (n := 57) rfl ?_
        refine Vw.iti0 (mi' := mJ0_length_8abf5) (de_invokevirtual (B 57 _ rfl) (B 58 _ rfl) (B 59 _ rfl)) ml_X5_178 mt_J0_length_8abf5 hz.1 hz.2.1 (Nat.le_of_ble_eq_true rfl) (n := 60) rfl (c_J0_length_8abf5 hz ?_)
        refine Vw.icmp_eq (tgt := 74) (n := 63) (de_icmp_eq (B 60 _ rfl) (B 61 _ rfl) (B 62 _ rfl)) rfl rfl (fun c_60 => ?_) (fun c_60 => ?_)
        · exact absurd (nI_inj (by omega) (by omega) c_60) (by omega)
        refine Vw.aload_n (de_aload_1 (B 63 _ rfl)) 1 rfl (n := 64) rfl ?_
        refine Vw.iload (de_iload (B 64 _ rfl) (B 65 _ rfl)) 5 rfl (n := 66) rfl ?_
        refine Vw.iti1 (mi' := mJ0_charAt_5068e) (de_invokevirtual (B 66 _ rfl) (B 67 _ rfl) (B 68 _ rfl)) ml_X5_184 mt_J0_charAt_5068e hz.1 hz.2.1 (Nat.le_of_ble_eq_true rfl) (n := 69) rfl (c_J0_charAt_5068e hz hlt ?_)
        refine Vw.bipush (v := 32) (de_bipush (B 69 _ rfl) (B 70 _ rfl)) rfl (n := 71) rfl ?_
        refine Vw.icmp_ne (tgt := 91) (n := 74) (de_icmp_ne (B 71 _ rfl) (B 72 _ rfl) (B 73 _ rfl)) rfl rfl (fun c_71 => ?_) (fun c_71 => ?_)
        · rw [if_neg c_71] at hQ
          refine Vw.iload (de_iload (B 91 _ rfl) (B 92 _ rfl)) 4 rfl (n := 93) rfl ?_
          refine Vw.iconst (v := -1) (de_iconst_m1 (B 93 _ rfl)) rfl (n := 94) rfl ?_
          refine Vw.icmp_eq (tgt := 151) (n := 97) (de_icmp_eq (B 94 _ rfl) (B 95 _ rfl) (B 96 _ rfl)) rfl rfl (fun c_94 => ?_) (fun c_94 => ?_)
          · exact absurd c_94 (nI_m1 (by omega))
          refine Vw.iload (de_iload (B 97 _ rfl) (B 98 _ rfl)) 4 rfl (n := 99) rfl ?_
          refine Vw.iload_n (de_iload_2 (B 99 _ rfl)) 2 rfl (n := 100) rfl ?_
          refine Vw.icmp_ge (tgt := 133) (n := 103) (de_icmp_ge (B 100 _ rfl) (B 101 _ rfl) (B 102 _ rfl)) rfl rfl (fun c_100 => ?_) (fun c_100 => ?_)
          · refine Vw.iconst (v := 0) (de_iconst_0 (B 133 _ rfl)) rfl (n := 134) rfl ?_
            refine Vw.istore (lv2 := [(0, _), (1, _), (2, _), (3, _), (4, _), (5, _), (6, _)]) (de_istore (B 134 _ rfl) (B 135 _ rfl)) (by decide) [1, 2, 3, 4, 5, 6, 0] rfl (n := 136) rfl ?_
            refine Vw.iload (de_iload (B 136 _ rfl) (B 137 _ rfl)) 6 rfl (n := 138) rfl ?_
            refine Vw.if_eq (tgt := 148) (n := 141) (de_if_eq (B 138 _ rfl) (B 139 _ rfl) (B 140 _ rfl)) rfl rfl (fun c_138 => ?_) (fun c_138 => ?_)
            · refine Vw.iconst (v := -1) (de_iconst_m1 (B 148 _ rfl)) rfl (n := 149) rfl ?_
              refine Vw.istore (lv2 := [(0, _), (1, _), (2, _), (3, _), (4, _), (5, _), (6, _)]) (de_istore (B 149 _ rfl) (B 150 _ rfl)) (by decide) [1, 2, 3, 4, 0, 5, 6] rfl (n := 151) rfl ?_
              refine Vw.iinc (v := nI (p + 1)) (lv2 := [(0, _), (1, _), (2, _), (3, _), (4, _), (5, _), (6, _)]) (de_iinc (B 151 _ rfl) (B 152 _ rfl) (B 153 _ rfl)) 5 rfl (nI_1 p) (by decide) [1, 2, 3, 4, 5, 0, 6] rfl (n := 154) rfl ?_
              refine Vw.goto_ (n := 45) (de_goto_ (B 154 _ rfl) (B 155 _ rfl) (B 156 _ rfl)) rfl ?_
              refine Vw.lvs (lv2 := [(0, _), (1, _), (2, _), (3, _), (4, _), (5, _)]) [0, 1, 2, 3, 4, 5] rfl ?_
              first
              | (rw [if_pos ⟨z_100, c_126⟩] at hQ
                 rw [show alI (some kk) = nI kk from rfl, nI_1]
                 exact ih hlt num (some (kk + 1)) (by omega) (fun q hq => by cases hq; omega) hQ)
              | (rw [if_neg (fun q => c_126 q.2)] at hQ
                 exact ih hlt num none (by omega) (fun q hq => by cases hq) hQ)
              | (rw [if_neg (fun q => absurd ((nI_leI (a := e - a) (b := kk) (by omega) (by omega)).mp c_100) (by omega))] at hQ
                 exact ih hlt num none (by omega) (fun q hq => by cases hq) hQ)
              | (rw [if_neg (fun q => c_77 (by cases q; rfl))] at hQ
                 exact ih hlt (num + 1) (some 0) (by omega) (fun q hq => by cases hq; omega) hQ)
            exact absurd c_138 (by decide)
          have z_100 : kk < e - a := by rcases Nat.lt_or_ge kk (e - a) with z | z; exact z; exact absurd ((nI_leI (a := e - a) (b := kk) (by omega) (by omega)).mpr z) c_100
          refine Vw.aload_n (de_aload_0 (B 103 _ rfl)) 0 rfl (n := 104) rfl ?_
          refine Vw.getR (de_getfield (B 104 _ rfl) (B 105 _ rfl) (B 106 _ rfl)) fl_X5_33 rfl hR.k ht (n := 107) rfl ?_
          refine Vw.aload_n (de_aload_0 (B 107 _ rfl)) 0 rfl (n := 108) rfl ?_
          refine Vw.getR (de_getfield (B 108 _ rfl) (B 109 _ rfl) (B 110 _ rfl)) fl_X5_24 rfl hR.k hR.f2 (n := 111) rfl ?_
          refine Vw.aload_n (de_aload_0 (B 111 _ rfl)) 0 rfl (n := 112) rfl ?_
          refine Vw.getI (de_getfield (B 112 _ rfl) (B 113 _ rfl) (B 114 _ rfl)) fl_X5_48 rfl hR.k (n := 115) rfl ?_
          rw [hat]
          refine Vw.iald (de_iaload (B 115 _ rfl)) hR.r2 (vIx_n (k := i) rfl (by omega)) (n := 116) rfl ?_
          rw [show I (s + 74 + 10) i = nI a from es]
          refine Vw.iload (de_iload (B 116 _ rfl) (B 117 _ rfl)) 4 rfl (n := 118) rfl ?_
          refine Vw.iadd (de_iadd (B 118 _ rfl)) (n := 119) rfl ?_
          skip
          refine Vw.iald (de_iaload (B 119 _ rfl)) htk (vIx_n (k := a + kk) (nI_A a kk).symm (by omega)) (n := 120) rfl ?_
          refine Vw.aload_n (de_aload_1 (B 120 _ rfl)) 1 rfl (n := 121) rfl ?_
          refine Vw.iload (de_iload (B 121 _ rfl) (B 122 _ rfl)) 5 rfl (n := 123) rfl ?_
          refine Vw.iti1 (mi' := mJ0_charAt_5068e) (de_invokevirtual (B 123 _ rfl) (B 124 _ rfl) (B 125 _ rfl)) ml_X5_184 mt_J0_charAt_5068e hz.1 hz.2.1 (Nat.le_of_ble_eq_true rfl) (n := 126) rfl (c_J0_charAt_5068e hz hlt ?_)
          refine Vw.icmp_ne (tgt := 133) (n := 129) (de_icmp_ne (B 126 _ rfl) (B 127 _ rfl) (B 128 _ rfl)) rfl rfl (fun c_126 => ?_) (fun c_126 => ?_)
          · refine Vw.iconst (v := 0) (de_iconst_0 (B 133 _ rfl)) rfl (n := 134) rfl ?_
            refine Vw.istore (lv2 := [(0, _), (1, _), (2, _), (3, _), (4, _), (5, _), (6, _)]) (de_istore (B 134 _ rfl) (B 135 _ rfl)) (by decide) [1, 2, 3, 4, 5, 6, 0] rfl (n := 136) rfl ?_
            refine Vw.iload (de_iload (B 136 _ rfl) (B 137 _ rfl)) 6 rfl (n := 138) rfl ?_
            refine Vw.if_eq (tgt := 148) (n := 141) (de_if_eq (B 138 _ rfl) (B 139 _ rfl) (B 140 _ rfl)) rfl rfl (fun c_138 => ?_) (fun c_138 => ?_)
            · refine Vw.iconst (v := -1) (de_iconst_m1 (B 148 _ rfl)) rfl (n := 149) rfl ?_
              refine Vw.istore (lv2 := [(0, _), (1, _), (2, _), (3, _), (4, _), (5, _), (6, _)]) (de_istore (B 149 _ rfl) (B 150 _ rfl)) (by decide) [1, 2, 3, 4, 0, 5, 6] rfl (n := 151) rfl ?_
              refine Vw.iinc (v := nI (p + 1)) (lv2 := [(0, _), (1, _), (2, _), (3, _), (4, _), (5, _), (6, _)]) (de_iinc (B 151 _ rfl) (B 152 _ rfl) (B 153 _ rfl)) 5 rfl (nI_1 p) (by decide) [1, 2, 3, 4, 5, 0, 6] rfl (n := 154) rfl ?_
              refine Vw.goto_ (n := 45) (de_goto_ (B 154 _ rfl) (B 155 _ rfl) (B 156 _ rfl)) rfl ?_
              refine Vw.lvs (lv2 := [(0, _), (1, _), (2, _), (3, _), (4, _), (5, _)]) [0, 1, 2, 3, 4, 5] rfl ?_
              first
              | (rw [if_pos ⟨z_100, c_126⟩] at hQ
                 rw [show alI (some kk) = nI kk from rfl, nI_1]
                 exact ih hlt num (some (kk + 1)) (by omega) (fun q hq => by cases hq; omega) hQ)
              | (rw [if_neg (fun q => c_126 q.2)] at hQ
                 exact ih hlt num none (by omega) (fun q hq => by cases hq) hQ)
              | (rw [if_neg (fun q => absurd ((nI_leI (a := e - a) (b := kk) (by omega) (by omega)).mp c_100) (by omega))] at hQ
                 exact ih hlt num none (by omega) (fun q hq => by cases hq) hQ)
              | (rw [if_neg (fun q => c_77 (by cases q; rfl))] at hQ
                 exact ih hlt (num + 1) (some 0) (by omega) (fun q hq => by cases hq; omega) hQ)
            exact absurd c_138 (by decide)
          refine Vw.iconst (v := 1) (de_iconst_1 (B 129 _ rfl)) rfl (n := 130) rfl ?_
          refine Vw.goto_ (n := 134) (de_goto_ (B 130 _ rfl) (B 131 _ rfl) (B 132 _ rfl)) rfl ?_
          refine Vw.istore (lv2 := [(0, _), (1, _), (2, _), (3, _), (4, _), (5, _), (6, _)]) (de_istore (B 134 _ rfl) (B 135 _ rfl)) (by decide) [1, 2, 3, 4, 5, 6, 0] rfl (n := 136) rfl ?_
          refine Vw.iload (de_iload (B 136 _ rfl) (B 137 _ rfl)) 6 rfl (n := 138) rfl ?_
          refine Vw.if_eq (tgt := 148) (n := 141) (de_if_eq (B 138 _ rfl) (B 139 _ rfl) (B 140 _ rfl)) rfl rfl (fun c_138 => ?_) (fun c_138 => ?_)
          · exact absurd c_138 (by decide)
          refine Vw.iload (de_iload (B 141 _ rfl) (B 142 _ rfl)) 4 rfl (n := 143) rfl ?_
          refine Vw.iconst (v := 1) (de_iconst_1 (B 143 _ rfl)) rfl (n := 144) rfl ?_
          refine Vw.iadd (de_iadd (B 144 _ rfl)) (n := 145) rfl ?_
          refine Vw.goto_ (n := 149) (de_goto_ (B 145 _ rfl) (B 146 _ rfl) (B 147 _ rfl)) rfl ?_
          refine Vw.istore (lv2 := [(0, _), (1, _), (2, _), (3, _), (4, _), (5, _), (6, _)]) (de_istore (B 149 _ rfl) (B 150 _ rfl)) (by decide) [1, 2, 3, 4, 0, 5, 6] rfl (n := 151) rfl ?_
          refine Vw.iinc (v := nI (p + 1)) (lv2 := [(0, _), (1, _), (2, _), (3, _), (4, _), (5, _), (6, _)]) (de_iinc (B 151 _ rfl) (B 152 _ rfl) (B 153 _ rfl)) 5 rfl (nI_1 p) (by decide) [1, 2, 3, 4, 5, 0, 6] rfl (n := 154) rfl ?_
          refine Vw.goto_ (n := 45) (de_goto_ (B 154 _ rfl) (B 155 _ rfl) (B 156 _ rfl)) rfl ?_
          refine Vw.lvs (lv2 := [(0, _), (1, _), (2, _), (3, _), (4, _), (5, _)]) [0, 1, 2, 3, 4, 5] rfl ?_
          first
          | (rw [if_pos ⟨z_100, c_126⟩] at hQ
             rw [show alI (some kk) = nI kk from rfl, nI_1]
             exact ih hlt num (some (kk + 1)) (by omega) (fun q hq => by cases hq; omega) hQ)
          | (rw [if_neg (fun q => c_126 q.2)] at hQ
             exact ih hlt num none (by omega) (fun q hq => by cases hq) hQ)
          | (rw [if_neg (fun q => absurd ((nI_leI (a := e - a) (b := kk) (by omega) (by omega)).mp c_100) (by omega))] at hQ
             exact ih hlt num none (by omega) (fun q hq => by cases hq) hQ)
          | (rw [if_neg (fun q => c_77 (by cases q; rfl))] at hQ
             exact ih hlt (num + 1) (some 0) (by omega) (fun q hq => by cases hq; omega) hQ)
        rw [if_pos c_71] at hQ
        refine Vw.iload (de_iload (B 74 _ rfl) (B 75 _ rfl)) 4 rfl (n := 76) rfl ?_
        refine Vw.iload_n (de_iload_2 (B 76 _ rfl)) 2 rfl (n := 77) rfl ?_
        refine Vw.icmp_ne (tgt := 82) (n := 80) (de_icmp_ne (B 77 _ rfl) (B 78 _ rfl) (B 79 _ rfl)) rfl rfl (fun c_77 => ?_) (fun c_77 => ?_)
        · refine Vw.iinc (v := nI (num + 1)) (lv2 := [(0, _), (1, _), (2, _), (3, _), (4, _), (5, _)]) (de_iinc (B 82 _ rfl) (B 83 _ rfl) (B 84 _ rfl)) 3 rfl (nI_1 num) (by decide) [1, 2, 3, 0, 4, 5] rfl (n := 85) rfl ?_
          refine Vw.iconst (v := 0) (de_iconst_0 (B 85 _ rfl)) rfl (n := 86) rfl ?_
          refine Vw.istore (lv2 := [(0, _), (1, _), (2, _), (3, _), (4, _), (5, _)]) (de_istore (B 86 _ rfl) (B 87 _ rfl)) (by decide) [1, 2, 3, 4, 0, 5] rfl (n := 88) rfl ?_
          refine Vw.goto_ (n := 151) (de_goto_ (B 88 _ rfl) (B 89 _ rfl) (B 90 _ rfl)) rfl ?_
          refine Vw.iinc (v := nI (p + 1)) (lv2 := [(0, _), (1, _), (2, _), (3, _), (4, _), (5, _)]) (de_iinc (B 151 _ rfl) (B 152 _ rfl) (B 153 _ rfl)) 5 rfl (nI_1 p) (by decide) [1, 2, 3, 4, 5, 0] rfl (n := 154) rfl ?_
          refine Vw.goto_ (n := 45) (de_goto_ (B 154 _ rfl) (B 155 _ rfl) (B 156 _ rfl)) rfl ?_
          first
          | (rw [if_pos ⟨z_100, c_126⟩] at hQ
             rw [show alI (some kk) = nI kk from rfl, nI_1]
             exact ih hlt num (some (kk + 1)) (by omega) (fun q hq => by cases hq; omega) hQ)
          | (rw [if_neg (fun q => c_126 q.2)] at hQ
             exact ih hlt num none (by omega) (fun q hq => by cases hq) hQ)
          | (rw [if_neg (fun q => absurd ((nI_leI (a := e - a) (b := kk) (by omega) (by omega)).mp c_100) (by omega))] at hQ
             exact ih hlt num none (by omega) (fun q hq => by cases hq) hQ)
          | (rw [if_neg (fun q => c_77 (by cases q; rfl))] at hQ
             exact ih hlt (num + 1) (some 0) (by omega) (fun q hq => by cases hq; omega) hQ)
        refine Vw.iload_n (de_iload_3 (B 80 _ rfl)) 3 rfl (n := 81) rfl ?_
        exact Vw.iret (de_ireturn (B 81 _ rfl)) rfl ⟨_, rfl, (by rw [if_pos (by rw [nI_inj (by omega) (by omega) c_77])] at hQ; exact hQ)⟩
    · have hpe : p = (vSlen.getD k 0) := by omega
      rw [List.drop_of_length_le (by omega), lsG] at hQ
      refine Vw.iload (de_iload (B 45 _ rfl) (B 46 _ rfl)) 5 rfl (n := 47) rfl ?_
      refine Vw.aload_n (de_aload_1 (B 47 _ rfl)) 1 rfl (n := 48) rfl ?_
      refine Vw.iti0 (mi' := mJ0_length_8abf5) (de_invokevirtual (B 48 _ rfl) (B 49 _ rfl) (B 50 _ rfl)) ml_X5_178 mt_J0_length_8abf5 hz.1 hz.2.1 (Nat.le_of_ble_eq_true rfl) (n := 51) rfl (c_J0_length_8abf5 hz ?_)
      refine Vw.icmp_gt (tgt := 157) (n := 54) (de_icmp_gt (B 51 _ rfl) (B 52 _ rfl) (B 53 _ rfl)) rfl rfl (fun c_51 => ?_) (fun c_51 => ?_)
      · exact absurd ((nI_leI (a := p) (b := (vSlen.getD k 0)) (by omega) (by omega)).mpr hp) (Int32.not_le.mpr c_51)
      refine Vw.iload (de_iload (B 54 _ rfl) (B 55 _ rfl)) 5 rfl (n := 56) rfl ?_
      refine Vw.aload_n (de_aload_1 (B 56 _ rfl)) 1 rfl (n := 57) rfl ?_
      refine Vw.iti0 (mi' := mJ0_length_8abf5) (de_invokevirtual (B 57 _ rfl) (B 58 _ rfl) (B 59 _ rfl)) ml_X5_178 mt_J0_length_8abf5 hz.1 hz.2.1 (Nat.le_of_ble_eq_true rfl) (n := 60) rfl (c_J0_length_8abf5 hz ?_)
      refine Vw.icmp_eq (tgt := 74) (n := 63) (de_icmp_eq (B 60 _ rfl) (B 61 _ rfl) (B 62 _ rfl)) rfl rfl (fun c_60 => ?_) (fun c_60 => ?_)
      · refine Vw.iload (de_iload (B 74 _ rfl) (B 75 _ rfl)) 4 rfl (n := 76) rfl ?_
        refine Vw.iload_n (de_iload_2 (B 76 _ rfl)) 2 rfl (n := 77) rfl ?_
        refine Vw.icmp_ne (tgt := 82) (n := 80) (de_icmp_ne (B 77 _ rfl) (B 78 _ rfl) (B 79 _ rfl)) rfl rfl (fun c_77 => ?_) (fun c_77 => ?_)
        · refine Vw.iinc (v := nI (num + 1)) (lv2 := [(0, _), (1, _), (2, _), (3, _), (4, _), (5, _)]) (de_iinc (B 82 _ rfl) (B 83 _ rfl) (B 84 _ rfl)) 3 rfl (nI_1 num) (by decide) [1, 2, 3, 0, 4, 5] rfl (n := 85) rfl ?_
          refine Vw.iconst (v := 0) (de_iconst_0 (B 85 _ rfl)) rfl (n := 86) rfl ?_
          refine Vw.istore (lv2 := [(0, _), (1, _), (2, _), (3, _), (4, _), (5, _)]) (de_istore (B 86 _ rfl) (B 87 _ rfl)) (by decide) [1, 2, 3, 4, 0, 5] rfl (n := 88) rfl ?_
          refine Vw.goto_ (n := 151) (de_goto_ (B 88 _ rfl) (B 89 _ rfl) (B 90 _ rfl)) rfl ?_
          refine Vw.iinc (v := nI ((vSlen.getD k 0) + 1)) (lv2 := [(0, _), (1, _), (2, _), (3, _), (4, _), (5, _)]) (de_iinc (B 151 _ rfl) (B 152 _ rfl) (B 153 _ rfl)) 5 rfl (by rw [hpe]; exact nI_1 _) (by decide) [1, 2, 3, 4, 5, 0] rfl (n := 154) rfl ?_
          refine Vw.goto_ (n := 45) (de_goto_ (B 154 _ rfl) (B 155 _ rfl) (B 156 _ rfl)) rfl ?_
          rw [if_neg (fun q => c_77 (by rw [q]; rfl))] at hQ
          exact fin _ _ hQ
        refine Vw.iload_n (de_iload_3 (B 80 _ rfl)) 3 rfl (n := 81) rfl ?_
        exact Vw.iret (de_ireturn (B 81 _ rfl)) rfl ⟨_, rfl, (by
    have e2 : al = some (e - a) := by
      rcases al with _ | kk
      · exact absurd c_77.symm (nI_m1 (by omega))
      · rw [nI_inj (by have := hal kk rfl; omega) (by omega) c_77]
    rw [if_pos e2] at hQ; exact hQ)⟩
      exact absurd (by rw [hpe]) c_60
  refine Vw.aload_n (de_aload_0 (B 0 _ rfl)) 0 rfl (n := 1) rfl ?_
  refine Vw.getR (de_getfield (B 1 _ rfl) (B 2 _ rfl) (B 3 _ rfl)) fl_X5_20 rfl hR.k hR.f1 (n := 4) rfl ?_
  refine Vw.aload_n (de_aload_0 (B 4 _ rfl)) 0 rfl (n := 5) rfl ?_
  refine Vw.getI (de_getfield (B 5 _ rfl) (B 6 _ rfl) (B 7 _ rfl)) fl_X5_48 rfl hR.k (n := 8) rfl ?_
  rw [hat]
  refine Vw.iald (de_iaload (B 8 _ rfl)) hR.r1 (vIx_n (k := i) rfl (by omega)) (n := 9) rfl ?_
  refine Vw.sipush (v := 256) (de_sipush (B 9 _ rfl) (B 10 _ rfl) (B 11 _ rfl)) rfl (n := 12) rfl ?_
  refine Vw.icmp_eq (tgt := 17) (n := 15) (de_icmp_eq (B 12 _ rfl) (B 13 _ rfl) (B 14 _ rfl)) rfl rfl (fun c_12 => ?_) (fun c_12 => ?_)
  · obtain ⟨a, e, hae, he, es, ee, hQ⟩ := h c_12
    refine Vw.aload_n (de_aload_0 (B 17 _ rfl)) 0 rfl (n := 18) rfl ?_
    refine Vw.getR (de_getfield (B 18 _ rfl) (B 19 _ rfl) (B 20 _ rfl)) fl_X5_27 rfl hR.k hR.f3 (n := 21) rfl ?_
    refine Vw.aload_n (de_aload_0 (B 21 _ rfl)) 0 rfl (n := 22) rfl ?_
    refine Vw.getI (de_getfield (B 22 _ rfl) (B 23 _ rfl) (B 24 _ rfl)) fl_X5_48 rfl hR.k (n := 25) rfl ?_
    rw [hat]
    refine Vw.iald (de_iaload (B 25 _ rfl)) hR.r3 (vIx_n (k := i) rfl (by omega)) (n := 26) rfl ?_
    rw [show I (s + 74 + 11) i = nI e from ee]
    refine Vw.aload_n (de_aload_0 (B 26 _ rfl)) 0 rfl (n := 27) rfl ?_
    refine Vw.getR (de_getfield (B 27 _ rfl) (B 28 _ rfl) (B 29 _ rfl)) fl_X5_24 rfl hR.k hR.f2 (n := 30) rfl ?_
    refine Vw.aload_n (de_aload_0 (B 30 _ rfl)) 0 rfl (n := 31) rfl ?_
    refine Vw.getI (de_getfield (B 31 _ rfl) (B 32 _ rfl) (B 33 _ rfl)) fl_X5_48 rfl hR.k (n := 34) rfl ?_
    rw [hat]
    refine Vw.iald (de_iaload (B 34 _ rfl)) hR.r2 (vIx_n (k := i) rfl (by omega)) (n := 35) rfl ?_
    rw [show I (s + 74 + 10) i = nI a from es]
    refine Vw.isub (de_isub (B 35 _ rfl)) (n := 36) rfl ?_
    rw [nI_sub (by omega) (by omega)]
    refine Vw.istore_n (lv2 := [(0, _), (1, _), (2, _)]) (de_istore_2 (B 36 _ rfl)) rfl (by decide) [1, 2, 0] rfl (n := 37) rfl ?_
    refine Vw.iconst (v := 0) (de_iconst_0 (B 37 _ rfl)) rfl (n := 38) rfl ?_
    refine Vw.istore_n (lv2 := [(0, _), (1, _), (2, _), (3, _)]) (de_istore_3 (B 38 _ rfl)) rfl (by decide) [1, 2, 3, 0] rfl (n := 39) rfl ?_
    refine Vw.iconst (v := 0) (de_iconst_0 (B 39 _ rfl)) rfl (n := 40) rfl ?_
    refine Vw.istore (lv2 := [(0, _), (1, _), (2, _), (3, _), (4, _)]) (de_istore (B 40 _ rfl) (B 41 _ rfl)) (by decide) [1, 2, 3, 4, 0] rfl (n := 42) rfl ?_
    refine Vw.iconst (v := 0) (de_iconst_0 (B 42 _ rfl)) rfl (n := 43) rfl ?_
    refine Vw.istore (lv2 := [(0, _), (1, _), (2, _), (3, _), (4, _), (5, _)]) (de_istore (B 43 _ rfl) (B 44 _ rfl)) (by decide) [1, 2, 3, 4, 5, 0] rfl (n := 45) rfl ?_
    exact loop a e hae he es ee 0 (Nat.zero_le _) 0 (some 0) (Nat.le_refl _) (fun q hq => by cases hq; exact Nat.zero_le _) (by rw [List.drop_zero]; exact hQ)
  refine Vw.iconst (v := -1) (de_iconst_m1 (B 15 _ rfl)) rfl (n := 16) rfl ?_
  exact Vw.iret (de_ireturn (B 16 _ rfl)) rfl ⟨_, rfl, (h0 c_12)⟩
