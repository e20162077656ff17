/-! feed, row -/
/-- a byte without its sign -/
def uby (v : Int32) (m : Nat) : Int32 := (v.toUInt32 >>> ((24 - 8 * nI m).toUInt32 &&& Int32.toUInt32 31)).toInt32 &&& 255
theorem bt_at (v : Int32) (m : Nat) : bt (byteAt v m) := by
  unfold bt byteAt
  rw [Int8.toInt_toInt32]
  have h1 := Int8.le_toInt ((v >>> ((24 - 8 * nI m) &&& 31)).toInt8)
  have h2 := Int8.toInt_lt ((v >>> ((24 - 8 * nI m) &&& 31)).toInt8)
  exact ⟨by omega, by omega⟩
theorem bvb (x : BitVec 32) (n : Nat) (hn : n ≤ 24) : ((x.sshiftRight n).signExtend 8).signExtend 32 &&& 255#32 = (x >>> n) &&& 255#32 := by
  apply BitVec.eq_of_getLsbD_eq
  intro i hi
  rw [BitVec.getLsbD_and, BitVec.getLsbD_and]
  by_cases h : i < 8
  · rw [BitVec.getLsbD_signExtend, BitVec.getLsbD_signExtend, BitVec.getLsbD_sshiftRight, BitVec.getLsbD_ushiftRight]
    simp only [show i < 32 from by omega, show ¬ 32 ≤ i from by omega, show n + i < 32 from by omega, h, decide_true, decide_false, if_true, Bool.true_and, Bool.not_false]
  · have e : (255#32).getLsbD i = false := by
      have : ∀ i : Fin 32, 8 ≤ i.1 → (255#32).getLsbD i.1 = false := by decide
      exact this ⟨i, hi⟩ (show 8 ≤ i by omega)
    rw [e, Bool.and_false, Bool.and_false]
theorem uby_eq {v : Int32} {m : Nat} (hm : m < 4) : byteAt v m &&& 255 = uby v m := by
  unfold byteAt uby
  apply Int32.toBitVec_inj.mp
  rcases (show m = 0 ∨ m = 1 ∨ m = 2 ∨ m = 3 by omega) with rfl | rfl | rfl | rfl
  · exact bvb v.toBitVec 24 (by decide)
  · exact bvb v.toBitVec 16 (by decide)
  · exact bvb v.toBitVec 8 (by decide)
  · exact bvb v.toBitVec 0 (by decide)
theorem lt400 {n : Nat} (h : n < 400) : ¬ nI n ≥ 400 := fun z => by
  have := i32_le.mp z
  rw [nI_ti (by omega)] at this
  exact absurd this (by show ¬ (400 : Int) ≤ _; omega)
theorem putFour_1 {d x n : Nat} {S : vS} {I : vI} {L : vL} {Q : vS → vI → vL → Prop} {v c : Int32} (hC : ClsS S x) (hn : I x 12 = nI n) (h4 : n < 400) (hc : ¬ c < 0) (k : Vw mX11_putFour d 0 0 0 0 (VvQ Q) 3 [(0, .ref x), (1, .int v), (2, .int (c + -8))] [] S (up2 (up2 I (x + 856) n ((v.toUInt32 >>> (c.toUInt32 &&& Int32.toUInt32 31)).toInt32 &&& 255)) x 12 (nI (n + 1))) L) : Vw mX11_putFour d 0 0 0 0 (VvQ Q) 3 [(0, .ref x), (1, .int v), (2, .int c)] [] S I L := by
  have B := bs_X11_putFour
  have rest : Vw mX11_putFour d 0 0 0 0 (VvQ Q) 43 [(0, .ref x), (1, .int v), (2, .int c)] [] S (up2 (up2 I (x + 856) n ((v.toUInt32 >>> (c.toUInt32 &&& Int32.toUInt32 31)).toInt32 &&& 255)) x 12 (nI (n + 1))) L := by
    refine Vw.iinc  (lv2 := [(0, _), (1, _), (2, _)]) (de_iinc (B 43 _ rfl) (B 44 _ rfl) (B 45 _ rfl)) 2 rfl rfl (by decide) [1, 2, 0] rfl (n := 46) rfl ?_
    refine Vw.goto_ (n := 3) (de_goto_ (B 46 _ rfl) (B 47 _ rfl) (B 48 _ rfl)) rfl ?_
    exact k
  refine Vw.iload_n (de_iload_2 (B 3 _ rfl)) 2 rfl (n := 4) rfl ?_
  refine Vw.if_lt (tgt := 49) (n := 7) (de_if_lt (B 4 _ rfl) (B 5 _ rfl) (B 6 _ rfl)) rfl rfl (fun c_4 => ?_) (fun c_4 => ?_)
  · exact absurd c_4 hc
  refine Vw.aload_n (de_aload_0 (B 7 _ rfl)) 0 rfl (n := 8) rfl ?_
  refine Vw.getI (de_getfield (B 8 _ rfl) (B 9 _ rfl) (B 10 _ rfl)) fl_X11_191 rfl hC.k (n := 11) rfl ?_
  refine Vw.sipush (v := 400) (de_sipush (B 11 _ rfl) (B 12 _ rfl) (B 13 _ rfl)) rfl (n := 14) rfl ?_
  refine Vw.icmp_ge (tgt := 43) (n := 17) (de_icmp_ge (B 14 _ rfl) (B 15 _ rfl) (B 16 _ rfl)) rfl rfl (fun c_14 => ?_) (fun c_14 => ?_)
  · first
    | exact rest
    | exact absurd c_14 (by rw [hn]; exact lt400 h4)
  refine Vw.aload_n (de_aload_0 (B 17 _ rfl)) 0 rfl (n := 18) rfl ?_
  refine Vw.getR (de_getfield (B 18 _ rfl) (B 19 _ rfl) (B 20 _ rfl)) fl_X11_82 rfl hC.k hC.f11 (n := 21) rfl ?_
  refine Vw.aload_n (de_aload_0 (B 21 _ rfl)) 0 rfl (n := 22) rfl ?_
  refine Vw.getI (de_getfield (B 22 _ rfl) (B 23 _ rfl) (B 24 _ rfl)) fl_X11_191 rfl hC.k (n := 25) rfl ?_
  rw [hn]
  refine Vw.iload_n (de_iload_1 (B 25 _ rfl)) 1 rfl (n := 26) rfl ?_
  refine Vw.iload_n (de_iload_2 (B 26 _ rfl)) 2 rfl (n := 27) rfl ?_
  refine Vw.iushr (de_iushr (B 27 _ rfl)) (n := 28) rfl ?_
  refine Vw.sipush (v := 255) (de_sipush (B 28 _ rfl) (B 29 _ rfl) (B 30 _ rfl)) rfl (n := 31) rfl ?_
  refine Vw.iand (de_iand (B 31 _ rfl)) (n := 32) rfl ?_
  refine Vw.iast (de_iastore (B 32 _ rfl)) hC.r11 (vIx_n (k := n) rfl (by omega)) (n := 33) rfl ?_
  refine Vw.aload_n (de_aload_0 (B 33 _ rfl)) 0 rfl (n := 34) rfl ?_
  refine Vw.dup (de_dup (B 34 _ rfl)) rfl (n := 35) rfl ?_
  refine Vw.getI (de_getfield (B 35 _ rfl) (B 36 _ rfl) (B 37 _ rfl)) fl_X11_191 rfl hC.k (n := 38) rfl ?_
  rw [up2_a (show x ≠ x + 856 by omega), hn]
  refine Vw.iconst (v := 1) (de_iconst_1 (B 38 _ rfl)) rfl (n := 39) rfl ?_
  refine Vw.iadd (de_iadd (B 39 _ rfl)) (n := 40) rfl ?_
  rw [nI_1]
  refine Vw.putI (de_putfield (B 40 _ rfl) (B 41 _ rfl) (B 42 _ rfl)) fl_X11_191 hC.k rfl rfl (n := 43) rfl ?_
  first
  | exact rest
  | exact absurd c_14 (by rw [hn]; exact lt400 h4)
theorem c_X11_putFour {d : Nat} {S : vS} {I : vI} {L : vL} {Q : vS → vI → vL → Prop} {x n : Nat} {v : Int32} (hC : ClsS S x) (hn : I x 12 = nI n) (h4 : n + 4 ≤ 400) (h : ∀ I2, (∀ b j, b ≠ x + 856 → ¬ (b = x ∧ j = 12) → I2 b j = I b j) → I2 x 12 = nI (n + 4) → (∀ j, I2 (x + 856) j = if n ≤ j ∧ j < n + 4 then uby v (j - n) else I (x + 856) j) → Q S I2 L) : Vc mX11_putFour d 0 0 [.ref x, .int v] S I L (VvQ Q) := by
  refine Vc.of rfl (Nat.le_of_ble_eq_true rfl) ?_
  have B := bs_X11_putFour
  show Vw mX11_putFour d 0 0 0 0 (VvQ Q) 0 [(0, .ref x), (1, .int v)] [] S I L
  refine Vw.bipush (v := 24) (de_bipush (B 0 _ rfl) (B 1 _ rfl)) rfl (n := 2) rfl ?_
  refine Vw.istore_n (lv2 := [(0, _), (1, _), (2, _)]) (de_istore_2 (B 2 _ rfl)) rfl (by decide) [1, 2, 0] rfl (n := 3) rfl ?_
  refine putFour_1 (n := n) hC hn (by omega) (by decide) ?_
  refine putFour_1 (n := n + 1) hC (up2_s _ _ _ _) (by omega) (by decide) ?_
  refine putFour_1 (n := n + 2) hC (up2_s _ _ _ _) (by omega) (by decide) ?_
  refine putFour_1 (n := n + 3) hC (up2_s _ _ _ _) (by omega) (by decide) ?_
  refine Vw.iload_n (de_iload_2 (B 3 _ rfl)) 2 rfl (n := 4) rfl ?_
  refine Vw.if_lt (tgt := 49) (n := 7) (de_if_lt (B 4 _ rfl) (B 5 _ rfl) (B 6 _ rfl)) rfl rfl (fun c_4 => ?_) (fun c_4 => ?_)
  · exact Vw.vret (de_return_ (B 49 _ rfl)) rfl ⟨rfl, (h _ (fun b j q1 q2 => by rw [up2_n q2, up2_row q1, up2_n q2, up2_row q1, up2_n q2, up2_row q1, up2_n q2, up2_row q1]) (up2_s _ _ _ _) (fun j => by
    have ne : x + 856 ≠ x := by omega
    rw [up2_row ne]
    by_cases z3 : j = n + 3
    · rw [z3, up2_s, if_pos (by omega), show n + 3 - n = 3 by omega]; rfl
    rw [up2_k z3, up2_row ne]
    by_cases z2 : j = n + 2
    · rw [z2, up2_s, if_pos (by omega), show n + 2 - n = 2 by omega]; rfl
    rw [up2_k z2, up2_row ne]
    by_cases z1 : j = n + 1
    · rw [z1, up2_s, if_pos (by omega), show n + 1 - n = 1 by omega]; rfl
    rw [up2_k z1, up2_row ne]
    by_cases z0 : j = n
    · rw [z0, up2_s, if_pos (by omega), Nat.sub_self]; rfl
    rw [up2_k z0, if_neg (by omega)]))⟩
  exact absurd c_4 (by decide)
theorem k_feed {d : Nat} {S : vS} {I : vI} {L : vL} {Q : Int32 → vS → vI → vL → Prop} {x lb np nc ns nl : Nat} {K : Nat → Int32} {l : List tH} {a b c dd e : Int32} {n : Nat} (hC : ClsS S x) (hs : STR S I (x + 1) lb K np nc ns nl) (hH : HC I (x + 89) l np) (hlb : x + 942 ≤ lb) (hn : I x 12 = nI n) (h4 : n ≤ 400) (h1 : 380 < n → Q (-1) S I L) (h : n ≤ 380 → ∀ I2, (∀ b j, b ≠ x + 856 → ¬ (b = x ∧ j = 12) → I2 b j = I b j) → I2 x 12 = nI (n + 20) → (∀ j, I2 (x + 856) j = if n ≤ j ∧ j < n + 20 then uby (fiveV a b c dd e ((j - n) / 4)) ((j - n) % 4) else I (x + 856) j) → Q (nI (n + 20)) S I2 L) : Vc mX11_feed (d + 80) 0 0 [.ref x, .int a, .int b, .int c, .int dd, .int e] S I L (ViQ Q) := by
  refine Vc.of rfl (Nat.le_of_ble_eq_true rfl) ?_
  have B := bs_X11_feed
  show Vw mX11_feed (d + 80) 0 0 0 0 (ViQ Q) 0 [(0, .ref x), (1, .int a), (2, .int b), (3, .int c), (4, .int dd), (5, .int e)] [] S I L
  have hT := hC.p0.p0
  have hN := hs.tn
  have h8 := hN.1
  have h10 := hN.2.1
  have hK := hs.tr
  have hold : ∃ old, old < 16 ∧ I (x + 89) 2 = nI old := by obtain ⟨_, _, old, o1, o2, _⟩ := hH; exact ⟨old, o1, o2⟩
  refine Vw.aload_n (de_aload_0 (B 0 _ rfl)) 0 rfl (n := 1) rfl ?_
  refine Vw.getI (de_getfield (B 1 _ rfl) (B 2 _ rfl) (B 3 _ rfl)) fl_X11_191 rfl hC.k (n := 4) rfl ?_
  rw [hn]
  refine Vw.sipush (v := 380) (de_sipush (B 4 _ rfl) (B 5 _ rfl) (B 6 _ rfl)) rfl (n := 7) rfl ?_
  refine Vw.icmp_le (tgt := 12) (n := 10) (de_icmp_le (B 7 _ rfl) (B 8 _ rfl) (B 9 _ rfl)) rfl rfl (fun c_7 => ?_) (fun c_7 => ?_)
  · have n380 : n ≤ 380 := by rcases Nat.lt_or_ge 380 n with z | z; exact absurd (i32_le.mp c_7) (by rw [nI_ti (by omega)]; show ¬ _ ≤ (380 : Int); omega); exact z
    refine Vw.aload_n (de_aload_0 (B 12 _ rfl)) 0 rfl (n := 13) rfl ?_
    refine Vw.iload_n (de_iload_1 (B 13 _ rfl)) 1 rfl (n := 14) rfl ?_
    refine Vw.ivv1 (mi' := mX11_putFour) (de_invokevirtual (B 14 _ rfl) (B 15 _ rfl) (B 16 _ rfl)) ml_X11_194 mv_X11_putFour hC.k (Nat.le_of_ble_eq_true rfl) (n := 17) rfl (c_X11_putFour (n := n) hC hn (by omega) (fun I1 f1 n1 t1 => ?_))
    refine Vw.aload_n (de_aload_0 (B 17 _ rfl)) 0 rfl (n := 18) rfl ?_
    refine Vw.iload_n (de_iload_2 (B 18 _ rfl)) 2 rfl (n := 19) rfl ?_
    refine Vw.ivv1 (mi' := mX11_putFour) (de_invokevirtual (B 19 _ rfl) (B 20 _ rfl) (B 21 _ rfl)) ml_X11_194 mv_X11_putFour hC.k (Nat.le_of_ble_eq_true rfl) (n := 22) rfl (c_X11_putFour (n := n + 4) hC n1 (by omega) (fun I2 f2 n2 t2 => ?_))
    refine Vw.aload_n (de_aload_0 (B 22 _ rfl)) 0 rfl (n := 23) rfl ?_
    refine Vw.iload_n (de_iload_3 (B 23 _ rfl)) 3 rfl (n := 24) rfl ?_
    refine Vw.ivv1 (mi' := mX11_putFour) (de_invokevirtual (B 24 _ rfl) (B 25 _ rfl) (B 26 _ rfl)) ml_X11_194 mv_X11_putFour hC.k (Nat.le_of_ble_eq_true rfl) (n := 27) rfl (c_X11_putFour (n := n + 4 + 4) hC n2 (by omega) (fun I3 f3 n3 t3 => ?_))
    refine Vw.aload_n (de_aload_0 (B 27 _ rfl)) 0 rfl (n := 28) rfl ?_
    refine Vw.iload (de_iload (B 28 _ rfl) (B 29 _ rfl)) 4 rfl (n := 30) rfl ?_
    refine Vw.ivv1 (mi' := mX11_putFour) (de_invokevirtual (B 30 _ rfl) (B 31 _ rfl) (B 32 _ rfl)) ml_X11_194 mv_X11_putFour hC.k (Nat.le_of_ble_eq_true rfl) (n := 33) rfl (c_X11_putFour (n := n + 4 + 4 + 4) hC n3 (by omega) (fun I4 f4 n4 t4 => ?_))
    refine Vw.aload_n (de_aload_0 (B 33 _ rfl)) 0 rfl (n := 34) rfl ?_
    refine Vw.iload (de_iload (B 34 _ rfl) (B 35 _ rfl)) 5 rfl (n := 36) rfl ?_
    refine Vw.ivv1 (mi' := mX11_putFour) (de_invokevirtual (B 36 _ rfl) (B 37 _ rfl) (B 38 _ rfl)) ml_X11_194 mv_X11_putFour hC.k (Nat.le_of_ble_eq_true rfl) (n := 39) rfl (c_X11_putFour (n := n + 4 + 4 + 4 + 4) hC n4 (by omega) (fun I5 f5 n5 t5 => ?_))
    refine Vw.aload_n (de_aload_0 (B 39 _ rfl)) 0 rfl (n := 40) rfl ?_
    refine Vw.getI (de_getfield (B 40 _ rfl) (B 41 _ rfl) (B 42 _ rfl)) fl_X11_191 rfl hC.k (n := 43) rfl ?_
    rw [n5]
    exact Vw.iret (de_ireturn (B 43 _ rfl)) rfl ⟨_, rfl, (h n380 I5 (fun b j q1 q2 => by rw [f5 b j q1 q2, f4 b j q1 q2, f3 b j q1 q2, f2 b j q1 q2, f1 b j q1 q2]) n5 (fun j => by
    rw [t5, t4, t3, t2, t1]
    by_cases z5 : n + 4 + 4 + 4 + 4 ≤ j ∧ j < n + 4 + 4 + 4 + 4 + 4
    · rw [if_pos z5, if_pos (by omega), show (j - n) / 4 = 4 by omega, show (j - n) % 4 = j - (n + 4 + 4 + 4 + 4) by omega]; rfl
    rw [if_neg z5]
    by_cases z4 : n + 4 + 4 + 4 ≤ j ∧ j < n + 4 + 4 + 4 + 4
    · rw [if_pos z4, if_pos (by omega), show (j - n) / 4 = 3 by omega, show (j - n) % 4 = j - (n + 4 + 4 + 4) by omega]; rfl
    rw [if_neg z4]
    by_cases z3 : n + 4 + 4 ≤ j ∧ j < n + 4 + 4 + 4
    · rw [if_pos z3, if_pos (by omega), show (j - n) / 4 = 2 by omega, show (j - n) % 4 = j - (n + 4 + 4) by omega]; rfl
    rw [if_neg z3]
    by_cases z2 : n + 4 ≤ j ∧ j < n + 4 + 4
    · rw [if_pos z2, if_pos (by omega), show (j - n) / 4 = 1 by omega, show (j - n) % 4 = j - (n + 4) by omega]; rfl
    rw [if_neg z2]
    by_cases z1 : n ≤ j ∧ j < n + 4
    · rw [if_pos z1, if_pos (by omega), show (j - n) / 4 = 0 by omega, show (j - n) % 4 = j - n by omega]; rfl
    rw [if_neg z1, if_neg (by omega)]))⟩
  refine Vw.iconst (v := -1) (de_iconst_m1 (B 10 _ rfl)) rfl (n := 11) rfl ?_
  exact Vw.iret (de_ireturn (B 11 _ rfl)) rfl ⟨_, rfl, (h1 (by rcases Nat.lt_or_ge 380 n with z | z; exact z; exact absurd (i32_le.mpr (by rw [nI_ti (by omega)]; show _ ≤ (380 : Int); omega)) c_7))⟩
