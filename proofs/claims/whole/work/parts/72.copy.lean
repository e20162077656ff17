/-! System.arraycopy over rows of ints, of longs -/
theorem ac_nat : Cond.native arraycopyName ∈ vTs := vt_4 188 rfl rfl
theorem ac_sta : Cond.static arraycopyName ∈ vTs := vt_4 187 rfl rfl
theorem ac_ini : Cond.initialized "java/lang/System" ∈ vTs := vt_1 19 rfl rfl
theorem Hx.rowI {G : vG} {S : vS} {I I2 : vI} {L : vL} {H H2 : Heap} {a : Nat} (h : Hx G S I L H) (ha : gB G ≤ a) (hm : ∀ b, b ≠ a → I2 b = I b) (hz : H2.size = H.size) (ho : ∀ q, q ≠ a → H2[q]? = H[q]?) (hc : vCel G S I2 L a H2) : Hx G S I2 L H2 := by
  refine ⟨by rw [hz]; exact h.1, h.2.1, fun b hb => ?_, fun q hq => by rw [ho q (by omega)]; exact h.2.2.2.1 q hq, fun b => ?_⟩
  rotate_left
  · have o := h.2.2.2.2 b
    refine ⟨o.1, o.2.1, fun hi => ?_⟩
    obtain ⟨o1, o2, o3, o4⟩ := o.2.2 hi
    exact ⟨o1, o2, o3, fun k => by
      have e2 : vMem S I2 L b k = vMem S I L b k := by unfold vMem; rw [hm b (by omega)]
      rw [e2]; exact o4 k⟩
  obtain ⟨g1, g2, g3⟩ := h.2.2.1 b hb
  refine ⟨g1, g2, ?_⟩
  by_cases e : b = a
  · subst e; exact hc
  · have e2 : vMem S I2 L b = vMem S I L b := funext fun j => by unfold vMem; rw [hm b e]
    unfold vCel at g3 ⊢
    rw [e2]
    split
    · rename_i hk; rw [if_pos hk] at g3; unfold t_OB at g3 ⊢; rw [ho b e]; exact g3
    · rename_i hk; rw [if_neg hk] at g3; rw [ho b e]; exact g3
theorem Hx.rowL {G : vG} {S : vS} {I : vI} {L L2 : vL} {H H2 : Heap} {a : Nat} (h : Hx G S I L H) (ha : gB G ≤ a) (hm : ∀ b, b ≠ a → L2 b = L b) (hz : H2.size = H.size) (ho : ∀ q, q ≠ a → H2[q]? = H[q]?) (hc : vCel G S I L2 a H2) : Hx G S I L2 H2 := by
  refine ⟨by rw [hz]; exact h.1, h.2.1, fun b hb => ?_, fun q hq => by rw [ho q (by omega)]; exact h.2.2.2.1 q hq, fun b => ?_⟩
  rotate_left
  · have o := h.2.2.2.2 b
    refine ⟨o.1, o.2.1, fun hi => ?_⟩
    obtain ⟨o1, o2, o3, o4⟩ := o.2.2 hi
    exact ⟨o1, o2, o3, fun k => by
      have e2 : vMem S I L2 b k = vMem S I L b k := by unfold vMem; rw [hm b (by omega)]
      rw [e2]; exact o4 k⟩
  obtain ⟨g1, g2, g3⟩ := h.2.2.1 b hb
  refine ⟨g1, g2, ?_⟩
  by_cases e : b = a
  · subst e; exact hc
  · have e2 : vMem S I L2 b = vMem S I L b := funext fun j => by unfold vMem; rw [hm b e]
    unfold vCel at g3 ⊢
    rw [e2]
    split
    · rename_i hk; rw [if_pos hk] at g3; unfold t_OB at g3 ⊢; rw [ho b e]; exact g3
    · rename_i hk; rw [if_neg hk] at g3; rw [ho b e]; exact g3
def cpL (L : vL) (a b sp dp n : Nat) : vL := fun x j => if x = b ∧ dp ≤ j ∧ j < dp + n then L a (sp + (j - dp)) else L x j
theorem nn_nI {k : Nat} (h : k < 2147483648) : ¬ nI k < 0 := by
  rw [i32_lt, nI_ti h]; show ¬ (k : Int) < 0; omega

theorem Vw.copyI {mi : vM} {d mc ms cr sr : Nat} {Q : Option Value → vS → vI → vL → Prop} {pc n : Nat} {lv : List (Nat × Value)} {S : vS} {I : vI} {L : vL} {idx a0 a n0 n1 sj dj nj : Nat} {sp dp nn : Int32} (hd : decode mi.2.1 pc = .ok (.invokestatic idx, 3)) (hlk : Cond.methodLink mi.1.cls idx arraycopyName ∈ vTs) (hs0 : S.1 a0 = (100, n0)) (hs1 : S.1 a = (100, n1)) (e1 : sp = nI sj) (e2 : dp = nI dj) (e3 : nn = nI nj) (h4 : sj + nj ≤ n0) (h5 : dj + nj ≤ n1) (hb0 : n0 < 2147483648) (hb1 : n1 < 2147483648) (hn : pc + 3 = n)
    (kk : Vw mi (d + 1) mc ms cr sr Q n lv [] S (cpR I a0 a sj dj nj) L) : Vw mi (d + 1) mc ms cr sr Q pc lv [.int nn, .int dp, .ref a, .int sp, .ref a0] S I L := by
  subst hn
  intro l G p e R s m args below meth cd H locs cells slots ls hC hH hS h1 h2 hl
  have hba : gB G ≤ a := (hH.2.2.1 a (by rw [hs1]; show 100 < 200; decide)).1
  have f0 : vMem S I L a0 = fun j => .int (I a0 j) := funext fun j => vMem_i (c := 100) (by rw [hs0]) rfl
  have f1 : vMem S I L a = fun j => .int (I a j) := funext fun j => vMem_i (c := 100) (by rw [hs1]) rfl
  have hc0 := hH.arr hs0 (by decide) (by decide)
  have hc1 := hH.arr hs1 (by decide) (by decide)
  rw [f0] at hc0
  rw [f1] at hc1
  have hts := hC.2.2.2.2.2.2.1
  have hK := hC.2.2.2.2.2.2.2.2.1.1
  have hR := hC.2.2.2.2.2.2.2.2.2.2.2
  obtain ⟨-, k0, hk0, cm0, hkk0⟩ := (hK.2 0 _ rfl).1 n0 (fun j => .int (I a0 j))
  obtain ⟨-, k1, hk1, cm1, hkk1⟩ := (hK.2 0 _ rfl).1 n1 (fun j => .int (I a j))
  have q1 : sp.toNatClampNeg = sj := by rw [e1, nI_cl (by omega)]
  have q2 : dp.toNatClampNeg = dj := by rw [e2, nI_cl (by omega)]
  have q3 : nn.toNatClampNeg = nj := by rw [e3, nI_cl (by omega)]
  have t1 : sp.toInt = (sj : Int) := by rw [e1, nI_ti (by omega)]
  have t2 : dp.toInt = (dj : Int) := by rw [e2, nI_ti (by omega)]
  have t3 : nn.toInt = (nj : Int) := by rw [e3, nI_ti (by omega)]
  intro T hT X
  obtain ⟨vm', X', step⟩ := X.arraycopy hC.1 hC.2.2.2.2.2.1 (hts _ hlk) (hts _ ac_nat) (hts _ ac_sta) (hts _ ac_ini) (src := a0) (dst := a) (cs := arrV (gA G 100) n0 (fun j => .int (I a0 j))) (cd := arrV (gA G 100) n1 (fun j => .int (I a j))) (srcPos := sp) (destPos := dp) (n := nn) (by rw [hT]; exact hc0) (by rw [hT]; exact hc1)
    (fun _ h => by cases h) (fun _ h => by cases h) (fun h => by cases h) (fun h => by cases h) hk0 hk1 hkk0 hkk1 rfl (by rw [e1]; exact nn_nI (by omega)) (by rw [e2]; exact nn_nI (by omega)) (by rw [e3]; exact nn_nI (by omega))
    (by rw [t1, t3, arrV_size]; omega) (by rw [t2, t3, arrV_size]; omega)
    (fun vm₁ _ i hi => by
      rw [q1]
      have ee : (arrV (gA G 100) n0 (fun j => .int (I a0 j))).slots.getD (sj + i) .null = .int (I a0 (sj + i)) := by
        rw [Array.getD_eq_getD_getElem?, arrV_read _ _ (by omega)]
        rfl
      rw [ee]
      exact ⟨rfl, trivial⟩)
    (g := F0 m pc ls [.int nn, .int dp, .ref a, .int sp, .ref a0]) rfl (by rw [hC.2.2.1]; exact hl.1) (rest := []) rfl (by rw [hC.2.1]; exact hd) (by omega) (by
      have z : nativeFrameWords "java/lang/System" "arraycopy" 5 + 11 ≤ 48 := by decide
      show 2 * 0 + 0 + _ ≤ _
      omega)
  have ec : copied (arrV (gA G 100) n0 (fun j => .int (I a0 j))) (arrV (gA G 100) n1 (fun j => .int (I a j))) sp dp nn = arrV (gA G 100) n1 (fun j => .int (va_cpy (I a0) (I a) sj dj nj j)) := by
    unfold copied
    rw [q1, q2, q3]
    exact va_copied (fun z => .int z) _ _ (I a0) (I a) h4
  rw [ec] at X' step
  have hl1 : a < H.size := (Array.getElem?_eq_some_iff.mp hc1).1
  have hheap : ((T.setVm vm').setCell a (arrV (gA G 100) n1 (fun j => .int (va_cpy (I a0) (I a) sj dj nj j)))).heap = H.setIfInBounds a (arrV (gA G 100) n1 (fun j => .int (va_cpy (I a0) (I a) sj dj nj j))) := by rw [← hT]; rfl
  have oq : ∀ q : Nat, q ≠ a → (H.setIfInBounds a (arrV (gA G 100) n1 (fun j => .int (va_cpy (I a0) (I a) sj dj nj j))))[q]? = H[q]? := fun q hq => by simp [Array.getElem?_setIfInBounds, Ne.symm hq]
  have sq : (H.setIfInBounds a (arrV (gA G 100) n1 (fun j => .int (va_cpy (I a0) (I a) sj dj nj j)))).size = H.size := by simp
  have hHx := Hx.rowI (I2 := cpR I a0 a sj dj nj) hH hba (fun b hb => funext fun j => if_neg (fun z => hb z.1)) sq oq (by
    unfold vCel
    rw [hs1, if_neg (by show ¬ 100 < 13; decide)]
    have e9 : vMem S (cpR I a0 a sj dj nj) L a = fun j => .int (va_cpy (I a0) (I a) sj dj nj j) := by
      funext j
      rw [vMem_i (c := 100) (by rw [hs1]) rfl]
      unfold va_cpy cpR
      by_cases z : dj ≤ j ∧ j < dj + nj
      · rw [if_pos ⟨rfl, z⟩, if_pos z]
      · rw [if_neg (fun y => z y.2), if_neg z]
    rw [e9]
    simp [Array.getElem?_setIfInBounds, hl1])
  obtain ⟨t, a1, b1⟩ := kk l G p e R s m args below meth cd _ _ cells slots ls hC hHx ⟨by rw [sq]; exact hS.1, fun q g1 g2 => by
      rw [oq q (fun z => g2 (by rw [z]; exact hba))]
      exact hS.2.1 q g1 g2, fun q hq => by
      rcases List.mem_append.mp hq with z | z
      · exact hS.2.2 q z
      · obtain ⟨y, -, hy⟩ := List.mem_map.mp z
        rw [← hy]
        exact hba⟩ h1 h2 hl _ hheap X'
  exact ⟨t, step t a1, b1⟩
theorem Vw.copyL {mi : vM} {d mc ms cr sr : Nat} {Q : Option Value → vS → vI → vL → Prop} {pc n : Nat} {lv : List (Nat × Value)} {S : vS} {I : vI} {L : vL} {idx a0 a n0 n1 sj dj nj : Nat} {sp dp nn : Int32} (hd : decode mi.2.1 pc = .ok (.invokestatic idx, 3)) (hlk : Cond.methodLink mi.1.cls idx arraycopyName ∈ vTs) (hs0 : S.1 a0 = (103, n0)) (hs1 : S.1 a = (103, n1)) (e1 : sp = nI sj) (e2 : dp = nI dj) (e3 : nn = nI nj) (h4 : sj + nj ≤ n0) (h5 : dj + nj ≤ n1) (hb0 : n0 < 2147483648) (hb1 : n1 < 2147483648) (hn : pc + 3 = n)
    (kk : Vw mi (d + 1) mc ms cr sr Q n lv [] S I (cpL L a0 a sj dj nj)) : Vw mi (d + 1) mc ms cr sr Q pc lv [.int nn, .int dp, .ref a, .int sp, .ref a0] S I L := by
  subst hn
  intro l G p e R s m args below meth cd H locs cells slots ls hC hH hS h1 h2 hl
  have hba : gB G ≤ a := (hH.2.2.1 a (by rw [hs1]; show 103 < 200; decide)).1
  have f0 : vMem S I L a0 = fun j => .long (L a0 j) := funext fun j => vMem_l (c := 103) (by rw [hs0]) rfl
  have f1 : vMem S I L a = fun j => .long (L a j) := funext fun j => vMem_l (c := 103) (by rw [hs1]) rfl
  have hc0 := hH.arr hs0 (by decide) (by decide)
  have hc1 := hH.arr hs1 (by decide) (by decide)
  rw [f0] at hc0
  rw [f1] at hc1
  have hts := hC.2.2.2.2.2.2.1
  have hK := hC.2.2.2.2.2.2.2.2.1.1
  have hR := hC.2.2.2.2.2.2.2.2.2.2.2
  obtain ⟨-, k0, hk0, cm0, hkk0⟩ := (hK.2 3 _ rfl).1 n0 (fun j => .long (L a0 j))
  obtain ⟨-, k1, hk1, cm1, hkk1⟩ := (hK.2 3 _ rfl).1 n1 (fun j => .long (L a j))
  have q1 : sp.toNatClampNeg = sj := by rw [e1, nI_cl (by omega)]
  have q2 : dp.toNatClampNeg = dj := by rw [e2, nI_cl (by omega)]
  have q3 : nn.toNatClampNeg = nj := by rw [e3, nI_cl (by omega)]
  have t1 : sp.toInt = (sj : Int) := by rw [e1, nI_ti (by omega)]
  have t2 : dp.toInt = (dj : Int) := by rw [e2, nI_ti (by omega)]
  have t3 : nn.toInt = (nj : Int) := by rw [e3, nI_ti (by omega)]
  intro T hT X
  obtain ⟨vm', X', step⟩ := X.arraycopy hC.1 hC.2.2.2.2.2.1 (hts _ hlk) (hts _ ac_nat) (hts _ ac_sta) (hts _ ac_ini) (src := a0) (dst := a) (cs := arrV (gA G 103) n0 (fun j => .long (L a0 j))) (cd := arrV (gA G 103) n1 (fun j => .long (L a j))) (srcPos := sp) (destPos := dp) (n := nn) (by rw [hT]; exact hc0) (by rw [hT]; exact hc1)
    (fun _ h => by cases h) (fun _ h => by cases h) (fun h => by cases h) (fun h => by cases h) hk0 hk1 hkk0 hkk1 rfl (by rw [e1]; exact nn_nI (by omega)) (by rw [e2]; exact nn_nI (by omega)) (by rw [e3]; exact nn_nI (by omega))
    (by rw [t1, t3, arrV_size]; omega) (by rw [t2, t3, arrV_size]; omega)
    (fun vm₁ _ i hi => by
      rw [q1]
      have ee : (arrV (gA G 103) n0 (fun j => .long (L a0 j))).slots.getD (sj + i) .null = .long (L a0 (sj + i)) := by
        rw [Array.getD_eq_getD_getElem?, arrV_read _ _ (by omega)]
        rfl
      rw [ee]
      exact ⟨rfl, trivial⟩)
    (g := F0 m pc ls [.int nn, .int dp, .ref a, .int sp, .ref a0]) rfl (by rw [hC.2.2.1]; exact hl.1) (rest := []) rfl (by rw [hC.2.1]; exact hd) (by omega) (by
      have z : nativeFrameWords "java/lang/System" "arraycopy" 5 + 11 ≤ 48 := by decide
      show 2 * 0 + 0 + _ ≤ _
      omega)
  have ec : copied (arrV (gA G 103) n0 (fun j => .long (L a0 j))) (arrV (gA G 103) n1 (fun j => .long (L a j))) sp dp nn = arrV (gA G 103) n1 (fun j => .long (va_cpy (L a0) (L a) sj dj nj j)) := by
    unfold copied
    rw [q1, q2, q3]
    exact va_copied (fun z => .long z) _ _ (L a0) (L a) h4
  rw [ec] at X' step
  have hl1 : a < H.size := (Array.getElem?_eq_some_iff.mp hc1).1
  have hheap : ((T.setVm vm').setCell a (arrV (gA G 103) n1 (fun j => .long (va_cpy (L a0) (L a) sj dj nj j)))).heap = H.setIfInBounds a (arrV (gA G 103) n1 (fun j => .long (va_cpy (L a0) (L a) sj dj nj j))) := by rw [← hT]; rfl
  have oq : ∀ q : Nat, q ≠ a → (H.setIfInBounds a (arrV (gA G 103) n1 (fun j => .long (va_cpy (L a0) (L a) sj dj nj j))))[q]? = H[q]? := fun q hq => by simp [Array.getElem?_setIfInBounds, Ne.symm hq]
  have sq : (H.setIfInBounds a (arrV (gA G 103) n1 (fun j => .long (va_cpy (L a0) (L a) sj dj nj j)))).size = H.size := by simp
  have hHx := Hx.rowL (L2 := cpL L a0 a sj dj nj) hH hba (fun b hb => funext fun j => if_neg (fun z => hb z.1)) sq oq (by
    unfold vCel
    rw [hs1, if_neg (by show ¬ 103 < 13; decide)]
    have e9 : vMem S I (cpL L a0 a sj dj nj) a = fun j => .long (va_cpy (L a0) (L a) sj dj nj j) := by
      funext j
      rw [vMem_l (c := 103) (by rw [hs1]) rfl]
      unfold va_cpy cpL
      by_cases z : dj ≤ j ∧ j < dj + nj
      · rw [if_pos ⟨rfl, z⟩, if_pos z]
      · rw [if_neg (fun y => z y.2), if_neg z]
    rw [e9]
    simp [Array.getElem?_setIfInBounds, hl1])
  obtain ⟨t, a1, b1⟩ := kk l G p e R s m args below meth cd _ _ cells slots ls hC hHx ⟨by rw [sq]; exact hS.1, fun q g1 g2 => by
      rw [oq q (fun z => g2 (by rw [z]; exact hba))]
      exact hS.2.1 q g1 g2, fun q hq => by
      rcases List.mem_append.mp hq with z | z
      · exact hS.2.2 q z
      · obtain ⟨y, -, hy⟩ := List.mem_map.mp z
        rw [← hy]
        exact hba⟩ h1 h2 hl _ hheap X'
  exact ⟨t, step t a1, b1⟩
