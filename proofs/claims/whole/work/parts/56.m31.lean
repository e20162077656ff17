/-! row() -/
def addK (K : Nat → Int32) (n : Nat) (a s w : Int32) : Nat → Int32 := upK (upK (upK (upK (upK K (4 * n) a) (4 * n + 1) s) (4 * n + 2) w) (4 * n + 3) 0) 142 (nI (n + 1))
theorem mAdds_K {I : vI} {r n : Nat} {a s w : Int32} (h : I (r + 2) 142 = nI n) : mAdds I r n a s w (r + 2) = addK (I (r + 2)) n a s w := by
  unfold mAdds addK; rw [up2_rs, up2_rs, up2_rs, up2_rs, up2_rs, h, nI_A, nI_l1]
theorem mAdds_o {I : vI} {r n x j : Nat} {a s w : Int32} (h : x ≠ r + 2) : mAdds I r n a s w x j = I x j := by
  unfold mAdds; rw [up2_a h, up2_a h, up2_a h, up2_a h, up2_a h]
def rowCan (T : Nat → Int32) (i : Nat) : Int32 := zCan (T (3 * i) &&& 255) (T (3 * i + 1) &&& 255) (T (3 * i + 2) &&& 255)
def rowP (T K : Nat → Int32) (np : Nat) : Nat → (Nat → Int32) × Nat
  | 0 => (K, np)
  | i + 1 => if ¬ rowCan T i = 0 ∧ (rowP T K np i).2 < 8 then (addK (rowP T K np i).1 (rowP T K np i).2 (T (3 * i) &&& 255) (T (3 * i + 1) &&& 255) (T (3 * i + 2) &&& 255), (rowP T K np i).2 + 1) else rowP T K np i
theorem rowP_y {T K : Nat → Int32} {np i : Nat} (h1 : ¬ rowCan T i = 0) (h2 : (rowP T K np i).2 < 8) : rowP T K np (i + 1) = (addK (rowP T K np i).1 (rowP T K np i).2 (T (3 * i) &&& 255) (T (3 * i + 1) &&& 255) (T (3 * i + 2) &&& 255), (rowP T K np i).2 + 1) := by rw [rowP, if_pos ⟨h1, h2⟩]
theorem rowP_n {T K : Nat → Int32} {np i : Nat} (h : rowCan T i = 0 ∨ 8 ≤ (rowP T K np i).2) : rowP T K np (i + 1) = rowP T K np i := by rw [rowP, if_neg (fun z => h.elim z.1 (by omega))]
theorem rowP_ok {T K : Nat → Int32} {np : Nat} (h0 : K 142 = nI np) (h8 : np ≤ 8) : ∀ i, (rowP T K np i).1 142 = nI (rowP T K np i).2 ∧ np ≤ (rowP T K np i).2 ∧ (rowP T K np i).2 ≤ 8 ∧ (rowP T K np i).2 ≤ np + i := by
  intro i
  induction i with
  | zero => exact ⟨h0, Nat.le_refl _, h8, Nat.le_refl _⟩
  | succ i ih =>
    rw [rowP]
    split
    · rename_i g
      refine ⟨?_, by simp only; omega, by simp only; omega, by simp only; omega⟩
      simp only [addK]; rw [upK_s]
    · exact ⟨ih.1, ih.2.1, ih.2.2.1, by omega⟩
theorem c_X12_row {d : Nat} {S : vS} {I : vI} {L : vL} {Q : Int32 → vS → vI → vL → Prop} {r : Nat} {np sz : Nat} (hM : MS S r) (hn : I (r + 2) 142 = nI np) (hn8 : np ≤ 8) (hs : I r 11 = nI sz) (hs4 : sz ≤ 400) (h1 : sz = 0 → Q (-6) S (mRef (up2 I r 11 0) r (-6) 6) L) (h : ¬ sz = 0 → ∀ I2, (∀ x j, x ≠ r + 2 → ¬ (x = r ∧ (j = 6 ∨ j = 11)) → I2 x j = I x j) → I2 (r + 2) = (rowP (I (r + 7)) (I (r + 2)) np (sz / 3)).1 → I2 r 6 = nI ((if sz % 3 = 0 then 0 else 1) + ((sz / 3) - ((rowP (I (r + 7)) (I (r + 2)) np (sz / 3)).2 - np))) → I2 r 11 = 0 → Q (nI ((rowP (I (r + 7)) (I (r + 2)) np (sz / 3)).2 - np)) S (mSet I2 r) L) : Vc mX12_row (d + 2) 0 0 [.ref r] S I L (ViQ Q) := by
  refine Vc.of rfl (Nat.le_of_ble_eq_true rfl) ?_
  have B := bs_X12_row
  show Vw mX12_row (d + 2) 0 0 0 0 (ViQ Q) 0 [(0, .ref r)] [] S I L
  have loop : ¬ sz = 0 → ∀ i, i ≤ sz / 3 → ∀ J : vI, (∀ x j, x ≠ r + 2 → ¬ (x = r ∧ (j = 6 ∨ j = 11)) → J x j = I x j) → J (r + 2) = (rowP (I (r + 7)) (I (r + 2)) np i).1 → J r 6 = nI ((if sz % 3 = 0 then 0 else 1) + (i - ((rowP (I (r + 7)) (I (r + 2)) np i).2 - np))) → J r 11 = 0 → Vw mX12_row (d + 2) 0 0 0 0 (ViQ Q) 40 [(0, .ref r), (1, .int (nI sz)), (2, .int (nI ((rowP (I (r + 7)) (I (r + 2)) np i).2 - np))), (3, .int (nI (3 * i)))] [] S J L := by
    intro hz
    refine loop_up (fun i hi ih => ?_)
    intro J fJ kJ mJ sJ
    obtain ⟨o1, o2, o3, o4⟩ := rowP_ok (T := I (r + 7)) (K := I (r + 2)) hn hn8 i
    have tJ : J (r + 7) = I (r + 7) := funext fun j => fJ _ j (by omega) (by omega)
    have p142 : J (r + 2) 142 = nI (rowP (I (r + 7)) (I (r + 2)) np i).2 := by rw [kJ]; exact o1
    have k1 : 3 * i + 3 ≤ sz → ¬ rowCan (I (r + 7)) i = 0 → (rowP (I (r + 7)) (I (r + 2)) np i).2 < 8 → Vw mX12_row (d + 2) 0 0 0 0 (ViQ Q) 101 [(0, .ref r), (1, .int (nI sz)), (2, .int (nI ((rowP (I (r + 7)) (I (r + 2)) np i).2 - np))), (3, .int (nI (3 * i)))] [.int 1] S J L := by
      intro z3 zc z8
      have er := rowP_y zc z8
      have hi2 : i < sz / 3 := by omega
      refine Vw.istore (lv2 := [(0, _), (1, _), (2, _), (3, _), (4, _)]) (de_istore (B 101 _ rfl) (B 102 _ rfl)) (by decide) [1, 2, 3, 4, 0] rfl (n := 103) rfl ?_
      refine Vw.iload (de_iload (B 103 _ rfl) (B 104 _ rfl)) 4 rfl (n := 105) rfl ?_
      refine Vw.if_eq (tgt := 146) (n := 108) (de_if_eq (B 105 _ rfl) (B 106 _ rfl) (B 107 _ rfl)) rfl rfl (fun c_105 => ?_) (fun c_105 => ?_)
      · exact absurd c_105 (by decide)
      refine Vw.aload_n (de_aload_0 (B 108 _ rfl)) 0 rfl (n := 109) rfl ?_
      refine Vw.aload_n (de_aload_0 (B 109 _ rfl)) 0 rfl (n := 110) rfl ?_
      refine Vw.getR (de_getfield (B 110 _ rfl) (B 111 _ rfl) (B 112 _ rfl)) fl_X12_41 rfl hM.k (MS_tape hM).1 (n := 113) rfl ?_
      refine Vw.iload_n (de_iload_3 (B 113 _ rfl)) 3 rfl (n := 114) rfl ?_
      refine Vw.bald (de_baload (B 114 _ rfl)) (MS_tape hM).2 (vIx_n (k := 3 * i) (by simp only [nI_A, nI_M, Int32.zero_add, Int32.add_zero] <;> rfl) (by omega)) (n := 115) rfl ?_
      refine Vw.sipush (v := 255) (de_sipush (B 115 _ rfl) (B 116 _ rfl) (B 117 _ rfl)) rfl (n := 118) rfl ?_
      refine Vw.iand (de_iand (B 118 _ rfl)) (n := 119) rfl ?_
      refine Vw.aload_n (de_aload_0 (B 119 _ rfl)) 0 rfl (n := 120) rfl ?_
      refine Vw.getR (de_getfield (B 120 _ rfl) (B 121 _ rfl) (B 122 _ rfl)) fl_X12_41 rfl hM.k (MS_tape hM).1 (n := 123) rfl ?_
      refine Vw.iload_n (de_iload_3 (B 123 _ rfl)) 3 rfl (n := 124) rfl ?_
      refine Vw.iconst (v := 1) (de_iconst_1 (B 124 _ rfl)) rfl (n := 125) rfl ?_
      refine Vw.iadd (de_iadd (B 125 _ rfl)) (n := 126) rfl ?_
      refine Vw.bald (de_baload (B 126 _ rfl)) (MS_tape hM).2 (vIx_n (k := 3 * i + 1) (by simp only [nI_A, nI_M, Int32.zero_add, Int32.add_zero] <;> rfl) (by omega)) (n := 127) rfl ?_
      refine Vw.sipush (v := 255) (de_sipush (B 127 _ rfl) (B 128 _ rfl) (B 129 _ rfl)) rfl (n := 130) rfl ?_
      refine Vw.iand (de_iand (B 130 _ rfl)) (n := 131) rfl ?_
      refine Vw.aload_n (de_aload_0 (B 131 _ rfl)) 0 rfl (n := 132) rfl ?_
      refine Vw.getR (de_getfield (B 132 _ rfl) (B 133 _ rfl) (B 134 _ rfl)) fl_X12_41 rfl hM.k (MS_tape hM).1 (n := 135) rfl ?_
      refine Vw.iload_n (de_iload_3 (B 135 _ rfl)) 3 rfl (n := 136) rfl ?_
      refine Vw.iconst (v := 2) (de_iconst_2 (B 136 _ rfl)) rfl (n := 137) rfl ?_
      refine Vw.iadd (de_iadd (B 137 _ rfl)) (n := 138) rfl ?_
      refine Vw.bald (de_baload (B 138 _ rfl)) (MS_tape hM).2 (vIx_n (k := 3 * i + 2) (by simp only [nI_A, nI_M, Int32.zero_add, Int32.add_zero] <;> rfl) (by omega)) (n := 139) rfl ?_
      refine Vw.sipush (v := 255) (de_sipush (B 139 _ rfl) (B 140 _ rfl) (B 141 _ rfl)) rfl (n := 142) rfl ?_
      refine Vw.iand (de_iand (B 142 _ rfl)) (n := 143) rfl ?_
      rw [tJ]
      refine Vw.ivv3 (mi' := mX12_adds) (de_invokevirtual (B 143 _ rfl) (B 144 _ rfl) (B 145 _ rfl)) ml_X12_128 mv_X12_adds hM.k (Nat.le_of_ble_eq_true rfl) (n := 146) rfl (c_X12_adds hM p142 z8 ?_)
      refine Vw.iload_n (de_iload_2 (B 146 _ rfl)) 2 rfl (n := 147) rfl ?_
      refine Vw.iload (de_iload (B 147 _ rfl) (B 148 _ rfl)) 4 rfl (n := 149) rfl ?_
      refine Vw.if_eq (tgt := 156) (n := 152) (de_if_eq (B 149 _ rfl) (B 150 _ rfl) (B 151 _ rfl)) rfl rfl (fun c_149 => ?_) (fun c_149 => ?_)
      · exact absurd c_149 (by decide)
      refine Vw.iconst (v := 1) (de_iconst_1 (B 152 _ rfl)) rfl (n := 153) rfl ?_
      refine Vw.goto_ (n := 157) (de_goto_ (B 153 _ rfl) (B 154 _ rfl) (B 155 _ rfl)) rfl ?_
      refine Vw.iadd (de_iadd (B 157 _ rfl)) (n := 158) rfl ?_
      rw [show nI ((rowP (I (r + 7)) (I (r + 2)) np i).2 - np) + 1 = nI ((rowP (I (r + 7)) (I (r + 2)) np (i + 1)).2 - np) from by rw [er, nI_1]; simp only; congr 1; omega]
      refine Vw.istore_n (lv2 := [(0, _), (1, _), (2, _), (3, _), (4, _)]) (de_istore_2 (B 158 _ rfl)) rfl (by decide) [1, 2, 0, 3, 4] rfl (n := 159) rfl ?_
      refine Vw.aload_n (de_aload_0 (B 159 _ rfl)) 0 rfl (n := 160) rfl ?_
      refine Vw.dup (de_dup (B 160 _ rfl)) rfl (n := 161) rfl ?_
      refine Vw.getI (de_getfield (B 161 _ rfl) (B 162 _ rfl) (B 163 _ rfl)) fl_X12_172 rfl hM.k (n := 164) rfl ?_
      rw [mAdds_o (by omega), mJ]
      refine Vw.iload (de_iload (B 164 _ rfl) (B 165 _ rfl)) 4 rfl (n := 166) rfl ?_
      refine Vw.if_eq (tgt := 173) (n := 169) (de_if_eq (B 166 _ rfl) (B 167 _ rfl) (B 168 _ rfl)) rfl rfl (fun c_166 => ?_) (fun c_166 => ?_)
      · exact absurd c_166 (by decide)
      refine Vw.iconst (v := 0) (de_iconst_0 (B 169 _ rfl)) rfl (n := 170) rfl ?_
      refine Vw.goto_ (n := 174) (de_goto_ (B 170 _ rfl) (B 171 _ rfl) (B 172 _ rfl)) rfl ?_
      refine Vw.iadd (de_iadd (B 174 _ rfl)) (n := 175) rfl ?_
      rw [show nI ((if sz % 3 = 0 then 0 else 1) + (i - ((rowP (I (r + 7)) (I (r + 2)) np i).2 - np))) + 0 = nI ((if sz % 3 = 0 then 0 else 1) + ((i + 1) - ((rowP (I (r + 7)) (I (r + 2)) np (i + 1)).2 - np))) from by rw [er, show (0 : Int32) = nI 0 from rfl, ← nI_A]; simp only; congr 1; omega]
      refine Vw.putI (de_putfield (B 175 _ rfl) (B 176 _ rfl) (B 177 _ rfl)) fl_X12_172 hM.k rfl rfl (n := 178) rfl ?_
      refine Vw.iinc (v := nI (3 * (i + 1))) (lv2 := [(0, _), (1, _), (2, _), (3, _), (4, _)]) (de_iinc (B 178 _ rfl) (B 179 _ rfl) (B 180 _ rfl)) 3 rfl (nI_A (3 * i) 3).symm (by decide) [1, 2, 3, 0, 4] rfl (n := 181) rfl ?_
      refine Vw.goto_ (n := 40) (de_goto_ (B 181 _ rfl) (B 182 _ rfl) (B 183 _ rfl)) rfl ?_
      refine Vw.lvs (lv2 := [(0, _), (1, _), (2, _), (3, _)]) [0, 1, 2, 3] rfl ?_
      refine ih hi2 _ ?_ ?_ ?_ ?_
      · intro x j q1 q2; rw [up2_n (by omega), mAdds_o q1]; exact fJ x j q1 q2
      · rw [up2_row (by omega), mAdds_K p142, kJ, er]
      · rw [up2_s]
      · rw [up2_k (by decide), mAdds_o (by omega)]; exact sJ
    have k0 : 3 * i + 3 ≤ sz → rowCan (I (r + 7)) i = 0 ∨ 8 ≤ (rowP (I (r + 7)) (I (r + 2)) np i).2 → Vw mX12_row (d + 2) 0 0 0 0 (ViQ Q) 101 [(0, .ref r), (1, .int (nI sz)), (2, .int (nI ((rowP (I (r + 7)) (I (r + 2)) np i).2 - np))), (3, .int (nI (3 * i)))] [.int 0] S J L := by
      intro z3 zc
      have er := rowP_n zc
      have hi2 : i < sz / 3 := by omega
      refine Vw.istore (lv2 := [(0, _), (1, _), (2, _), (3, _), (4, _)]) (de_istore (B 101 _ rfl) (B 102 _ rfl)) (by decide) [1, 2, 3, 4, 0] rfl (n := 103) rfl ?_
      refine Vw.iload (de_iload (B 103 _ rfl) (B 104 _ rfl)) 4 rfl (n := 105) rfl ?_
      refine Vw.if_eq (tgt := 146) (n := 108) (de_if_eq (B 105 _ rfl) (B 106 _ rfl) (B 107 _ rfl)) rfl rfl (fun c_105 => ?_) (fun c_105 => ?_)
      · refine Vw.iload_n (de_iload_2 (B 146 _ rfl)) 2 rfl (n := 147) rfl ?_
        refine Vw.iload (de_iload (B 147 _ rfl) (B 148 _ rfl)) 4 rfl (n := 149) rfl ?_
        refine Vw.if_eq (tgt := 156) (n := 152) (de_if_eq (B 149 _ rfl) (B 150 _ rfl) (B 151 _ rfl)) rfl rfl (fun c_149 => ?_) (fun c_149 => ?_)
        · refine Vw.iconst (v := 0) (de_iconst_0 (B 156 _ rfl)) rfl (n := 157) rfl ?_
          refine Vw.iadd (de_iadd (B 157 _ rfl)) (n := 158) rfl ?_
          rw [show nI ((rowP (I (r + 7)) (I (r + 2)) np i).2 - np) + 0 = nI ((rowP (I (r + 7)) (I (r + 2)) np (i + 1)).2 - np) from by rw [er]; exact Int32.add_zero _]
          refine Vw.istore_n (lv2 := [(0, _), (1, _), (2, _), (3, _), (4, _)]) (de_istore_2 (B 158 _ rfl)) rfl (by decide) [1, 2, 0, 3, 4] rfl (n := 159) rfl ?_
          refine Vw.aload_n (de_aload_0 (B 159 _ rfl)) 0 rfl (n := 160) rfl ?_
          refine Vw.dup (de_dup (B 160 _ rfl)) rfl (n := 161) rfl ?_
          refine Vw.getI (de_getfield (B 161 _ rfl) (B 162 _ rfl) (B 163 _ rfl)) fl_X12_172 rfl hM.k (n := 164) rfl ?_
          rw [mJ]
          refine Vw.iload (de_iload (B 164 _ rfl) (B 165 _ rfl)) 4 rfl (n := 166) rfl ?_
          refine Vw.if_eq (tgt := 173) (n := 169) (de_if_eq (B 166 _ rfl) (B 167 _ rfl) (B 168 _ rfl)) rfl rfl (fun c_166 => ?_) (fun c_166 => ?_)
          · refine Vw.iconst (v := 1) (de_iconst_1 (B 173 _ rfl)) rfl (n := 174) rfl ?_
            refine Vw.iadd (de_iadd (B 174 _ rfl)) (n := 175) rfl ?_
            rw [show nI ((if sz % 3 = 0 then 0 else 1) + (i - ((rowP (I (r + 7)) (I (r + 2)) np i).2 - np))) + 1 = nI ((if sz % 3 = 0 then 0 else 1) + ((i + 1) - ((rowP (I (r + 7)) (I (r + 2)) np (i + 1)).2 - np))) from by rw [er, nI_1]; congr 1; omega]
            refine Vw.putI (de_putfield (B 175 _ rfl) (B 176 _ rfl) (B 177 _ rfl)) fl_X12_172 hM.k rfl rfl (n := 178) rfl ?_
            refine Vw.iinc (v := nI (3 * (i + 1))) (lv2 := [(0, _), (1, _), (2, _), (3, _), (4, _)]) (de_iinc (B 178 _ rfl) (B 179 _ rfl) (B 180 _ rfl)) 3 rfl (nI_A (3 * i) 3).symm (by decide) [1, 2, 3, 0, 4] rfl (n := 181) rfl ?_
            refine Vw.goto_ (n := 40) (de_goto_ (B 181 _ rfl) (B 182 _ rfl) (B 183 _ rfl)) rfl ?_
            refine Vw.lvs (lv2 := [(0, _), (1, _), (2, _), (3, _)]) [0, 1, 2, 3] rfl ?_
            refine ih hi2 _ ?_ ?_ ?_ ?_
            · intro x j q1 q2; rw [up2_n (by omega)]; exact fJ x j q1 q2
            · rw [up2_row (by omega), kJ, er]
            · rw [up2_s]
            · rw [up2_k (by decide)]; exact sJ
          exact absurd rfl c_166
        exact absurd rfl c_149
      exact absurd rfl c_105
    refine Vw.iload_n (de_iload_3 (B 40 _ rfl)) 3 rfl (n := 41) rfl ?_
    refine Vw.iconst (v := 3) (de_iconst_3 (B 41 _ rfl)) rfl (n := 42) rfl ?_
    refine Vw.iadd (de_iadd (B 42 _ rfl)) (n := 43) rfl ?_
    rw [show nI (3 * i) + 3 = nI (3 * i + 3) from (nI_A _ 3).symm]
    refine Vw.iload_n (de_iload_1 (B 43 _ rfl)) 1 rfl (n := 44) rfl ?_
    refine Vw.icmp_gt (tgt := 184) (n := 47) (de_icmp_gt (B 44 _ rfl) (B 45 _ rfl) (B 46 _ rfl)) rfl rfl (fun c_44 => ?_) (fun c_44 => ?_)
    · have z3 : ¬ 3 * i + 3 ≤ sz := fun z => absurd c_44 (Int32.not_lt.mpr ((nI_leI (a := 3 * i + 3) (b := sz) (by omega) (by omega)).mpr z))
      obtain rfl : i = sz / 3 := by omega
      refine Vw.aload_n (de_aload_0 (B 184 _ rfl)) 0 rfl (n := 185) rfl ?_
      refine Vw.iload_n (de_iload_2 (B 185 _ rfl)) 2 rfl (n := 186) rfl ?_
      refine Vw.ivi1 (mi' := mX12_settled) (de_invokevirtual (B 186 _ rfl) (B 187 _ rfl) (B 188 _ rfl)) ml_X12_118 mv_X12_settled hM.k (Nat.le_of_ble_eq_true rfl) (n := 189) rfl (c_X12_settled hM ?_)
      exact Vw.iret (de_ireturn (B 189 _ rfl)) rfl ⟨_, rfl, (h hz J fJ kJ mJ sJ)⟩
    have z3 : 3 * i + 3 ≤ sz := (nI_leI (a := 3 * i + 3) (b := sz) (by omega) (by omega)).mp (Int32.not_lt.mp c_44)
    refine Vw.aload_n (de_aload_0 (B 47 _ rfl)) 0 rfl (n := 48) rfl ?_
    refine Vw.getR (de_getfield (B 48 _ rfl) (B 49 _ rfl) (B 50 _ rfl)) fl_X12_41 rfl hM.k (MS_tape hM).1 (n := 51) rfl ?_
    refine Vw.iload_n (de_iload_3 (B 51 _ rfl)) 3 rfl (n := 52) rfl ?_
    refine Vw.bald (de_baload (B 52 _ rfl)) (MS_tape hM).2 (vIx_n (k := 3 * i) (by simp only [nI_A, nI_M, Int32.zero_add, Int32.add_zero] <;> rfl) (by omega)) (n := 53) rfl ?_
    refine Vw.sipush (v := 255) (de_sipush (B 53 _ rfl) (B 54 _ rfl) (B 55 _ rfl)) rfl (n := 56) rfl ?_
    refine Vw.iand (de_iand (B 56 _ rfl)) (n := 57) rfl ?_
    refine Vw.aload_n (de_aload_0 (B 57 _ rfl)) 0 rfl (n := 58) rfl ?_
    refine Vw.getR (de_getfield (B 58 _ rfl) (B 59 _ rfl) (B 60 _ rfl)) fl_X12_41 rfl hM.k (MS_tape hM).1 (n := 61) rfl ?_
    refine Vw.iload_n (de_iload_3 (B 61 _ rfl)) 3 rfl (n := 62) rfl ?_
    refine Vw.iconst (v := 1) (de_iconst_1 (B 62 _ rfl)) rfl (n := 63) rfl ?_
    refine Vw.iadd (de_iadd (B 63 _ rfl)) (n := 64) rfl ?_
    refine Vw.bald (de_baload (B 64 _ rfl)) (MS_tape hM).2 (vIx_n (k := 3 * i + 1) (by simp only [nI_A, nI_M, Int32.zero_add, Int32.add_zero] <;> rfl) (by omega)) (n := 65) rfl ?_
    refine Vw.sipush (v := 255) (de_sipush (B 65 _ rfl) (B 66 _ rfl) (B 67 _ rfl)) rfl (n := 68) rfl ?_
    refine Vw.iand (de_iand (B 68 _ rfl)) (n := 69) rfl ?_
    refine Vw.aload_n (de_aload_0 (B 69 _ rfl)) 0 rfl (n := 70) rfl ?_
    refine Vw.getR (de_getfield (B 70 _ rfl) (B 71 _ rfl) (B 72 _ rfl)) fl_X12_41 rfl hM.k (MS_tape hM).1 (n := 73) rfl ?_
    refine Vw.iload_n (de_iload_3 (B 73 _ rfl)) 3 rfl (n := 74) rfl ?_
    refine Vw.iconst (v := 2) (de_iconst_2 (B 74 _ rfl)) rfl (n := 75) rfl ?_
    refine Vw.iadd (de_iadd (B 75 _ rfl)) (n := 76) rfl ?_
    refine Vw.bald (de_baload (B 76 _ rfl)) (MS_tape hM).2 (vIx_n (k := 3 * i + 2) (by simp only [nI_A, nI_M, Int32.zero_add, Int32.add_zero] <;> rfl) (by omega)) (n := 77) rfl ?_
    refine Vw.sipush (v := 255) (de_sipush (B 77 _ rfl) (B 78 _ rfl) (B 79 _ rfl)) rfl (n := 80) rfl ?_
    refine Vw.iand (de_iand (B 80 _ rfl)) (n := 81) rfl ?_
    rw [tJ]
    refine Vw.isi3 (mi' := mX12_canBe) (de_invokestatic (B 81 _ rfl) (B 82 _ rfl) (B 83 _ rfl)) ml_X12_125 ms_X12_canBe (Nat.le_of_ble_eq_true rfl) (n := 84) rfl (c_X12_canBe ?_)
    refine Vw.if_eq (tgt := 100) (n := 87) (de_if_eq (B 84 _ rfl) (B 85 _ rfl) (B 86 _ rfl)) rfl rfl (fun c_84 => ?_) (fun c_84 => ?_)
    · refine Vw.iconst (v := 0) (de_iconst_0 (B 100 _ rfl)) rfl (n := 101) rfl ?_
      first
      | exact k0 z3 (Or.inl c_84)
      | exact k0 z3 (Or.inr ((nI_leI (a := 8) (by omega) (by omega)).mp c_93))
      | exact k1 z3 c_84 (by rcases Nat.lt_or_ge (rowP (I (r + 7)) (I (r + 2)) np i).2 8 with z | z; exact z; exact absurd ((nI_leI (a := 8) (by omega) (by omega)).mpr z) c_93)
    refine Vw.aload_n (de_aload_0 (B 87 _ rfl)) 0 rfl (n := 88) rfl ?_
    refine Vw.ivi0 (mi' := mX12_people) (de_invokevirtual (B 88 _ rfl) (B 89 _ rfl) (B 90 _ rfl)) ml_X12_121 mv_X12_people hM.k (Nat.le_of_ble_eq_true rfl) (n := 91) rfl (c_X12_people hM ?_)
    refine Vw.bipush (v := 8) (de_bipush (B 91 _ rfl) (B 92 _ rfl)) rfl (n := 93) rfl ?_
    rw [p142]
    refine Vw.icmp_ge (tgt := 100) (n := 96) (de_icmp_ge (B 93 _ rfl) (B 94 _ rfl) (B 95 _ rfl)) rfl rfl (fun c_93 => ?_) (fun c_93 => ?_)
    · refine Vw.iconst (v := 0) (de_iconst_0 (B 100 _ rfl)) rfl (n := 101) rfl ?_
      first
      | exact k0 z3 (Or.inl c_84)
      | exact k0 z3 (Or.inr ((nI_leI (a := 8) (by omega) (by omega)).mp c_93))
      | exact k1 z3 c_84 (by rcases Nat.lt_or_ge (rowP (I (r + 7)) (I (r + 2)) np i).2 8 with z | z; exact z; exact absurd ((nI_leI (a := 8) (by omega) (by omega)).mpr z) c_93)
    refine Vw.iconst (v := 1) (de_iconst_1 (B 96 _ rfl)) rfl (n := 97) rfl ?_
    refine Vw.goto_ (n := 101) (de_goto_ (B 97 _ rfl) (B 98 _ rfl) (B 99 _ rfl)) rfl ?_
    first
    | exact k0 z3 (Or.inl c_84)
    | exact k0 z3 (Or.inr ((nI_leI (a := 8) (by omega) (by omega)).mp c_93))
    | exact k1 z3 c_84 (by rcases Nat.lt_or_ge (rowP (I (r + 7)) (I (r + 2)) np i).2 8 with z | z; exact z; exact absurd ((nI_leI (a := 8) (by omega) (by omega)).mpr z) c_93)
  refine Vw.aload_n (de_aload_0 (B 0 _ rfl)) 0 rfl (n := 1) rfl ?_
  refine Vw.getI (de_getfield (B 1 _ rfl) (B 2 _ rfl) (B 3 _ rfl)) fl_X12_169 rfl hM.k (n := 4) rfl ?_
  rw [hs]
  refine Vw.istore_n (lv2 := [(0, _), (1, _)]) (de_istore_1 (B 4 _ rfl)) rfl (by decide) [1, 0] rfl (n := 5) rfl ?_
  refine Vw.aload_n (de_aload_0 (B 5 _ rfl)) 0 rfl (n := 6) rfl ?_
  refine Vw.iconst (v := 0) (de_iconst_0 (B 6 _ rfl)) rfl (n := 7) rfl ?_
  refine Vw.putI (de_putfield (B 7 _ rfl) (B 8 _ rfl) (B 9 _ rfl)) fl_X12_169 hM.k rfl rfl (n := 10) rfl ?_
  refine Vw.iload_n (de_iload_1 (B 10 _ rfl)) 1 rfl (n := 11) rfl ?_
  refine Vw.if_ne (tgt := 21) (n := 14) (de_if_ne (B 11 _ rfl) (B 12 _ rfl) (B 13 _ rfl)) rfl rfl (fun c_11 => ?_) (fun c_11 => ?_)
  · refine Vw.iconst (v := 0) (de_iconst_0 (B 21 _ rfl)) rfl (n := 22) rfl ?_
    refine Vw.istore_n (lv2 := [(0, _), (1, _), (2, _)]) (de_istore_2 (B 22 _ rfl)) rfl (by decide) [1, 2, 0] rfl (n := 23) rfl ?_
    refine Vw.aload_n (de_aload_0 (B 23 _ rfl)) 0 rfl (n := 24) rfl ?_
    refine Vw.iload_n (de_iload_1 (B 24 _ rfl)) 1 rfl (n := 25) rfl ?_
    refine Vw.iconst (v := 3) (de_iconst_3 (B 25 _ rfl)) rfl (n := 26) rfl ?_
    refine Vw.irem (de_irem (B 26 _ rfl)) (by decide) (n := 27) rfl ?_
    rw [show (3 : Int32) = nI 3 from rfl, nI_rem (by omega) (by decide)]
    refine Vw.if_ne (tgt := 34) (n := 30) (de_if_ne (B 27 _ rfl) (B 28 _ rfl) (B 29 _ rfl)) rfl rfl (fun c_27 => ?_) (fun c_27 => ?_)
    · have hm : ¬ sz % 3 = 0 := fun z => c_27 (by rw [z]; rfl)
      refine Vw.iconst (v := 1) (de_iconst_1 (B 34 _ rfl)) rfl (n := 35) rfl ?_
      refine Vw.putI (de_putfield (B 35 _ rfl) (B 36 _ rfl) (B 37 _ rfl)) fl_X12_172 hM.k rfl rfl (n := 38) rfl ?_
      refine Vw.iconst (v := 0) (de_iconst_0 (B 38 _ rfl)) rfl (n := 39) rfl ?_
      refine Vw.istore_n (lv2 := [(0, _), (1, _), (2, _), (3, _)]) (de_istore_3 (B 39 _ rfl)) rfl (by decide) [1, 2, 3, 0] rfl (n := 40) rfl ?_
      first
      | (have g := loop (fun z => c_11 (by rw [z]; rfl)) 0 (Nat.zero_le _) (up2 (up2 I r 11 0) r 6 0) (fun x j q1 q2 => by rw [up2_n (by omega), up2_n (by omega)]) (by rw [up2_row (by omega), up2_row (by omega)]; rfl) (by rw [up2_s, if_pos hm, Nat.zero_sub]; rfl) (by rw [up2_k (by decide), up2_s]); rw [show (rowP (I (r + 7)) (I (r + 2)) np 0).2 - np = 0 from Nat.sub_self np] at g; exact g)
      | (have g := loop (fun z => c_11 (by rw [z]; rfl)) 0 (Nat.zero_le _) (up2 (up2 I r 11 0) r 6 1) (fun x j q1 q2 => by rw [up2_n (by omega), up2_n (by omega)]) (by rw [up2_row (by omega), up2_row (by omega)]; rfl) (by rw [up2_s, if_neg hm, Nat.zero_sub]; rfl) (by rw [up2_k (by decide), up2_s]); rw [show (rowP (I (r + 7)) (I (r + 2)) np 0).2 - np = 0 from Nat.sub_self np] at g; exact g)
    have hm : sz % 3 = 0 := nI_inj (by omega) (by decide) c_27
    refine Vw.iconst (v := 0) (de_iconst_0 (B 30 _ rfl)) rfl (n := 31) rfl ?_
    refine Vw.goto_ (n := 35) (de_goto_ (B 31 _ rfl) (B 32 _ rfl) (B 33 _ rfl)) rfl ?_
    refine Vw.putI (de_putfield (B 35 _ rfl) (B 36 _ rfl) (B 37 _ rfl)) fl_X12_172 hM.k rfl rfl (n := 38) rfl ?_
    refine Vw.iconst (v := 0) (de_iconst_0 (B 38 _ rfl)) rfl (n := 39) rfl ?_
    refine Vw.istore_n (lv2 := [(0, _), (1, _), (2, _), (3, _)]) (de_istore_3 (B 39 _ rfl)) rfl (by decide) [1, 2, 3, 0] rfl (n := 40) rfl ?_
    first
    | (have g := loop (fun z => c_11 (by rw [z]; rfl)) 0 (Nat.zero_le _) (up2 (up2 I r 11 0) r 6 0) (fun x j q1 q2 => by rw [up2_n (by omega), up2_n (by omega)]) (by rw [up2_row (by omega), up2_row (by omega)]; rfl) (by rw [up2_s, if_pos hm, Nat.zero_sub]; rfl) (by rw [up2_k (by decide), up2_s]); rw [show (rowP (I (r + 7)) (I (r + 2)) np 0).2 - np = 0 from Nat.sub_self np] at g; exact g)
    | (have g := loop (fun z => c_11 (by rw [z]; rfl)) 0 (Nat.zero_le _) (up2 (up2 I r 11 0) r 6 1) (fun x j q1 q2 => by rw [up2_n (by omega), up2_n (by omega)]) (by rw [up2_row (by omega), up2_row (by omega)]; rfl) (by rw [up2_s, if_neg hm, Nat.zero_sub]; rfl) (by rw [up2_k (by decide), up2_s]); rw [show (rowP (I (r + 7)) (I (r + 2)) np 0).2 - np = 0 from Nat.sub_self np] at g; exact g)
  have z0 : sz = 0 := nI_inj (by omega) (by decide) c_11
  refine Vw.aload_n (de_aload_0 (B 14 _ rfl)) 0 rfl (n := 15) rfl ?_
  refine Vw.bipush (v := -6) (de_bipush (B 15 _ rfl) (B 16 _ rfl)) rfl (n := 17) rfl ?_
  refine Vw.ivi1 (mi' := mX12_refuses) (de_invokevirtual (B 17 _ rfl) (B 18 _ rfl) (B 19 _ rfl)) ml_X12_115 mv_X12_refuses hM.k (Nat.le_of_ble_eq_true rfl) (n := 20) rfl (c_X12_refuses hM (j := 6) ⟨rfl, by decide, by decide⟩ ?_)
  exact Vw.iret (de_ireturn (B 20 _ rfl)) rfl ⟨_, rfl, (h1 z0)⟩
