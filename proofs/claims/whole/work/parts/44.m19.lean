theorem ev0 {lv b : Int32} {dn : tD} {nv : Nat → Int32} (h : lv = 0 ∨ ¬ b = 0) : evV lv b dn nv = 0 ∧ evB lv b dn nv = b := by
  unfold evV evB
  rcases h with h | h
  · rw [if_neg (fun q => absurd (q.1.symm.trans h) (by decide)), if_neg (fun q => absurd (q.1.symm.trans h) (by decide))]; exact ⟨rfl, rfl⟩
  · rw [if_neg (fun q => h q.2), if_neg (fun q => h q.2.1)]; exact ⟨rfl, rfl⟩
theorem ev1 {lv b : Int32} {dn : tD} {nv : Nat → Int32} {v : Int64} (h1 : lv = 1) (h2 : b = 0) (h3 : dn nv = some v) : evV lv b dn nv = v ∧ evB lv b dn nv = b := by
  unfold evV evB
  rw [if_pos ⟨h1, h2⟩, h3, if_neg (fun q => absurd q.2.2 (by simp))]; exact ⟨rfl, rfl⟩
theorem ev2 {lv b : Int32} {dn : tD} {nv : Nat → Int32} (h1 : lv = 1) (h2 : b = 0) (h3 : dn nv = none) : evV lv b dn nv = 0 ∧ evB lv b dn nv = 1 := by
  unfold evV evB
  rw [if_pos ⟨h1, h2⟩, h3, if_pos ⟨h1, h2, rfl⟩]; exact ⟨rfl, rfl⟩
theorem evB_01 {lv b : Int32} {dn : tD} {nv : Nat → Int32} (h : b = 0 ∨ b = 1) : evB lv b dn nv = 0 ∨ evB lv b dn nv = 1 := by
  unfold evB; split
  · exact Or.inr rfl
  · exact h
theorem zLie_ix {x : Int32} {lo hi : Int32} {a n : Nat} (h : ¬ zLie x lo hi = 0) (e1 : lo.toInt = a) (e2 : hi.toInt = (a + n : Nat)) (hn : a + n < 1000) : ∃ k, k ≤ n ∧ x = nI (a + k) ∧ x - nI a = nI k := by
  rw [zLie_iff, e1, e2] at h
  obtain ⟨j, hj, rfl⟩ := nI_ex (x := x) (n := a + n + 1) (by omega) (by omega)
  have hj2 : a ≤ j := by rw [nI_ti (by omega)] at h; omega
  refine ⟨j - a, by omega, by rw [show a + (j - a) = j by omega], pk_sub hj2⟩
theorem lie_q {q np : Nat} (hq : q < 100) (hn : np ≤ 8) : ¬ zLie (nI q) 0 (nI np - 1) = 0 ↔ q < np := by
  constructor
  · intro h
    obtain ⟨j, hj, e⟩ := lie_ex (by omega) h
    rw [nI_inj (by omega) (by omega) e]; exact hj
  · intro h
    rw [zLie_iff]
    have e : (nI np - 1).toInt = (np : Int) - 1 := by
      have e1 : (1 : Int32).toInt = 1 := rfl
      rw [i32_sub] <;> rw [nI_ti (by omega), e1] <;> omega
    rw [e, nI_ti (by omega)]
    have e0 : (0 : Int32).toInt = 0 := rfl
    omega
theorem ec_part0 : EC mX12_partOf 3 (fun cd vl o => pPart cd vl o none) := by
  intro d S I L Q r bs nt np cd vl o nv i l j l2 dn lv b hM hE hN hi hP hlv hb h
  refine Vc.of rfl (Nat.le_of_ble_eq_true rfl) ?_
  have B := bs_X12_partOf
  show Vw mX12_partOf (d + 3) 0 0 0 0 (VlQ Q) 0 [(0, .ref r), (1, .int lv)] [] S (em I r (nI (bs + i)) b) L
  have hE2 := hE.2.2
  have h23 : ∀ g b2, em I r g b2 r 23 = if o = true then 1 else 0 := fun g b2 => by rw [em_k (by decide) (by decide)]; exact hN.1
  rcases pPart_inv hP with ⟨h1, f, j0, hf, h3, h4, h5⟩ | ⟨h1, h2, h3, h4, h5, h6, h7⟩ | ⟨h1, h2, h3, h4, h5⟩ | ⟨h1, h2, h3, h4, h5, h6⟩
  · cases hf
  · subst h6
    have hlt := hE.lt hi (by rcases h3 with h3 | h3 <;> rw [h3] <;> decide)
    have hlt2 := hE.lt hlt (by rw [h4]; decide)
    obtain ⟨q, hq, hvq, -⟩ := zLie_ix (a := 0) (n := 7) h5 rfl rfl (by decide)
    rw [Nat.zero_add] at hvq
    have hdn : dn nv = some (nv ((if cd i = 13 then 3 else 11) + q)).toInt64 := by rw [h7, hvq, nI_cl (by omega)]
    have hv2 : ∀ g b2, em I r g b2 (r + 2) (2953 + (bs + (i + 1))) = nI q := fun g b2 => by rw [em_o (by omega), show 2953 + (bs + (i + 1)) = 2953 + bs + (i + 1) by omega, (hE.1 (i + 1) hlt2).2]; exact hvq
    have h142 : ∀ g b2, em I r g b2 (r + 2) 142 = nI np := fun g b2 => by rw [em_o (by omega)]; exact hN.2.2.2.1
    have hnv := (hN.2.2.1 h2).2 q (by omega)
    have hB1 : q < np → ∀ g b2, em I r g b2 (r + 2) (if cd i = 13 then 4 * q + 1 else 4 * q + 2) = nv ((if cd i = 13 then 3 else 11) + q) := by
      intro hqn g b2
      rw [em_o (by omega)]
      rw [if_pos hqn, if_pos hqn] at hnv
      by_cases hc : cd i = 13
      · rw [if_pos hc, if_pos hc]; exact hnv.1.symm
      · rw [if_neg hc, if_neg hc]; exact hnv.2.symm
    have hB2 : ¬ q < np → nv ((if cd i = 13 then 3 else 11) + q) = -1 := by
      intro hqn
      rw [if_neg hqn, if_neg hqn] at hnv
      by_cases hc : cd i = 13
      · rw [if_pos hc]; exact hnv.1
      · rw [if_neg hc]; exact hnv.2
    refine Vw.aload_n (de_aload_0 (B 0 _ rfl)) 0 rfl (n := 1) rfl ?_
    refine Vw.bipush (v := 91) (de_bipush (B 1 _ rfl) (B 2 _ rfl)) rfl (n := 3) rfl ?_
    refine Vw.isi1 (mi' := mX12_sign) (de_invokestatic (B 3 _ rfl) (B 4 _ rfl) (B 5 _ rfl)) ml_X12_239 ms_X12_sign (Nat.le_of_ble_eq_true rfl) (n := 6) rfl (c_X12_sign ?_)
    refine Vw.ivi1 (mi' := mX12_passes0) (de_invokevirtual (B 6 _ rfl) (B 7 _ rfl) (B 8 _ rfl)) ml_X12_294 mv_X12_passes0 hM.k (Nat.le_of_ble_eq_true rfl) (n := 9) rfl (c_X12_passes0 hM hE hi (fun q => absurd q h1) (fun _ => ?_))
    · refine Vw.if_eq (tgt := 30) (n := 12) (de_if_eq (B 9 _ rfl) (B 10 _ rfl) (B 11 _ rfl)) rfl rfl (fun c_9 => ?_) (fun c_9 => ?_)
      · refine Vw.aload_n (de_aload_0 (B 30 _ rfl)) 0 rfl (n := 31) rfl ?_
        refine Vw.aload_n (de_aload_0 (B 31 _ rfl)) 0 rfl (n := 32) rfl ?_
        refine Vw.getI (de_getfield (B 32 _ rfl) (B 33 _ rfl) (B 34 _ rfl)) fl_X12_270 rfl hM.k (n := 35) rfl ?_
        rw [em_g]
        refine Vw.ivi1 (mi' := mX12_codeAt) (de_invokevirtual (B 35 _ rfl) (B 36 _ rfl) (B 37 _ rfl)) ml_X12_273 mv_X12_codeAt hM.k (Nat.le_of_ble_eq_true rfl) (n := 38) rfl (c_X12_codeAt hM hE hi ?_)
        refine Vw.istore_n (lv2 := [(0, _), (1, _), (2, _)]) (de_istore_2 (B 38 _ rfl)) rfl (by decide) [1, 2, 0] rfl (n := 39) rfl ?_
        refine Vw.iconst (v := 0) (de_iconst_0 (B 39 _ rfl)) rfl (n := 40) rfl ?_
        refine Vw.istore_n (lv2 := [(0, _), (1, _), (2, _), (3, _)]) (de_istore_3 (B 40 _ rfl)) rfl (by decide) [1, 2, 3, 0] rfl (n := 41) rfl ?_
        refine Vw.aload_n (de_aload_0 (B 41 _ rfl)) 0 rfl (n := 42) rfl ?_
        refine Vw.dup (de_dup (B 42 _ rfl)) rfl (n := 43) rfl ?_
        refine Vw.getI (de_getfield (B 43 _ rfl) (B 44 _ rfl) (B 45 _ rfl)) fl_X12_270 rfl hM.k (n := 46) rfl ?_
        rw [em_g]
        refine Vw.iconst (v := 1) (de_iconst_1 (B 46 _ rfl)) rfl (n := 47) rfl ?_
        refine Vw.iadd (de_iadd (B 47 _ rfl)) (n := 48) rfl ?_
        refine Vw.putI (de_putfield (B 48 _ rfl) (B 49 _ rfl) (B 50 _ rfl)) fl_X12_270 hM.k rfl rfl (n := 51) rfl ?_
        rw [em_inc]
        refine Vw.aload_n (de_aload_0 (B 51 _ rfl)) 0 rfl (n := 52) rfl ?_
        refine Vw.getI (de_getfield (B 52 _ rfl) (B 53 _ rfl) (B 54 _ rfl)) fl_X12_300 rfl hM.k (n := 55) rfl ?_
        rw [h23]
        refine Vw.if_eq (tgt := 94) (n := 58) (de_if_eq (B 55 _ rfl) (B 56 _ rfl) (B 57 _ rfl)) rfl rfl (fun c_55 => ?_) (fun c_55 => ?_)
        · exact absurd c_55 (by rw [if_pos h2]; decide)
        refine Vw.iload_n (de_iload_2 (B 58 _ rfl)) 2 rfl (n := 59) rfl ?_
        refine Vw.bipush (v := 13) (de_bipush (B 59 _ rfl) (B 60 _ rfl)) rfl (n := 61) rfl ?_
        refine Vw.icmp_eq (tgt := 70) (n := 64) (de_icmp_eq (B 61 _ rfl) (B 62 _ rfl) (B 63 _ rfl)) rfl rfl (fun c_61 => ?_) (fun c_61 => ?_)
        · refine Vw.aload_n (de_aload_0 (B 70 _ rfl)) 0 rfl (n := 71) rfl ?_
          refine Vw.getR (de_getfield (B 71 _ rfl) (B 72 _ rfl) (B 73 _ rfl)) fl_X12_24 rfl hM.k (MS_kept hM).1 (n := 74) rfl ?_
          refine Vw.sipush (v := 2953) (de_sipush (B 74 _ rfl) (B 75 _ rfl) (B 76 _ rfl)) rfl (n := 77) rfl ?_
          refine Vw.aload_n (de_aload_0 (B 77 _ rfl)) 0 rfl (n := 78) rfl ?_
          skip
          refine Vw.getI (de_getfield (B 78 _ rfl) (B 79 _ rfl) (B 80 _ rfl)) fl_X12_270 rfl hM.k (n := 81) rfl ?_
          rw [em_g]
          refine Vw.iadd (de_iadd (B 81 _ rfl)) (n := 82) rfl ?_
          refine Vw.iald (de_iaload (B 82 _ rfl)) (MS_kept hM).2 (vIx_n (k := 2953 + (bs + (i + 1))) (by simp only [nI_A, nI_M, Int32.zero_add, Int32.add_zero] <;> rfl) (by omega)) (n := 83) rfl ?_
          rw [hv2]
          refine Vw.istore_n (lv2 := [(0, _), (1, _), (2, _), (3, _)]) (de_istore_3 (B 83 _ rfl)) rfl (by decide) [1, 2, 3, 0] rfl (n := 84) rfl ?_
          refine Vw.aload_n (de_aload_0 (B 84 _ rfl)) 0 rfl (n := 85) rfl ?_
          refine Vw.dup (de_dup (B 85 _ rfl)) rfl (n := 86) rfl ?_
          refine Vw.getI (de_getfield (B 86 _ rfl) (B 87 _ rfl) (B 88 _ rfl)) fl_X12_270 rfl hM.k (n := 89) rfl ?_
          rw [em_g]
          refine Vw.iconst (v := 1) (de_iconst_1 (B 89 _ rfl)) rfl (n := 90) rfl ?_
          refine Vw.iadd (de_iadd (B 90 _ rfl)) (n := 91) rfl ?_
          refine Vw.putI (de_putfield (B 91 _ rfl) (B 92 _ rfl) (B 93 _ rfl)) fl_X12_270 hM.k rfl rfl (n := 94) rfl ?_
          try rw [em_inc]
          refine Vw.iload_n (de_iload_1 (B 94 _ rfl)) 1 rfl (n := 95) rfl ?_
          refine Vw.if_eq (tgt := 105) (n := 98) (de_if_eq (B 95 _ rfl) (B 96 _ rfl) (B 97 _ rfl)) rfl rfl (fun c_95 => ?_) (fun c_95 => ?_)
          · refine Vw.lconst (v := 0) (de_lconst_0 (B 105 _ rfl)) rfl (n := 106) rfl ?_
            exact Vw.lret (de_lreturn (B 106 _ rfl)) rfl ⟨_, rfl, (by obtain ⟨e1, e2⟩ := ev0 (lv := lv) (b := b) (dn := dn) (nv := nv) (by first | exact Or.inl c_95 | exact Or.inr c_102); rw [e1, e2] at h; exact h)⟩
          refine Vw.aload_n (de_aload_0 (B 98 _ rfl)) 0 rfl (n := 99) rfl ?_
          refine Vw.getI (de_getfield (B 99 _ rfl) (B 100 _ rfl) (B 101 _ rfl)) fl_X12_280 rfl hM.k (n := 102) rfl ?_
          rw [em_b]
          refine Vw.if_eq (tgt := 107) (n := 105) (de_if_eq (B 102 _ rfl) (B 103 _ rfl) (B 104 _ rfl)) rfl rfl (fun c_102 => ?_) (fun c_102 => ?_)
          · refine Vw.iload_n (de_iload_2 (B 107 _ rfl)) 2 rfl (n := 108) rfl ?_
            refine Vw.bipush (v := 50) (de_bipush (B 108 _ rfl) (B 109 _ rfl)) rfl (n := 110) rfl ?_
            refine Vw.icmp_ne (tgt := 130) (n := 113) (de_icmp_ne (B 110 _ rfl) (B 111 _ rfl) (B 112 _ rfl)) rfl rfl (fun c_110 => ?_) (fun c_110 => ?_)
            · refine Vw.aload_n (de_aload_0 (B 130 _ rfl)) 0 rfl (n := 131) rfl ?_
              refine Vw.getI (de_getfield (B 131 _ rfl) (B 132 _ rfl) (B 133 _ rfl)) fl_X12_300 rfl hM.k (n := 134) rfl ?_
              rw [h23]
              refine Vw.if_ne (tgt := 148) (n := 137) (de_if_ne (B 134 _ rfl) (B 135 _ rfl) (B 136 _ rfl)) rfl rfl (fun c_134 => ?_) (fun c_134 => ?_)
              · refine Vw.iload_n (de_iload_2 (B 148 _ rfl)) 2 rfl (n := 149) rfl ?_
                refine Vw.bipush (v := 13) (de_bipush (B 149 _ rfl) (B 150 _ rfl)) rfl (n := 151) rfl ?_
                refine Vw.icmp_eq (tgt := 160) (n := 154) (de_icmp_eq (B 151 _ rfl) (B 152 _ rfl) (B 153 _ rfl)) rfl rfl (fun c_151 => ?_) (fun c_151 => ?_)
                · refine Vw.aload_n (de_aload_0 (B 160 _ rfl)) 0 rfl (n := 161) rfl ?_
                  refine Vw.iload_n (de_iload_3 (B 161 _ rfl)) 3 rfl (n := 162) rfl ?_
                  skip
                  refine Vw.ivi1 (mi' := mX12_isPerson) (de_invokevirtual (B 162 _ rfl) (B 163 _ rfl) (B 164 _ rfl)) ml_X12_132 mv_X12_isPerson hM.k (Nat.le_of_ble_eq_true rfl) (n := 165) rfl (c_X12_isPerson hM ?_)
                  rw [h142]
                  refine Vw.if_eq (tgt := 188) (n := 168) (de_if_eq (B 165 _ rfl) (B 166 _ rfl) (B 167 _ rfl)) rfl rfl (fun c_165 => ?_) (fun c_165 => ?_)
                  · refine Vw.ldc2 (de_ldc2_w (B 188 _ rfl) (B 189 _ rfl) (B 190 _ rfl)) kc_X12_303 (n := 191) rfl ?_
                    refine Vw.goto_ (n := 204) (de_goto_ (B 191 _ rfl) (B 192 _ rfl) (B 193 _ rfl)) rfl ?_
                    exact Vw.lret (de_lreturn (B 204 _ rfl)) rfl ⟨_, rfl, (by obtain ⟨e1, e2⟩ := ev1 (lv := lv) (b := b) (dn := dn) (nv := nv) (hlv.resolve_left c_95) c_102 hdn; rw [e1, e2] at h; first | (rw [hB1 ((lie_q (by omega) hN.2.2.2.2).mp c_165)]; exact h) | (rw [hB2 (fun z => (lie_q (by omega) hN.2.2.2.2).mpr z c_165)] at h; exact h))⟩
                  refine Vw.aload_n (de_aload_0 (B 168 _ rfl)) 0 rfl (n := 169) rfl ?_
                  refine Vw.iload_n (de_iload_3 (B 169 _ rfl)) 3 rfl (n := 170) rfl ?_
                  refine Vw.iload_n (de_iload_2 (B 170 _ rfl)) 2 rfl (n := 171) rfl ?_
                  refine Vw.bipush (v := 13) (de_bipush (B 171 _ rfl) (B 172 _ rfl)) rfl (n := 173) rfl ?_
                  refine Vw.icmp_ne (tgt := 180) (n := 176) (de_icmp_ne (B 173 _ rfl) (B 174 _ rfl) (B 175 _ rfl)) rfl rfl (fun c_173 => ?_) (fun c_173 => ?_)
                  · refine Vw.iconst (v := 2) (de_iconst_2 (B 180 _ rfl)) rfl (n := 181) rfl ?_
                    refine Vw.ivi2 (mi' := mX12_fact) (de_invokevirtual (B 181 _ rfl) (B 182 _ rfl) (B 183 _ rfl)) ml_X12_144 mv_X12_fact hM.k (Nat.le_of_ble_eq_true rfl) (n := 184) rfl (c_X12_fact hM (j := if cd i = 13 then 4 * q + 1 else 4 * q + 2) (by first | (rw [if_pos c_173]; exact (vIx_n (k := 4 * q + 1) (by simp only [nI_A, nI_M, Int32.zero_add, Int32.add_zero] <;> rfl) (by omega))) | (rw [if_neg c_173]; exact (vIx_n (k := 4 * q + 2) (by simp only [nI_A, nI_M, Int32.zero_add, Int32.add_zero] <;> rfl) (by omega)))) ?_)
                    refine Vw.i2l (de_i2l (B 184 _ rfl)) (n := 185) rfl ?_
                    refine Vw.goto_ (n := 204) (de_goto_ (B 185 _ rfl) (B 186 _ rfl) (B 187 _ rfl)) rfl ?_
                    exact Vw.lret (de_lreturn (B 204 _ rfl)) rfl ⟨_, rfl, (by obtain ⟨e1, e2⟩ := ev1 (lv := lv) (b := b) (dn := dn) (nv := nv) (hlv.resolve_left c_95) c_102 hdn; rw [e1, e2] at h; first | (rw [hB1 ((lie_q (by omega) hN.2.2.2.2).mp c_165)]; exact h) | (rw [hB2 (fun z => (lie_q (by omega) hN.2.2.2.2).mpr z c_165)] at h; exact h))⟩
                  refine Vw.iconst (v := 1) (de_iconst_1 (B 176 _ rfl)) rfl (n := 177) rfl ?_
                  refine Vw.goto_ (n := 181) (de_goto_ (B 177 _ rfl) (B 178 _ rfl) (B 179 _ rfl)) rfl ?_
                  refine Vw.ivi2 (mi' := mX12_fact) (de_invokevirtual (B 181 _ rfl) (B 182 _ rfl) (B 183 _ rfl)) ml_X12_144 mv_X12_fact hM.k (Nat.le_of_ble_eq_true rfl) (n := 184) rfl (c_X12_fact hM (j := if cd i = 13 then 4 * q + 1 else 4 * q + 2) (by first | (rw [if_pos c_173]; exact (vIx_n (k := 4 * q + 1) (by simp only [nI_A, nI_M, Int32.zero_add, Int32.add_zero] <;> rfl) (by omega))) | (rw [if_neg c_173]; exact (vIx_n (k := 4 * q + 2) (by simp only [nI_A, nI_M, Int32.zero_add, Int32.add_zero] <;> rfl) (by omega)))) ?_)
                  refine Vw.i2l (de_i2l (B 184 _ rfl)) (n := 185) rfl ?_
                  refine Vw.goto_ (n := 204) (de_goto_ (B 185 _ rfl) (B 186 _ rfl) (B 187 _ rfl)) rfl ?_
                  exact Vw.lret (de_lreturn (B 204 _ rfl)) rfl ⟨_, rfl, (by obtain ⟨e1, e2⟩ := ev1 (lv := lv) (b := b) (dn := dn) (nv := nv) (hlv.resolve_left c_95) c_102 hdn; rw [e1, e2] at h; first | (rw [hB1 ((lie_q (by omega) hN.2.2.2.2).mp c_165)]; exact h) | (rw [hB2 (fun z => (lie_q (by omega) hN.2.2.2.2).mpr z c_165)] at h; exact h))⟩
                refine Vw.iload_n (de_iload_2 (B 154 _ rfl)) 2 rfl (n := 155) rfl ?_
                refine Vw.bipush (v := 14) (de_bipush (B 155 _ rfl) (B 156 _ rfl)) rfl (n := 157) rfl ?_
                refine Vw.icmp_ne (tgt := 194) (n := 160) (de_icmp_ne (B 157 _ rfl) (B 158 _ rfl) (B 159 _ rfl)) rfl rfl (fun c_157 => ?_) (fun c_157 => ?_)
                · exact absurd h3 (by rintro (z | z); exact c_151 z; exact c_157 z)
                refine Vw.aload_n (de_aload_0 (B 160 _ rfl)) 0 rfl (n := 161) rfl ?_
                refine Vw.iload_n (de_iload_3 (B 161 _ rfl)) 3 rfl (n := 162) rfl ?_
                skip
                refine Vw.ivi1 (mi' := mX12_isPerson) (de_invokevirtual (B 162 _ rfl) (B 163 _ rfl) (B 164 _ rfl)) ml_X12_132 mv_X12_isPerson hM.k (Nat.le_of_ble_eq_true rfl) (n := 165) rfl (c_X12_isPerson hM ?_)
                rw [h142]
                refine Vw.if_eq (tgt := 188) (n := 168) (de_if_eq (B 165 _ rfl) (B 166 _ rfl) (B 167 _ rfl)) rfl rfl (fun c_165 => ?_) (fun c_165 => ?_)
                · refine Vw.ldc2 (de_ldc2_w (B 188 _ rfl) (B 189 _ rfl) (B 190 _ rfl)) kc_X12_303 (n := 191) rfl ?_
                  refine Vw.goto_ (n := 204) (de_goto_ (B 191 _ rfl) (B 192 _ rfl) (B 193 _ rfl)) rfl ?_
                  exact Vw.lret (de_lreturn (B 204 _ rfl)) rfl ⟨_, rfl, (by obtain ⟨e1, e2⟩ := ev1 (lv := lv) (b := b) (dn := dn) (nv := nv) (hlv.resolve_left c_95) c_102 hdn; rw [e1, e2] at h; first | (rw [hB1 ((lie_q (by omega) hN.2.2.2.2).mp c_165)]; exact h) | (rw [hB2 (fun z => (lie_q (by omega) hN.2.2.2.2).mpr z c_165)] at h; exact h))⟩
                refine Vw.aload_n (de_aload_0 (B 168 _ rfl)) 0 rfl (n := 169) rfl ?_
                refine Vw.iload_n (de_iload_3 (B 169 _ rfl)) 3 rfl (n := 170) rfl ?_
                refine Vw.iload_n (de_iload_2 (B 170 _ rfl)) 2 rfl (n := 171) rfl ?_
                refine Vw.bipush (v := 13) (de_bipush (B 171 _ rfl) (B 172 _ rfl)) rfl (n := 173) rfl ?_
                refine Vw.icmp_ne (tgt := 180) (n := 176) (de_icmp_ne (B 173 _ rfl) (B 174 _ rfl) (B 175 _ rfl)) rfl rfl (fun c_173 => ?_) (fun c_173 => ?_)
                · refine Vw.iconst (v := 2) (de_iconst_2 (B 180 _ rfl)) rfl (n := 181) rfl ?_
                  refine Vw.ivi2 (mi' := mX12_fact) (de_invokevirtual (B 181 _ rfl) (B 182 _ rfl) (B 183 _ rfl)) ml_X12_144 mv_X12_fact hM.k (Nat.le_of_ble_eq_true rfl) (n := 184) rfl (c_X12_fact hM (j := if cd i = 13 then 4 * q + 1 else 4 * q + 2) (by first | (rw [if_pos c_173]; exact (vIx_n (k := 4 * q + 1) (by simp only [nI_A, nI_M, Int32.zero_add, Int32.add_zero] <;> rfl) (by omega))) | (rw [if_neg c_173]; exact (vIx_n (k := 4 * q + 2) (by simp only [nI_A, nI_M, Int32.zero_add, Int32.add_zero] <;> rfl) (by omega)))) ?_)
                  refine Vw.i2l (de_i2l (B 184 _ rfl)) (n := 185) rfl ?_
                  refine Vw.goto_ (n := 204) (de_goto_ (B 185 _ rfl) (B 186 _ rfl) (B 187 _ rfl)) rfl ?_
                  exact Vw.lret (de_lreturn (B 204 _ rfl)) rfl ⟨_, rfl, (by obtain ⟨e1, e2⟩ := ev1 (lv := lv) (b := b) (dn := dn) (nv := nv) (hlv.resolve_left c_95) c_102 hdn; rw [e1, e2] at h; first | (rw [hB1 ((lie_q (by omega) hN.2.2.2.2).mp c_165)]; exact h) | (rw [hB2 (fun z => (lie_q (by omega) hN.2.2.2.2).mpr z c_165)] at h; exact h))⟩
                refine Vw.iconst (v := 1) (de_iconst_1 (B 176 _ rfl)) rfl (n := 177) rfl ?_
                refine Vw.goto_ (n := 181) (de_goto_ (B 177 _ rfl) (B 178 _ rfl) (B 179 _ rfl)) rfl ?_
                refine Vw.ivi2 (mi' := mX12_fact) (de_invokevirtual (B 181 _ rfl) (B 182 _ rfl) (B 183 _ rfl)) ml_X12_144 mv_X12_fact hM.k (Nat.le_of_ble_eq_true rfl) (n := 184) rfl (c_X12_fact hM (j := if cd i = 13 then 4 * q + 1 else 4 * q + 2) (by first | (rw [if_pos c_173]; exact (vIx_n (k := 4 * q + 1) (by simp only [nI_A, nI_M, Int32.zero_add, Int32.add_zero] <;> rfl) (by omega))) | (rw [if_neg c_173]; exact (vIx_n (k := 4 * q + 2) (by simp only [nI_A, nI_M, Int32.zero_add, Int32.add_zero] <;> rfl) (by omega)))) ?_)
                refine Vw.i2l (de_i2l (B 184 _ rfl)) (n := 185) rfl ?_
                refine Vw.goto_ (n := 204) (de_goto_ (B 185 _ rfl) (B 186 _ rfl) (B 187 _ rfl)) rfl ?_
                exact Vw.lret (de_lreturn (B 204 _ rfl)) rfl ⟨_, rfl, (by obtain ⟨e1, e2⟩ := ev1 (lv := lv) (b := b) (dn := dn) (nv := nv) (hlv.resolve_left c_95) c_102 hdn; rw [e1, e2] at h; first | (rw [hB1 ((lie_q (by omega) hN.2.2.2.2).mp c_165)]; exact h) | (rw [hB2 (fun z => (lie_q (by omega) hN.2.2.2.2).mpr z c_165)] at h; exact h))⟩
              exact absurd c_134 (by rw [if_pos h2]; decide)
            exact absurd c_110 (by rcases h3 with h3 | h3 <;> rw [h3] <;> decide)
          refine Vw.lconst (v := 0) (de_lconst_0 (B 105 _ rfl)) rfl (n := 106) rfl ?_
          exact Vw.lret (de_lreturn (B 106 _ rfl)) rfl ⟨_, rfl, (by obtain ⟨e1, e2⟩ := ev0 (lv := lv) (b := b) (dn := dn) (nv := nv) (by first | exact Or.inl c_95 | exact Or.inr c_102); rw [e1, e2] at h; exact h)⟩
        refine Vw.iload_n (de_iload_2 (B 64 _ rfl)) 2 rfl (n := 65) rfl ?_
        refine Vw.bipush (v := 14) (de_bipush (B 65 _ rfl) (B 66 _ rfl)) rfl (n := 67) rfl ?_
        refine Vw.icmp_ne (tgt := 94) (n := 70) (de_icmp_ne (B 67 _ rfl) (B 68 _ rfl) (B 69 _ rfl)) rfl rfl (fun c_67 => ?_) (fun c_67 => ?_)
        · exact absurd h3 (by rintro (z | z); exact c_61 z; exact c_67 z)
        refine Vw.aload_n (de_aload_0 (B 70 _ rfl)) 0 rfl (n := 71) rfl ?_
        refine Vw.getR (de_getfield (B 71 _ rfl) (B 72 _ rfl) (B 73 _ rfl)) fl_X12_24 rfl hM.k (MS_kept hM).1 (n := 74) rfl ?_
        refine Vw.sipush (v := 2953) (de_sipush (B 74 _ rfl) (B 75 _ rfl) (B 76 _ rfl)) rfl (n := 77) rfl ?_
        refine Vw.aload_n (de_aload_0 (B 77 _ rfl)) 0 rfl (n := 78) rfl ?_
        skip
        refine Vw.getI (de_getfield (B 78 _ rfl) (B 79 _ rfl) (B 80 _ rfl)) fl_X12_270 rfl hM.k (n := 81) rfl ?_
        rw [em_g]
        refine Vw.iadd (de_iadd (B 81 _ rfl)) (n := 82) rfl ?_
        refine Vw.iald (de_iaload (B 82 _ rfl)) (MS_kept hM).2 (vIx_n (k := 2953 + (bs + (i + 1))) (by simp only [nI_A, nI_M, Int32.zero_add, Int32.add_zero] <;> rfl) (by omega)) (n := 83) rfl ?_
        rw [hv2]
        refine Vw.istore_n (lv2 := [(0, _), (1, _), (2, _), (3, _)]) (de_istore_3 (B 83 _ rfl)) rfl (by decide) [1, 2, 3, 0] rfl (n := 84) rfl ?_
        refine Vw.aload_n (de_aload_0 (B 84 _ rfl)) 0 rfl (n := 85) rfl ?_
        refine Vw.dup (de_dup (B 85 _ rfl)) rfl (n := 86) rfl ?_
        refine Vw.getI (de_getfield (B 86 _ rfl) (B 87 _ rfl) (B 88 _ rfl)) fl_X12_270 rfl hM.k (n := 89) rfl ?_
        rw [em_g]
        refine Vw.iconst (v := 1) (de_iconst_1 (B 89 _ rfl)) rfl (n := 90) rfl ?_
        refine Vw.iadd (de_iadd (B 90 _ rfl)) (n := 91) rfl ?_
        refine Vw.putI (de_putfield (B 91 _ rfl) (B 92 _ rfl) (B 93 _ rfl)) fl_X12_270 hM.k rfl rfl (n := 94) rfl ?_
        try rw [em_inc]
        refine Vw.iload_n (de_iload_1 (B 94 _ rfl)) 1 rfl (n := 95) rfl ?_
        refine Vw.if_eq (tgt := 105) (n := 98) (de_if_eq (B 95 _ rfl) (B 96 _ rfl) (B 97 _ rfl)) rfl rfl (fun c_95 => ?_) (fun c_95 => ?_)
        · refine Vw.lconst (v := 0) (de_lconst_0 (B 105 _ rfl)) rfl (n := 106) rfl ?_
          exact Vw.lret (de_lreturn (B 106 _ rfl)) rfl ⟨_, rfl, (by obtain ⟨e1, e2⟩ := ev0 (lv := lv) (b := b) (dn := dn) (nv := nv) (by first | exact Or.inl c_95 | exact Or.inr c_102); rw [e1, e2] at h; exact h)⟩
        refine Vw.aload_n (de_aload_0 (B 98 _ rfl)) 0 rfl (n := 99) rfl ?_
        refine Vw.getI (de_getfield (B 99 _ rfl) (B 100 _ rfl) (B 101 _ rfl)) fl_X12_280 rfl hM.k (n := 102) rfl ?_
        rw [em_b]
        refine Vw.if_eq (tgt := 107) (n := 105) (de_if_eq (B 102 _ rfl) (B 103 _ rfl) (B 104 _ rfl)) rfl rfl (fun c_102 => ?_) (fun c_102 => ?_)
        · refine Vw.iload_n (de_iload_2 (B 107 _ rfl)) 2 rfl (n := 108) rfl ?_
          refine Vw.bipush (v := 50) (de_bipush (B 108 _ rfl) (B 109 _ rfl)) rfl (n := 110) rfl ?_
          refine Vw.icmp_ne (tgt := 130) (n := 113) (de_icmp_ne (B 110 _ rfl) (B 111 _ rfl) (B 112 _ rfl)) rfl rfl (fun c_110 => ?_) (fun c_110 => ?_)
          · refine Vw.aload_n (de_aload_0 (B 130 _ rfl)) 0 rfl (n := 131) rfl ?_
            refine Vw.getI (de_getfield (B 131 _ rfl) (B 132 _ rfl) (B 133 _ rfl)) fl_X12_300 rfl hM.k (n := 134) rfl ?_
            rw [h23]
            refine Vw.if_ne (tgt := 148) (n := 137) (de_if_ne (B 134 _ rfl) (B 135 _ rfl) (B 136 _ rfl)) rfl rfl (fun c_134 => ?_) (fun c_134 => ?_)
            · refine Vw.iload_n (de_iload_2 (B 148 _ rfl)) 2 rfl (n := 149) rfl ?_
              refine Vw.bipush (v := 13) (de_bipush (B 149 _ rfl) (B 150 _ rfl)) rfl (n := 151) rfl ?_
              refine Vw.icmp_eq (tgt := 160) (n := 154) (de_icmp_eq (B 151 _ rfl) (B 152 _ rfl) (B 153 _ rfl)) rfl rfl (fun c_151 => ?_) (fun c_151 => ?_)
              · refine Vw.aload_n (de_aload_0 (B 160 _ rfl)) 0 rfl (n := 161) rfl ?_
                refine Vw.iload_n (de_iload_3 (B 161 _ rfl)) 3 rfl (n := 162) rfl ?_
                skip
                refine Vw.ivi1 (mi' := mX12_isPerson) (de_invokevirtual (B 162 _ rfl) (B 163 _ rfl) (B 164 _ rfl)) ml_X12_132 mv_X12_isPerson hM.k (Nat.le_of_ble_eq_true rfl) (n := 165) rfl (c_X12_isPerson hM ?_)
                rw [h142]
                refine Vw.if_eq (tgt := 188) (n := 168) (de_if_eq (B 165 _ rfl) (B 166 _ rfl) (B 167 _ rfl)) rfl rfl (fun c_165 => ?_) (fun c_165 => ?_)
                · refine Vw.ldc2 (de_ldc2_w (B 188 _ rfl) (B 189 _ rfl) (B 190 _ rfl)) kc_X12_303 (n := 191) rfl ?_
                  refine Vw.goto_ (n := 204) (de_goto_ (B 191 _ rfl) (B 192 _ rfl) (B 193 _ rfl)) rfl ?_
                  exact Vw.lret (de_lreturn (B 204 _ rfl)) rfl ⟨_, rfl, (by obtain ⟨e1, e2⟩ := ev1 (lv := lv) (b := b) (dn := dn) (nv := nv) (hlv.resolve_left c_95) c_102 hdn; rw [e1, e2] at h; first | (rw [hB1 ((lie_q (by omega) hN.2.2.2.2).mp c_165)]; exact h) | (rw [hB2 (fun z => (lie_q (by omega) hN.2.2.2.2).mpr z c_165)] at h; exact h))⟩
                refine Vw.aload_n (de_aload_0 (B 168 _ rfl)) 0 rfl (n := 169) rfl ?_
                refine Vw.iload_n (de_iload_3 (B 169 _ rfl)) 3 rfl (n := 170) rfl ?_
                refine Vw.iload_n (de_iload_2 (B 170 _ rfl)) 2 rfl (n := 171) rfl ?_
                refine Vw.bipush (v := 13) (de_bipush (B 171 _ rfl) (B 172 _ rfl)) rfl (n := 173) rfl ?_
                refine Vw.icmp_ne (tgt := 180) (n := 176) (de_icmp_ne (B 173 _ rfl) (B 174 _ rfl) (B 175 _ rfl)) rfl rfl (fun c_173 => ?_) (fun c_173 => ?_)
                · refine Vw.iconst (v := 2) (de_iconst_2 (B 180 _ rfl)) rfl (n := 181) rfl ?_
                  refine Vw.ivi2 (mi' := mX12_fact) (de_invokevirtual (B 181 _ rfl) (B 182 _ rfl) (B 183 _ rfl)) ml_X12_144 mv_X12_fact hM.k (Nat.le_of_ble_eq_true rfl) (n := 184) rfl (c_X12_fact hM (j := if cd i = 13 then 4 * q + 1 else 4 * q + 2) (by first | (rw [if_pos c_173]; exact (vIx_n (k := 4 * q + 1) (by simp only [nI_A, nI_M, Int32.zero_add, Int32.add_zero] <;> rfl) (by omega))) | (rw [if_neg c_173]; exact (vIx_n (k := 4 * q + 2) (by simp only [nI_A, nI_M, Int32.zero_add, Int32.add_zero] <;> rfl) (by omega)))) ?_)
                  refine Vw.i2l (de_i2l (B 184 _ rfl)) (n := 185) rfl ?_
                  refine Vw.goto_ (n := 204) (de_goto_ (B 185 _ rfl) (B 186 _ rfl) (B 187 _ rfl)) rfl ?_
                  exact Vw.lret (de_lreturn (B 204 _ rfl)) rfl ⟨_, rfl, (by obtain ⟨e1, e2⟩ := ev1 (lv := lv) (b := b) (dn := dn) (nv := nv) (hlv.resolve_left c_95) c_102 hdn; rw [e1, e2] at h; first | (rw [hB1 ((lie_q (by omega) hN.2.2.2.2).mp c_165)]; exact h) | (rw [hB2 (fun z => (lie_q (by omega) hN.2.2.2.2).mpr z c_165)] at h; exact h))⟩
                refine Vw.iconst (v := 1) (de_iconst_1 (B 176 _ rfl)) rfl (n := 177) rfl ?_
                refine Vw.goto_ (n := 181) (de_goto_ (B 177 _ rfl) (B 178 _ rfl) (B 179 _ rfl)) rfl ?_
                refine Vw.ivi2 (mi' := mX12_fact) (de_invokevirtual (B 181 _ rfl) (B 182 _ rfl) (B 183 _ rfl)) ml_X12_144 mv_X12_fact hM.k (Nat.le_of_ble_eq_true rfl) (n := 184) rfl (c_X12_fact hM (j := if cd i = 13 then 4 * q + 1 else 4 * q + 2) (by first | (rw [if_pos c_173]; exact (vIx_n (k := 4 * q + 1) (by simp only [nI_A, nI_M, Int32.zero_add, Int32.add_zero] <;> rfl) (by omega))) | (rw [if_neg c_173]; exact (vIx_n (k := 4 * q + 2) (by simp only [nI_A, nI_M, Int32.zero_add, Int32.add_zero] <;> rfl) (by omega)))) ?_)
                refine Vw.i2l (de_i2l (B 184 _ rfl)) (n := 185) rfl ?_
                refine Vw.goto_ (n := 204) (de_goto_ (B 185 _ rfl) (B 186 _ rfl) (B 187 _ rfl)) rfl ?_
                exact Vw.lret (de_lreturn (B 204 _ rfl)) rfl ⟨_, rfl, (by obtain ⟨e1, e2⟩ := ev1 (lv := lv) (b := b) (dn := dn) (nv := nv) (hlv.resolve_left c_95) c_102 hdn; rw [e1, e2] at h; first | (rw [hB1 ((lie_q (by omega) hN.2.2.2.2).mp c_165)]; exact h) | (rw [hB2 (fun z => (lie_q (by omega) hN.2.2.2.2).mpr z c_165)] at h; exact h))⟩
              refine Vw.iload_n (de_iload_2 (B 154 _ rfl)) 2 rfl (n := 155) rfl ?_
              refine Vw.bipush (v := 14) (de_bipush (B 155 _ rfl) (B 156 _ rfl)) rfl (n := 157) rfl ?_
              refine Vw.icmp_ne (tgt := 194) (n := 160) (de_icmp_ne (B 157 _ rfl) (B 158 _ rfl) (B 159 _ rfl)) rfl rfl (fun c_157 => ?_) (fun c_157 => ?_)
              · exact absurd h3 (by rintro (z | z); exact c_151 z; exact c_157 z)
              refine Vw.aload_n (de_aload_0 (B 160 _ rfl)) 0 rfl (n := 161) rfl ?_
              refine Vw.iload_n (de_iload_3 (B 161 _ rfl)) 3 rfl (n := 162) rfl ?_
              skip
              refine Vw.ivi1 (mi' := mX12_isPerson) (de_invokevirtual (B 162 _ rfl) (B 163 _ rfl) (B 164 _ rfl)) ml_X12_132 mv_X12_isPerson hM.k (Nat.le_of_ble_eq_true rfl) (n := 165) rfl (c_X12_isPerson hM ?_)
              rw [h142]
              refine Vw.if_eq (tgt := 188) (n := 168) (de_if_eq (B 165 _ rfl) (B 166 _ rfl) (B 167 _ rfl)) rfl rfl (fun c_165 => ?_) (fun c_165 => ?_)
              · refine Vw.ldc2 (de_ldc2_w (B 188 _ rfl) (B 189 _ rfl) (B 190 _ rfl)) kc_X12_303 (n := 191) rfl ?_
                refine Vw.goto_ (n := 204) (de_goto_ (B 191 _ rfl) (B 192 _ rfl) (B 193 _ rfl)) rfl ?_
                exact Vw.lret (de_lreturn (B 204 _ rfl)) rfl ⟨_, rfl, (by obtain ⟨e1, e2⟩ := ev1 (lv := lv) (b := b) (dn := dn) (nv := nv) (hlv.resolve_left c_95) c_102 hdn; rw [e1, e2] at h; first | (rw [hB1 ((lie_q (by omega) hN.2.2.2.2).mp c_165)]; exact h) | (rw [hB2 (fun z => (lie_q (by omega) hN.2.2.2.2).mpr z c_165)] at h; exact h))⟩
              refine Vw.aload_n (de_aload_0 (B 168 _ rfl)) 0 rfl (n := 169) rfl ?_
              refine Vw.iload_n (de_iload_3 (B 169 _ rfl)) 3 rfl (n := 170) rfl ?_
              refine Vw.iload_n (de_iload_2 (B 170 _ rfl)) 2 rfl (n := 171) rfl ?_
              refine Vw.bipush (v := 13) (de_bipush (B 171 _ rfl) (B 172 _ rfl)) rfl (n := 173) rfl ?_
              refine Vw.icmp_ne (tgt := 180) (n := 176) (de_icmp_ne (B 173 _ rfl) (B 174 _ rfl) (B 175 _ rfl)) rfl rfl (fun c_173 => ?_) (fun c_173 => ?_)
              · refine Vw.iconst (v := 2) (de_iconst_2 (B 180 _ rfl)) rfl (n := 181) rfl ?_
                refine Vw.ivi2 (mi' := mX12_fact) (de_invokevirtual (B 181 _ rfl) (B 182 _ rfl) (B 183 _ rfl)) ml_X12_144 mv_X12_fact hM.k (Nat.le_of_ble_eq_true rfl) (n := 184) rfl (c_X12_fact hM (j := if cd i = 13 then 4 * q + 1 else 4 * q + 2) (by first | (rw [if_pos c_173]; exact (vIx_n (k := 4 * q + 1) (by simp only [nI_A, nI_M, Int32.zero_add, Int32.add_zero] <;> rfl) (by omega))) | (rw [if_neg c_173]; exact (vIx_n (k := 4 * q + 2) (by simp only [nI_A, nI_M, Int32.zero_add, Int32.add_zero] <;> rfl) (by omega)))) ?_)
                refine Vw.i2l (de_i2l (B 184 _ rfl)) (n := 185) rfl ?_
                refine Vw.goto_ (n := 204) (de_goto_ (B 185 _ rfl) (B 186 _ rfl) (B 187 _ rfl)) rfl ?_
                exact Vw.lret (de_lreturn (B 204 _ rfl)) rfl ⟨_, rfl, (by obtain ⟨e1, e2⟩ := ev1 (lv := lv) (b := b) (dn := dn) (nv := nv) (hlv.resolve_left c_95) c_102 hdn; rw [e1, e2] at h; first | (rw [hB1 ((lie_q (by omega) hN.2.2.2.2).mp c_165)]; exact h) | (rw [hB2 (fun z => (lie_q (by omega) hN.2.2.2.2).mpr z c_165)] at h; exact h))⟩
              refine Vw.iconst (v := 1) (de_iconst_1 (B 176 _ rfl)) rfl (n := 177) rfl ?_
              refine Vw.goto_ (n := 181) (de_goto_ (B 177 _ rfl) (B 178 _ rfl) (B 179 _ rfl)) rfl ?_
              refine Vw.ivi2 (mi' := mX12_fact) (de_invokevirtual (B 181 _ rfl) (B 182 _ rfl) (B 183 _ rfl)) ml_X12_144 mv_X12_fact hM.k (Nat.le_of_ble_eq_true rfl) (n := 184) rfl (c_X12_fact hM (j := if cd i = 13 then 4 * q + 1 else 4 * q + 2) (by first | (rw [if_pos c_173]; exact (vIx_n (k := 4 * q + 1) (by simp only [nI_A, nI_M, Int32.zero_add, Int32.add_zero] <;> rfl) (by omega))) | (rw [if_neg c_173]; exact (vIx_n (k := 4 * q + 2) (by simp only [nI_A, nI_M, Int32.zero_add, Int32.add_zero] <;> rfl) (by omega)))) ?_)
              refine Vw.i2l (de_i2l (B 184 _ rfl)) (n := 185) rfl ?_
              refine Vw.goto_ (n := 204) (de_goto_ (B 185 _ rfl) (B 186 _ rfl) (B 187 _ rfl)) rfl ?_
              exact Vw.lret (de_lreturn (B 204 _ rfl)) rfl ⟨_, rfl, (by obtain ⟨e1, e2⟩ := ev1 (lv := lv) (b := b) (dn := dn) (nv := nv) (hlv.resolve_left c_95) c_102 hdn; rw [e1, e2] at h; first | (rw [hB1 ((lie_q (by omega) hN.2.2.2.2).mp c_165)]; exact h) | (rw [hB2 (fun z => (lie_q (by omega) hN.2.2.2.2).mpr z c_165)] at h; exact h))⟩
            exact absurd c_134 (by rw [if_pos h2]; decide)
          exact absurd c_110 (by rcases h3 with h3 | h3 <;> rw [h3] <;> decide)
        refine Vw.lconst (v := 0) (de_lconst_0 (B 105 _ rfl)) rfl (n := 106) rfl ?_
        exact Vw.lret (de_lreturn (B 106 _ rfl)) rfl ⟨_, rfl, (by obtain ⟨e1, e2⟩ := ev0 (lv := lv) (b := b) (dn := dn) (nv := nv) (by first | exact Or.inl c_95 | exact Or.inr c_102); rw [e1, e2] at h; exact h)⟩
      exact absurd rfl c_9
  · subst h4
    have hlt := hE.lt hi (by rw [h3]; decide)
    have hdn : dn nv = some (vl i).toInt64 := by rw [h5]
    have hv2 : ∀ g b2, em I r g b2 (r + 2) (2953 + (bs + i)) = vl i := fun g b2 => by rw [em_o (by omega), show 2953 + (bs + i) = 2953 + bs + i by omega, (hE.1 i hlt).2]
    refine Vw.aload_n (de_aload_0 (B 0 _ rfl)) 0 rfl (n := 1) rfl ?_
    refine Vw.bipush (v := 91) (de_bipush (B 1 _ rfl) (B 2 _ rfl)) rfl (n := 3) rfl ?_
    refine Vw.isi1 (mi' := mX12_sign) (de_invokestatic (B 3 _ rfl) (B 4 _ rfl) (B 5 _ rfl)) ml_X12_239 ms_X12_sign (Nat.le_of_ble_eq_true rfl) (n := 6) rfl (c_X12_sign ?_)
    refine Vw.ivi1 (mi' := mX12_passes0) (de_invokevirtual (B 6 _ rfl) (B 7 _ rfl) (B 8 _ rfl)) ml_X12_294 mv_X12_passes0 hM.k (Nat.le_of_ble_eq_true rfl) (n := 9) rfl (c_X12_passes0 hM hE hi (fun q => absurd q h1) (fun _ => ?_))
    · refine Vw.if_eq (tgt := 30) (n := 12) (de_if_eq (B 9 _ rfl) (B 10 _ rfl) (B 11 _ rfl)) rfl rfl (fun c_9 => ?_) (fun c_9 => ?_)
      · refine Vw.aload_n (de_aload_0 (B 30 _ rfl)) 0 rfl (n := 31) rfl ?_
        refine Vw.aload_n (de_aload_0 (B 31 _ rfl)) 0 rfl (n := 32) rfl ?_
        refine Vw.getI (de_getfield (B 32 _ rfl) (B 33 _ rfl) (B 34 _ rfl)) fl_X12_270 rfl hM.k (n := 35) rfl ?_
        rw [em_g]
        refine Vw.ivi1 (mi' := mX12_codeAt) (de_invokevirtual (B 35 _ rfl) (B 36 _ rfl) (B 37 _ rfl)) ml_X12_273 mv_X12_codeAt hM.k (Nat.le_of_ble_eq_true rfl) (n := 38) rfl (c_X12_codeAt hM hE hi ?_)
        refine Vw.istore_n (lv2 := [(0, _), (1, _), (2, _)]) (de_istore_2 (B 38 _ rfl)) rfl (by decide) [1, 2, 0] rfl (n := 39) rfl ?_
        refine Vw.iconst (v := 0) (de_iconst_0 (B 39 _ rfl)) rfl (n := 40) rfl ?_
        refine Vw.istore_n (lv2 := [(0, _), (1, _), (2, _), (3, _)]) (de_istore_3 (B 40 _ rfl)) rfl (by decide) [1, 2, 3, 0] rfl (n := 41) rfl ?_
        refine Vw.aload_n (de_aload_0 (B 41 _ rfl)) 0 rfl (n := 42) rfl ?_
        refine Vw.dup (de_dup (B 42 _ rfl)) rfl (n := 43) rfl ?_
        refine Vw.getI (de_getfield (B 43 _ rfl) (B 44 _ rfl) (B 45 _ rfl)) fl_X12_270 rfl hM.k (n := 46) rfl ?_
        rw [em_g]
        refine Vw.iconst (v := 1) (de_iconst_1 (B 46 _ rfl)) rfl (n := 47) rfl ?_
        refine Vw.iadd (de_iadd (B 47 _ rfl)) (n := 48) rfl ?_
        refine Vw.putI (de_putfield (B 48 _ rfl) (B 49 _ rfl) (B 50 _ rfl)) fl_X12_270 hM.k rfl rfl (n := 51) rfl ?_
        rw [em_inc]
        refine Vw.aload_n (de_aload_0 (B 51 _ rfl)) 0 rfl (n := 52) rfl ?_
        refine Vw.getI (de_getfield (B 52 _ rfl) (B 53 _ rfl) (B 54 _ rfl)) fl_X12_300 rfl hM.k (n := 55) rfl ?_
        rw [h23]
        refine Vw.if_eq (tgt := 94) (n := 58) (de_if_eq (B 55 _ rfl) (B 56 _ rfl) (B 57 _ rfl)) rfl rfl (fun c_55 => ?_) (fun c_55 => ?_)
        · refine Vw.iload_n (de_iload_1 (B 94 _ rfl)) 1 rfl (n := 95) rfl ?_
          refine Vw.if_eq (tgt := 105) (n := 98) (de_if_eq (B 95 _ rfl) (B 96 _ rfl) (B 97 _ rfl)) rfl rfl (fun c_95 => ?_) (fun c_95 => ?_)
          · refine Vw.lconst (v := 0) (de_lconst_0 (B 105 _ rfl)) rfl (n := 106) rfl ?_
            exact Vw.lret (de_lreturn (B 106 _ rfl)) rfl ⟨_, rfl, (by obtain ⟨e1, e2⟩ := ev0 (lv := lv) (b := b) (dn := dn) (nv := nv) (by first | exact Or.inl c_95 | exact Or.inr c_102); rw [e1, e2] at h; exact h)⟩
          refine Vw.aload_n (de_aload_0 (B 98 _ rfl)) 0 rfl (n := 99) rfl ?_
          refine Vw.getI (de_getfield (B 99 _ rfl) (B 100 _ rfl) (B 101 _ rfl)) fl_X12_280 rfl hM.k (n := 102) rfl ?_
          rw [em_b]
          refine Vw.if_eq (tgt := 107) (n := 105) (de_if_eq (B 102 _ rfl) (B 103 _ rfl) (B 104 _ rfl)) rfl rfl (fun c_102 => ?_) (fun c_102 => ?_)
          · refine Vw.iload_n (de_iload_2 (B 107 _ rfl)) 2 rfl (n := 108) rfl ?_
            refine Vw.bipush (v := 50) (de_bipush (B 108 _ rfl) (B 109 _ rfl)) rfl (n := 110) rfl ?_
            refine Vw.icmp_ne (tgt := 130) (n := 113) (de_icmp_ne (B 110 _ rfl) (B 111 _ rfl) (B 112 _ rfl)) rfl rfl (fun c_110 => ?_) (fun c_110 => ?_)
            · exact absurd h3 c_110
            refine Vw.aload_n (de_aload_0 (B 113 _ rfl)) 0 rfl (n := 114) rfl ?_
            refine Vw.getR (de_getfield (B 114 _ rfl) (B 115 _ rfl) (B 116 _ rfl)) fl_X12_24 rfl hM.k (MS_kept hM).1 (n := 117) rfl ?_
            refine Vw.sipush (v := 2953) (de_sipush (B 117 _ rfl) (B 118 _ rfl) (B 119 _ rfl)) rfl (n := 120) rfl ?_
            refine Vw.aload_n (de_aload_0 (B 120 _ rfl)) 0 rfl (n := 121) rfl ?_
            refine Vw.getI (de_getfield (B 121 _ rfl) (B 122 _ rfl) (B 123 _ rfl)) fl_X12_270 rfl hM.k (n := 124) rfl ?_
            rw [em_g]
            refine Vw.iadd (de_iadd (B 124 _ rfl)) (n := 125) rfl ?_
            refine Vw.iconst (v := 1) (de_iconst_1 (B 125 _ rfl)) rfl (n := 126) rfl ?_
            refine Vw.isub (de_isub (B 126 _ rfl)) (n := 127) rfl ?_
            refine Vw.iald (de_iaload (B 127 _ rfl)) (MS_kept hM).2 (vIx_n (k := 2953 + (bs + i)) (ix_m1 2953 (bs + i)) (by omega)) (n := 128) rfl ?_
            rw [hv2]
            refine Vw.i2l (de_i2l (B 128 _ rfl)) (n := 129) rfl ?_
            exact Vw.lret (de_lreturn (B 129 _ rfl)) rfl ⟨_, rfl, (by obtain ⟨e1, e2⟩ := ev1 (lv := lv) (b := b) (dn := dn) (nv := nv) (hlv.resolve_left c_95) c_102 hdn; rw [e1, e2] at h; exact h)⟩
          refine Vw.lconst (v := 0) (de_lconst_0 (B 105 _ rfl)) rfl (n := 106) rfl ?_
          exact Vw.lret (de_lreturn (B 106 _ rfl)) rfl ⟨_, rfl, (by obtain ⟨e1, e2⟩ := ev0 (lv := lv) (b := b) (dn := dn) (nv := nv) (by first | exact Or.inl c_95 | exact Or.inr c_102); rw [e1, e2] at h; exact h)⟩
        refine Vw.iload_n (de_iload_2 (B 58 _ rfl)) 2 rfl (n := 59) rfl ?_
        refine Vw.bipush (v := 13) (de_bipush (B 59 _ rfl) (B 60 _ rfl)) rfl (n := 61) rfl ?_
        refine Vw.icmp_eq (tgt := 70) (n := 64) (de_icmp_eq (B 61 _ rfl) (B 62 _ rfl) (B 63 _ rfl)) rfl rfl (fun c_61 => ?_) (fun c_61 => ?_)
        · exact absurd (h3.symm.trans c_61) (by decide)
        refine Vw.iload_n (de_iload_2 (B 64 _ rfl)) 2 rfl (n := 65) rfl ?_
        refine Vw.bipush (v := 14) (de_bipush (B 65 _ rfl) (B 66 _ rfl)) rfl (n := 67) rfl ?_
        refine Vw.icmp_ne (tgt := 94) (n := 70) (de_icmp_ne (B 67 _ rfl) (B 68 _ rfl) (B 69 _ rfl)) rfl rfl (fun c_67 => ?_) (fun c_67 => ?_)
        · refine Vw.iload_n (de_iload_1 (B 94 _ rfl)) 1 rfl (n := 95) rfl ?_
          refine Vw.if_eq (tgt := 105) (n := 98) (de_if_eq (B 95 _ rfl) (B 96 _ rfl) (B 97 _ rfl)) rfl rfl (fun c_95 => ?_) (fun c_95 => ?_)
          · refine Vw.lconst (v := 0) (de_lconst_0 (B 105 _ rfl)) rfl (n := 106) rfl ?_
            exact Vw.lret (de_lreturn (B 106 _ rfl)) rfl ⟨_, rfl, (by obtain ⟨e1, e2⟩ := ev0 (lv := lv) (b := b) (dn := dn) (nv := nv) (by first | exact Or.inl c_95 | exact Or.inr c_102); rw [e1, e2] at h; exact h)⟩
          refine Vw.aload_n (de_aload_0 (B 98 _ rfl)) 0 rfl (n := 99) rfl ?_
          refine Vw.getI (de_getfield (B 99 _ rfl) (B 100 _ rfl) (B 101 _ rfl)) fl_X12_280 rfl hM.k (n := 102) rfl ?_
          rw [em_b]
          refine Vw.if_eq (tgt := 107) (n := 105) (de_if_eq (B 102 _ rfl) (B 103 _ rfl) (B 104 _ rfl)) rfl rfl (fun c_102 => ?_) (fun c_102 => ?_)
          · refine Vw.iload_n (de_iload_2 (B 107 _ rfl)) 2 rfl (n := 108) rfl ?_
            refine Vw.bipush (v := 50) (de_bipush (B 108 _ rfl) (B 109 _ rfl)) rfl (n := 110) rfl ?_
            refine Vw.icmp_ne (tgt := 130) (n := 113) (de_icmp_ne (B 110 _ rfl) (B 111 _ rfl) (B 112 _ rfl)) rfl rfl (fun c_110 => ?_) (fun c_110 => ?_)
            · exact absurd h3 c_110
            refine Vw.aload_n (de_aload_0 (B 113 _ rfl)) 0 rfl (n := 114) rfl ?_
            refine Vw.getR (de_getfield (B 114 _ rfl) (B 115 _ rfl) (B 116 _ rfl)) fl_X12_24 rfl hM.k (MS_kept hM).1 (n := 117) rfl ?_
            refine Vw.sipush (v := 2953) (de_sipush (B 117 _ rfl) (B 118 _ rfl) (B 119 _ rfl)) rfl (n := 120) rfl ?_
            refine Vw.aload_n (de_aload_0 (B 120 _ rfl)) 0 rfl (n := 121) rfl ?_
            refine Vw.getI (de_getfield (B 121 _ rfl) (B 122 _ rfl) (B 123 _ rfl)) fl_X12_270 rfl hM.k (n := 124) rfl ?_
            rw [em_g]
            refine Vw.iadd (de_iadd (B 124 _ rfl)) (n := 125) rfl ?_
            refine Vw.iconst (v := 1) (de_iconst_1 (B 125 _ rfl)) rfl (n := 126) rfl ?_
            refine Vw.isub (de_isub (B 126 _ rfl)) (n := 127) rfl ?_
            refine Vw.iald (de_iaload (B 127 _ rfl)) (MS_kept hM).2 (vIx_n (k := 2953 + (bs + i)) (ix_m1 2953 (bs + i)) (by omega)) (n := 128) rfl ?_
            rw [hv2]
            refine Vw.i2l (de_i2l (B 128 _ rfl)) (n := 129) rfl ?_
            exact Vw.lret (de_lreturn (B 129 _ rfl)) rfl ⟨_, rfl, (by obtain ⟨e1, e2⟩ := ev1 (lv := lv) (b := b) (dn := dn) (nv := nv) (hlv.resolve_left c_95) c_102 hdn; rw [e1, e2] at h; exact h)⟩
          refine Vw.lconst (v := 0) (de_lconst_0 (B 105 _ rfl)) rfl (n := 106) rfl ?_
          exact Vw.lret (de_lreturn (B 106 _ rfl)) rfl ⟨_, rfl, (by obtain ⟨e1, e2⟩ := ev0 (lv := lv) (b := b) (dn := dn) (nv := nv) (by first | exact Or.inl c_95 | exact Or.inr c_102); rw [e1, e2] at h; exact h)⟩
        exact absurd (h3.symm.trans c_67) (by decide)
      exact absurd rfl c_9
  · subst h5
    have hlt := hE.lt hi (isVal_0 h4)
    have hdn : dn nv = some (nv (wIx o (cd i))).toInt64 := by rw [h6]
    cases o with
    | false =>
      have h4 : ¬ zLie (cd i) 10 17 = 0 := by simpa [isVal] using h4
      obtain ⟨q, hq, hcq, hcs⟩ := zLie_ix (a := 10) (n := 7) h4 rfl rfl (by decide)
      have hw : nv (wIx false (cd i)) = I (r + 12) q := by
        rw [hN.2.1 rfl _ (by show (cd i - 10).toNatClampNeg < 8; rw [show cd i - 10 = nI q from hcs, nI_cl (by omega)]; omega)]
        show I (r + 12) (cd i - 10).toNatClampNeg = _
        rw [show cd i - 10 = nI q from hcs, nI_cl (by omega)]
      refine Vw.aload_n (de_aload_0 (B 0 _ rfl)) 0 rfl (n := 1) rfl ?_
      refine Vw.bipush (v := 91) (de_bipush (B 1 _ rfl) (B 2 _ rfl)) rfl (n := 3) rfl ?_
      refine Vw.isi1 (mi' := mX12_sign) (de_invokestatic (B 3 _ rfl) (B 4 _ rfl) (B 5 _ rfl)) ml_X12_239 ms_X12_sign (Nat.le_of_ble_eq_true rfl) (n := 6) rfl (c_X12_sign ?_)
      refine Vw.ivi1 (mi' := mX12_passes0) (de_invokevirtual (B 6 _ rfl) (B 7 _ rfl) (B 8 _ rfl)) ml_X12_294 mv_X12_passes0 hM.k (Nat.le_of_ble_eq_true rfl) (n := 9) rfl (c_X12_passes0 hM hE hi (fun q => absurd q h1) (fun _ => ?_))
      · refine Vw.if_eq (tgt := 30) (n := 12) (de_if_eq (B 9 _ rfl) (B 10 _ rfl) (B 11 _ rfl)) rfl rfl (fun c_9 => ?_) (fun c_9 => ?_)
        · refine Vw.aload_n (de_aload_0 (B 30 _ rfl)) 0 rfl (n := 31) rfl ?_
          refine Vw.aload_n (de_aload_0 (B 31 _ rfl)) 0 rfl (n := 32) rfl ?_
          refine Vw.getI (de_getfield (B 32 _ rfl) (B 33 _ rfl) (B 34 _ rfl)) fl_X12_270 rfl hM.k (n := 35) rfl ?_
          rw [em_g]
          refine Vw.ivi1 (mi' := mX12_codeAt) (de_invokevirtual (B 35 _ rfl) (B 36 _ rfl) (B 37 _ rfl)) ml_X12_273 mv_X12_codeAt hM.k (Nat.le_of_ble_eq_true rfl) (n := 38) rfl (c_X12_codeAt hM hE hi ?_)
          refine Vw.istore_n (lv2 := [(0, _), (1, _), (2, _)]) (de_istore_2 (B 38 _ rfl)) rfl (by decide) [1, 2, 0] rfl (n := 39) rfl ?_
          refine Vw.iconst (v := 0) (de_iconst_0 (B 39 _ rfl)) rfl (n := 40) rfl ?_
          refine Vw.istore_n (lv2 := [(0, _), (1, _), (2, _), (3, _)]) (de_istore_3 (B 40 _ rfl)) rfl (by decide) [1, 2, 3, 0] rfl (n := 41) rfl ?_
          refine Vw.aload_n (de_aload_0 (B 41 _ rfl)) 0 rfl (n := 42) rfl ?_
          refine Vw.dup (de_dup (B 42 _ rfl)) rfl (n := 43) rfl ?_
          refine Vw.getI (de_getfield (B 43 _ rfl) (B 44 _ rfl) (B 45 _ rfl)) fl_X12_270 rfl hM.k (n := 46) rfl ?_
          rw [em_g]
          refine Vw.iconst (v := 1) (de_iconst_1 (B 46 _ rfl)) rfl (n := 47) rfl ?_
          refine Vw.iadd (de_iadd (B 47 _ rfl)) (n := 48) rfl ?_
          refine Vw.putI (de_putfield (B 48 _ rfl) (B 49 _ rfl) (B 50 _ rfl)) fl_X12_270 hM.k rfl rfl (n := 51) rfl ?_
          rw [em_inc]
          refine Vw.aload_n (de_aload_0 (B 51 _ rfl)) 0 rfl (n := 52) rfl ?_
          refine Vw.getI (de_getfield (B 52 _ rfl) (B 53 _ rfl) (B 54 _ rfl)) fl_X12_300 rfl hM.k (n := 55) rfl ?_
          rw [h23]
          refine Vw.if_eq (tgt := 94) (n := 58) (de_if_eq (B 55 _ rfl) (B 56 _ rfl) (B 57 _ rfl)) rfl rfl (fun c_55 => ?_) (fun c_55 => ?_)
          · refine Vw.iload_n (de_iload_1 (B 94 _ rfl)) 1 rfl (n := 95) rfl ?_
            refine Vw.if_eq (tgt := 105) (n := 98) (de_if_eq (B 95 _ rfl) (B 96 _ rfl) (B 97 _ rfl)) rfl rfl (fun c_95 => ?_) (fun c_95 => ?_)
            · refine Vw.lconst (v := 0) (de_lconst_0 (B 105 _ rfl)) rfl (n := 106) rfl ?_
              exact Vw.lret (de_lreturn (B 106 _ rfl)) rfl ⟨_, rfl, (by obtain ⟨e1, e2⟩ := ev0 (lv := lv) (b := b) (dn := dn) (nv := nv) (by first | exact Or.inl c_95 | exact Or.inr c_102); rw [e1, e2] at h; exact h)⟩
            refine Vw.aload_n (de_aload_0 (B 98 _ rfl)) 0 rfl (n := 99) rfl ?_
            refine Vw.getI (de_getfield (B 99 _ rfl) (B 100 _ rfl) (B 101 _ rfl)) fl_X12_280 rfl hM.k (n := 102) rfl ?_
            rw [em_b]
            refine Vw.if_eq (tgt := 107) (n := 105) (de_if_eq (B 102 _ rfl) (B 103 _ rfl) (B 104 _ rfl)) rfl rfl (fun c_102 => ?_) (fun c_102 => ?_)
            · refine Vw.iload_n (de_iload_2 (B 107 _ rfl)) 2 rfl (n := 108) rfl ?_
              refine Vw.bipush (v := 50) (de_bipush (B 108 _ rfl) (B 109 _ rfl)) rfl (n := 110) rfl ?_
              refine Vw.icmp_ne (tgt := 130) (n := 113) (de_icmp_ne (B 110 _ rfl) (B 111 _ rfl) (B 112 _ rfl)) rfl rfl (fun c_110 => ?_) (fun c_110 => ?_)
              · refine Vw.aload_n (de_aload_0 (B 130 _ rfl)) 0 rfl (n := 131) rfl ?_
                refine Vw.getI (de_getfield (B 131 _ rfl) (B 132 _ rfl) (B 133 _ rfl)) fl_X12_300 rfl hM.k (n := 134) rfl ?_
                rw [h23]
                refine Vw.if_ne (tgt := 148) (n := 137) (de_if_ne (B 134 _ rfl) (B 135 _ rfl) (B 136 _ rfl)) rfl rfl (fun c_134 => ?_) (fun c_134 => ?_)
                · exact absurd rfl c_134
                refine Vw.aload_n (de_aload_0 (B 137 _ rfl)) 0 rfl (n := 138) rfl ?_
                refine Vw.getR (de_getfield (B 138 _ rfl) (B 139 _ rfl) (B 140 _ rfl)) fl_X12_59 rfl hM.k (MS_asked hM).1 (n := 141) rfl ?_
                refine Vw.iload_n (de_iload_2 (B 141 _ rfl)) 2 rfl (n := 142) rfl ?_
                refine Vw.bipush (v := 10) (de_bipush (B 142 _ rfl) (B 143 _ rfl)) rfl (n := 144) rfl ?_
                refine Vw.isub (de_isub (B 144 _ rfl)) (n := 145) rfl ?_
                refine Vw.iald (de_iaload (B 145 _ rfl)) (MS_asked hM).2 (vIx_n (k := q) hcs (by omega)) (n := 146) rfl ?_
                rw [em_o (by omega)]
                refine Vw.i2l (de_i2l (B 146 _ rfl)) (n := 147) rfl ?_
                exact Vw.lret (de_lreturn (B 147 _ rfl)) rfl ⟨_, rfl, (by obtain ⟨e1, e2⟩ := ev1 (lv := lv) (b := b) (dn := dn) (nv := nv) (hlv.resolve_left c_95) c_102 hdn; rw [e1, e2, hw] at h; exact h)⟩
              exact absurd c_110 h3
            refine Vw.lconst (v := 0) (de_lconst_0 (B 105 _ rfl)) rfl (n := 106) rfl ?_
            exact Vw.lret (de_lreturn (B 106 _ rfl)) rfl ⟨_, rfl, (by obtain ⟨e1, e2⟩ := ev0 (lv := lv) (b := b) (dn := dn) (nv := nv) (by first | exact Or.inl c_95 | exact Or.inr c_102); rw [e1, e2] at h; exact h)⟩
          exact absurd rfl c_55
        exact absurd rfl c_9
    | true =>
      have h13 : ¬ cd i = 13 := fun z => h2 ⟨rfl, Or.inl z⟩
      have h14 : ¬ cd i = 14 := fun z => h2 ⟨rfl, Or.inr z⟩
      have h4 : ¬ zLie (cd i) 18 20 = 0 := by simpa [isVal, h13, h14] using h4
      obtain ⟨q, hq, hcq, hcs⟩ := zLie_ix (a := 18) (n := 2) h4 rfl rfl (by decide)
      have hw : nv (wIx true (cd i)) = I (r + 13) q := by
        rw [(hN.2.2.1 rfl).1 _ (by show (cd i - 18).toNatClampNeg < 3; rw [show cd i - 18 = nI q from hcs, nI_cl (by omega)]; omega)]
        show I (r + 13) (cd i - 18).toNatClampNeg = _
        rw [show cd i - 18 = nI q from hcs, nI_cl (by omega)]
      refine Vw.aload_n (de_aload_0 (B 0 _ rfl)) 0 rfl (n := 1) rfl ?_
      refine Vw.bipush (v := 91) (de_bipush (B 1 _ rfl) (B 2 _ rfl)) rfl (n := 3) rfl ?_
      refine Vw.isi1 (mi' := mX12_sign) (de_invokestatic (B 3 _ rfl) (B 4 _ rfl) (B 5 _ rfl)) ml_X12_239 ms_X12_sign (Nat.le_of_ble_eq_true rfl) (n := 6) rfl (c_X12_sign ?_)
      refine Vw.ivi1 (mi' := mX12_passes0) (de_invokevirtual (B 6 _ rfl) (B 7 _ rfl) (B 8 _ rfl)) ml_X12_294 mv_X12_passes0 hM.k (Nat.le_of_ble_eq_true rfl) (n := 9) rfl (c_X12_passes0 hM hE hi (fun q => absurd q h1) (fun _ => ?_))
      · refine Vw.if_eq (tgt := 30) (n := 12) (de_if_eq (B 9 _ rfl) (B 10 _ rfl) (B 11 _ rfl)) rfl rfl (fun c_9 => ?_) (fun c_9 => ?_)
        · refine Vw.aload_n (de_aload_0 (B 30 _ rfl)) 0 rfl (n := 31) rfl ?_
          refine Vw.aload_n (de_aload_0 (B 31 _ rfl)) 0 rfl (n := 32) rfl ?_
          refine Vw.getI (de_getfield (B 32 _ rfl) (B 33 _ rfl) (B 34 _ rfl)) fl_X12_270 rfl hM.k (n := 35) rfl ?_
          rw [em_g]
          refine Vw.ivi1 (mi' := mX12_codeAt) (de_invokevirtual (B 35 _ rfl) (B 36 _ rfl) (B 37 _ rfl)) ml_X12_273 mv_X12_codeAt hM.k (Nat.le_of_ble_eq_true rfl) (n := 38) rfl (c_X12_codeAt hM hE hi ?_)
          refine Vw.istore_n (lv2 := [(0, _), (1, _), (2, _)]) (de_istore_2 (B 38 _ rfl)) rfl (by decide) [1, 2, 0] rfl (n := 39) rfl ?_
          refine Vw.iconst (v := 0) (de_iconst_0 (B 39 _ rfl)) rfl (n := 40) rfl ?_
          refine Vw.istore_n (lv2 := [(0, _), (1, _), (2, _), (3, _)]) (de_istore_3 (B 40 _ rfl)) rfl (by decide) [1, 2, 3, 0] rfl (n := 41) rfl ?_
          refine Vw.aload_n (de_aload_0 (B 41 _ rfl)) 0 rfl (n := 42) rfl ?_
          refine Vw.dup (de_dup (B 42 _ rfl)) rfl (n := 43) rfl ?_
          refine Vw.getI (de_getfield (B 43 _ rfl) (B 44 _ rfl) (B 45 _ rfl)) fl_X12_270 rfl hM.k (n := 46) rfl ?_
          rw [em_g]
          refine Vw.iconst (v := 1) (de_iconst_1 (B 46 _ rfl)) rfl (n := 47) rfl ?_
          refine Vw.iadd (de_iadd (B 47 _ rfl)) (n := 48) rfl ?_
          refine Vw.putI (de_putfield (B 48 _ rfl) (B 49 _ rfl) (B 50 _ rfl)) fl_X12_270 hM.k rfl rfl (n := 51) rfl ?_
          rw [em_inc]
          refine Vw.aload_n (de_aload_0 (B 51 _ rfl)) 0 rfl (n := 52) rfl ?_
          refine Vw.getI (de_getfield (B 52 _ rfl) (B 53 _ rfl) (B 54 _ rfl)) fl_X12_300 rfl hM.k (n := 55) rfl ?_
          rw [h23]
          refine Vw.if_eq (tgt := 94) (n := 58) (de_if_eq (B 55 _ rfl) (B 56 _ rfl) (B 57 _ rfl)) rfl rfl (fun c_55 => ?_) (fun c_55 => ?_)
          · exact absurd c_55 (by decide)
          refine Vw.iload_n (de_iload_2 (B 58 _ rfl)) 2 rfl (n := 59) rfl ?_
          refine Vw.bipush (v := 13) (de_bipush (B 59 _ rfl) (B 60 _ rfl)) rfl (n := 61) rfl ?_
          refine Vw.icmp_eq (tgt := 70) (n := 64) (de_icmp_eq (B 61 _ rfl) (B 62 _ rfl) (B 63 _ rfl)) rfl rfl (fun c_61 => ?_) (fun c_61 => ?_)
          · exact absurd c_61 h13
          refine Vw.iload_n (de_iload_2 (B 64 _ rfl)) 2 rfl (n := 65) rfl ?_
          refine Vw.bipush (v := 14) (de_bipush (B 65 _ rfl) (B 66 _ rfl)) rfl (n := 67) rfl ?_
          refine Vw.icmp_ne (tgt := 94) (n := 70) (de_icmp_ne (B 67 _ rfl) (B 68 _ rfl) (B 69 _ rfl)) rfl rfl (fun c_67 => ?_) (fun c_67 => ?_)
          · refine Vw.iload_n (de_iload_1 (B 94 _ rfl)) 1 rfl (n := 95) rfl ?_
            refine Vw.if_eq (tgt := 105) (n := 98) (de_if_eq (B 95 _ rfl) (B 96 _ rfl) (B 97 _ rfl)) rfl rfl (fun c_95 => ?_) (fun c_95 => ?_)
            · refine Vw.lconst (v := 0) (de_lconst_0 (B 105 _ rfl)) rfl (n := 106) rfl ?_
              exact Vw.lret (de_lreturn (B 106 _ rfl)) rfl ⟨_, rfl, (by obtain ⟨e1, e2⟩ := ev0 (lv := lv) (b := b) (dn := dn) (nv := nv) (by first | exact Or.inl c_95 | exact Or.inr c_102); rw [e1, e2] at h; exact h)⟩
            refine Vw.aload_n (de_aload_0 (B 98 _ rfl)) 0 rfl (n := 99) rfl ?_
            refine Vw.getI (de_getfield (B 99 _ rfl) (B 100 _ rfl) (B 101 _ rfl)) fl_X12_280 rfl hM.k (n := 102) rfl ?_
            rw [em_b]
            refine Vw.if_eq (tgt := 107) (n := 105) (de_if_eq (B 102 _ rfl) (B 103 _ rfl) (B 104 _ rfl)) rfl rfl (fun c_102 => ?_) (fun c_102 => ?_)
            · refine Vw.iload_n (de_iload_2 (B 107 _ rfl)) 2 rfl (n := 108) rfl ?_
              refine Vw.bipush (v := 50) (de_bipush (B 108 _ rfl) (B 109 _ rfl)) rfl (n := 110) rfl ?_
              refine Vw.icmp_ne (tgt := 130) (n := 113) (de_icmp_ne (B 110 _ rfl) (B 111 _ rfl) (B 112 _ rfl)) rfl rfl (fun c_110 => ?_) (fun c_110 => ?_)
              · refine Vw.aload_n (de_aload_0 (B 130 _ rfl)) 0 rfl (n := 131) rfl ?_
                refine Vw.getI (de_getfield (B 131 _ rfl) (B 132 _ rfl) (B 133 _ rfl)) fl_X12_300 rfl hM.k (n := 134) rfl ?_
                rw [h23]
                refine Vw.if_ne (tgt := 148) (n := 137) (de_if_ne (B 134 _ rfl) (B 135 _ rfl) (B 136 _ rfl)) rfl rfl (fun c_134 => ?_) (fun c_134 => ?_)
                · refine Vw.iload_n (de_iload_2 (B 148 _ rfl)) 2 rfl (n := 149) rfl ?_
                  refine Vw.bipush (v := 13) (de_bipush (B 149 _ rfl) (B 150 _ rfl)) rfl (n := 151) rfl ?_
                  refine Vw.icmp_eq (tgt := 160) (n := 154) (de_icmp_eq (B 151 _ rfl) (B 152 _ rfl) (B 153 _ rfl)) rfl rfl (fun c_151 => ?_) (fun c_151 => ?_)
                  · exact absurd c_151 h13
                  refine Vw.iload_n (de_iload_2 (B 154 _ rfl)) 2 rfl (n := 155) rfl ?_
                  refine Vw.bipush (v := 14) (de_bipush (B 155 _ rfl) (B 156 _ rfl)) rfl (n := 157) rfl ?_
                  refine Vw.icmp_ne (tgt := 194) (n := 160) (de_icmp_ne (B 157 _ rfl) (B 158 _ rfl) (B 159 _ rfl)) rfl rfl (fun c_157 => ?_) (fun c_157 => ?_)
                  · refine Vw.aload_n (de_aload_0 (B 194 _ rfl)) 0 rfl (n := 195) rfl ?_
                    refine Vw.getR (de_getfield (B 195 _ rfl) (B 196 _ rfl) (B 197 _ rfl)) fl_X12_62 rfl hM.k (MS_orderValues hM).1 (n := 198) rfl ?_
                    refine Vw.iload_n (de_iload_2 (B 198 _ rfl)) 2 rfl (n := 199) rfl ?_
                    refine Vw.bipush (v := 18) (de_bipush (B 199 _ rfl) (B 200 _ rfl)) rfl (n := 201) rfl ?_
                    refine Vw.isub (de_isub (B 201 _ rfl)) (n := 202) rfl ?_
                    refine Vw.iald (de_iaload (B 202 _ rfl)) (MS_orderValues hM).2 (vIx_n (k := q) hcs (by omega)) (n := 203) rfl ?_
                    rw [em_o (by omega)]
                    refine Vw.i2l (de_i2l (B 203 _ rfl)) (n := 204) rfl ?_
                    exact Vw.lret (de_lreturn (B 204 _ rfl)) rfl ⟨_, rfl, (by obtain ⟨e1, e2⟩ := ev1 (lv := lv) (b := b) (dn := dn) (nv := nv) (hlv.resolve_left c_95) c_102 hdn; rw [e1, e2, hw] at h; exact h)⟩
                  exact absurd c_157 h14
                exact absurd c_134 (by decide)
              exact absurd c_110 h3
            refine Vw.lconst (v := 0) (de_lconst_0 (B 105 _ rfl)) rfl (n := 106) rfl ?_
            exact Vw.lret (de_lreturn (B 106 _ rfl)) rfl ⟨_, rfl, (by obtain ⟨e1, e2⟩ := ev0 (lv := lv) (b := b) (dn := dn) (nv := nv) (by first | exact Or.inl c_95 | exact Or.inr c_102); rw [e1, e2] at h; exact h)⟩
          exact absurd c_67 h14
        exact absurd rfl c_9
theorem ec_partS {D : Nat} {P : (Nat → Int32) → (Nat → Int32) → Bool → Nat → Nat → tR tD} (hB : ∀ cd vl o nt, cd nt = 0 → Bd nt (P cd vl o)) (hS : EC mX12_sumOf (D + 2) P) : EC mX12_partOf (D + 3) (fun cd vl o => pPart cd vl o (some (P cd vl o))) := by
  intro d S I L Q r bs nt np cd vl o nv i l j l2 dn lv b hM hE hN hi hP hlv hb h
  refine Vc.of rfl (Nat.le_of_ble_eq_true rfl) ?_
  have B := bs_X12_partOf
  show Vw mX12_partOf (d + (D + 3)) 0 0 0 0 (VlQ Q) 0 [(0, .ref r), (1, .int lv)] [] S (em I r (nI (bs + i)) b) L
  have hE2 := hE.2.2
  have h23 : ∀ g b2, em I r g b2 r 23 = if o = true then 1 else 0 := fun g b2 => by rw [em_k (by decide) (by decide)]; exact hN.1
  rcases pPart_inv hP with ⟨h1, f, j0, hf, h3, h4, h5⟩ | ⟨h1, h2, h3, h4, h5, h6, h7⟩ | ⟨h1, h2, h3, h4, h5⟩ | ⟨h1, h2, h3, h4, h5, h6⟩
  · cases hf
    subst h5
    have hlt := hE.lt hi (by rw [h1]; decide)
    have hjb := hB cd vl o nt hE.2.1 _ _ _ _ _ hlt h3
    refine Vw.aload_n (de_aload_0 (B 0 _ rfl)) 0 rfl (n := 1) rfl ?_
    refine Vw.bipush (v := 91) (de_bipush (B 1 _ rfl) (B 2 _ rfl)) rfl (n := 3) rfl ?_
    refine Vw.isi1 (mi' := mX12_sign) (de_invokestatic (B 3 _ rfl) (B 4 _ rfl) (B 5 _ rfl)) ml_X12_239 ms_X12_sign (Nat.le_of_ble_eq_true rfl) (n := 6) rfl (c_X12_sign ?_)
    rw [show (100 + 91 : Int32) = 191 from rfl]
    refine Vw.ivi1 (mi' := mX12_passes0) (de_invokevirtual (B 6 _ rfl) (B 7 _ rfl) (B 8 _ rfl)) ml_X12_294 mv_X12_passes0 hM.k (Nat.le_of_ble_eq_true rfl) (n := 9) rfl (c_X12_passes0 hM hE hi (fun _ => ?_) (fun q => absurd h1 q))
    · refine Vw.if_eq (tgt := 30) (n := 12) (de_if_eq (B 9 _ rfl) (B 10 _ rfl) (B 11 _ rfl)) rfl rfl (fun c_9 => ?_) (fun c_9 => ?_)
      · exact absurd c_9 (by decide)
      refine Vw.aload_n (de_aload_0 (B 12 _ rfl)) 0 rfl (n := 13) rfl ?_
      refine Vw.iload_n (de_iload_1 (B 13 _ rfl)) 1 rfl (n := 14) rfl ?_
      refine Vw.ivl1 (mi' := mX12_sumOf) (de_invokevirtual (B 14 _ rfl) (B 15 _ rfl) (B 16 _ rfl)) ml_X12_297 mv_X12_sumOf hM.k (Nat.le_of_ble_eq_true rfl) (n := 17) rfl (hS _ _ _ _ _ _ _ _ _ _ _ _ _ _ _ _ _ _ _ _ hM hE hN hlt h3 hlv hb ?_)
      · refine Vw.lstore_n (lv2 := [(0, _), (1, _), (2, _)]) (de_lstore_2 (B 17 _ rfl)) rfl (by decide) [1, 2, 0] rfl (n := 18) rfl ?_
        refine Vw.aload_n (de_aload_0 (B 18 _ rfl)) 0 rfl (n := 19) rfl ?_
        refine Vw.dup (de_dup (B 19 _ rfl)) rfl (n := 20) rfl ?_
        refine Vw.getI (de_getfield (B 20 _ rfl) (B 21 _ rfl) (B 22 _ rfl)) fl_X12_270 rfl hM.k (n := 23) rfl ?_
        rw [em_g]
        refine Vw.iconst (v := 1) (de_iconst_1 (B 23 _ rfl)) rfl (n := 24) rfl ?_
        refine Vw.iadd (de_iadd (B 24 _ rfl)) (n := 25) rfl ?_
        refine Vw.putI (de_putfield (B 25 _ rfl) (B 26 _ rfl) (B 27 _ rfl)) fl_X12_270 hM.k rfl rfl (n := 28) rfl ?_
        refine Vw.lload_n (de_lload_2 (B 28 _ rfl)) 2 rfl (n := 29) rfl ?_
        exact Vw.lret (de_lreturn (B 29 _ rfl)) rfl ⟨_, rfl, (by rw [em_inc]; exact h)⟩
  · subst h6
    have hlt := hE.lt hi (by rcases h3 with h3 | h3 <;> rw [h3] <;> decide)
    have hlt2 := hE.lt hlt (by rw [h4]; decide)
    obtain ⟨q, hq, hvq, -⟩ := zLie_ix (a := 0) (n := 7) h5 rfl rfl (by decide)
    rw [Nat.zero_add] at hvq
    have hdn : dn nv = some (nv ((if cd i = 13 then 3 else 11) + q)).toInt64 := by rw [h7, hvq, nI_cl (by omega)]
    have hv2 : ∀ g b2, em I r g b2 (r + 2) (2953 + (bs + (i + 1))) = nI q := fun g b2 => by rw [em_o (by omega), show 2953 + (bs + (i + 1)) = 2953 + bs + (i + 1) by omega, (hE.1 (i + 1) hlt2).2]; exact hvq
    have h142 : ∀ g b2, em I r g b2 (r + 2) 142 = nI np := fun g b2 => by rw [em_o (by omega)]; exact hN.2.2.2.1
    have hnv := (hN.2.2.1 h2).2 q (by omega)
    have hB1 : q < np → ∀ g b2, em I r g b2 (r + 2) (if cd i = 13 then 4 * q + 1 else 4 * q + 2) = nv ((if cd i = 13 then 3 else 11) + q) := by
      intro hqn g b2
      rw [em_o (by omega)]
      rw [if_pos hqn, if_pos hqn] at hnv
      by_cases hc : cd i = 13
      · rw [if_pos hc, if_pos hc]; exact hnv.1.symm
      · rw [if_neg hc, if_neg hc]; exact hnv.2.symm
    have hB2 : ¬ q < np → nv ((if cd i = 13 then 3 else 11) + q) = -1 := by
      intro hqn
      rw [if_neg hqn, if_neg hqn] at hnv
      by_cases hc : cd i = 13
      · rw [if_pos hc]; exact hnv.1
      · rw [if_neg hc]; exact hnv.2
    refine Vw.aload_n (de_aload_0 (B 0 _ rfl)) 0 rfl (n := 1) rfl ?_
    refine Vw.bipush (v := 91) (de_bipush (B 1 _ rfl) (B 2 _ rfl)) rfl (n := 3) rfl ?_
    refine Vw.isi1 (mi' := mX12_sign) (de_invokestatic (B 3 _ rfl) (B 4 _ rfl) (B 5 _ rfl)) ml_X12_239 ms_X12_sign (Nat.le_of_ble_eq_true rfl) (n := 6) rfl (c_X12_sign ?_)
    refine Vw.ivi1 (mi' := mX12_passes0) (de_invokevirtual (B 6 _ rfl) (B 7 _ rfl) (B 8 _ rfl)) ml_X12_294 mv_X12_passes0 hM.k (Nat.le_of_ble_eq_true rfl) (n := 9) rfl (c_X12_passes0 hM hE hi (fun q => absurd q h1) (fun _ => ?_))
    · refine Vw.if_eq (tgt := 30) (n := 12) (de_if_eq (B 9 _ rfl) (B 10 _ rfl) (B 11 _ rfl)) rfl rfl (fun c_9 => ?_) (fun c_9 => ?_)
      · refine Vw.aload_n (de_aload_0 (B 30 _ rfl)) 0 rfl (n := 31) rfl ?_
        refine Vw.aload_n (de_aload_0 (B 31 _ rfl)) 0 rfl (n := 32) rfl ?_
        refine Vw.getI (de_getfield (B 32 _ rfl) (B 33 _ rfl) (B 34 _ rfl)) fl_X12_270 rfl hM.k (n := 35) rfl ?_
        rw [em_g]
        refine Vw.ivi1 (mi' := mX12_codeAt) (de_invokevirtual (B 35 _ rfl) (B 36 _ rfl) (B 37 _ rfl)) ml_X12_273 mv_X12_codeAt hM.k (Nat.le_of_ble_eq_true rfl) (n := 38) rfl (c_X12_codeAt hM hE hi ?_)
        refine Vw.istore_n (lv2 := [(0, _), (1, _), (2, _)]) (de_istore_2 (B 38 _ rfl)) rfl (by decide) [1, 2, 0] rfl (n := 39) rfl ?_
        refine Vw.iconst (v := 0) (de_iconst_0 (B 39 _ rfl)) rfl (n := 40) rfl ?_
        refine Vw.istore_n (lv2 := [(0, _), (1, _), (2, _), (3, _)]) (de_istore_3 (B 40 _ rfl)) rfl (by decide) [1, 2, 3, 0] rfl (n := 41) rfl ?_
        refine Vw.aload_n (de_aload_0 (B 41 _ rfl)) 0 rfl (n := 42) rfl ?_
        refine Vw.dup (de_dup (B 42 _ rfl)) rfl (n := 43) rfl ?_
        refine Vw.getI (de_getfield (B 43 _ rfl) (B 44 _ rfl) (B 45 _ rfl)) fl_X12_270 rfl hM.k (n := 46) rfl ?_
        rw [em_g]
        refine Vw.iconst (v := 1) (de_iconst_1 (B 46 _ rfl)) rfl (n := 47) rfl ?_
        refine Vw.iadd (de_iadd (B 47 _ rfl)) (n := 48) rfl ?_
        refine Vw.putI (de_putfield (B 48 _ rfl) (B 49 _ rfl) (B 50 _ rfl)) fl_X12_270 hM.k rfl rfl (n := 51) rfl ?_
        rw [em_inc]
        refine Vw.aload_n (de_aload_0 (B 51 _ rfl)) 0 rfl (n := 52) rfl ?_
        refine Vw.getI (de_getfield (B 52 _ rfl) (B 53 _ rfl) (B 54 _ rfl)) fl_X12_300 rfl hM.k (n := 55) rfl ?_
        rw [h23]
        refine Vw.if_eq (tgt := 94) (n := 58) (de_if_eq (B 55 _ rfl) (B 56 _ rfl) (B 57 _ rfl)) rfl rfl (fun c_55 => ?_) (fun c_55 => ?_)
        · exact absurd c_55 (by rw [if_pos h2]; decide)
        refine Vw.iload_n (de_iload_2 (B 58 _ rfl)) 2 rfl (n := 59) rfl ?_
        refine Vw.bipush (v := 13) (de_bipush (B 59 _ rfl) (B 60 _ rfl)) rfl (n := 61) rfl ?_
        refine Vw.icmp_eq (tgt := 70) (n := 64) (de_icmp_eq (B 61 _ rfl) (B 62 _ rfl) (B 63 _ rfl)) rfl rfl (fun c_61 => ?_) (fun c_61 => ?_)
        · refine Vw.aload_n (de_aload_0 (B 70 _ rfl)) 0 rfl (n := 71) rfl ?_
          refine Vw.getR (de_getfield (B 71 _ rfl) (B 72 _ rfl) (B 73 _ rfl)) fl_X12_24 rfl hM.k (MS_kept hM).1 (n := 74) rfl ?_
          refine Vw.sipush (v := 2953) (de_sipush (B 74 _ rfl) (B 75 _ rfl) (B 76 _ rfl)) rfl (n := 77) rfl ?_
          refine Vw.aload_n (de_aload_0 (B 77 _ rfl)) 0 rfl (n := 78) rfl ?_
          skip
          refine Vw.getI (de_getfield (B 78 _ rfl) (B 79 _ rfl) (B 80 _ rfl)) fl_X12_270 rfl hM.k (n := 81) rfl ?_
          rw [em_g]
          refine Vw.iadd (de_iadd (B 81 _ rfl)) (n := 82) rfl ?_
          refine Vw.iald (de_iaload (B 82 _ rfl)) (MS_kept hM).2 (vIx_n (k := 2953 + (bs + (i + 1))) (by simp only [nI_A, nI_M, Int32.zero_add, Int32.add_zero] <;> rfl) (by omega)) (n := 83) rfl ?_
          rw [hv2]
          refine Vw.istore_n (lv2 := [(0, _), (1, _), (2, _), (3, _)]) (de_istore_3 (B 83 _ rfl)) rfl (by decide) [1, 2, 3, 0] rfl (n := 84) rfl ?_
          refine Vw.aload_n (de_aload_0 (B 84 _ rfl)) 0 rfl (n := 85) rfl ?_
          refine Vw.dup (de_dup (B 85 _ rfl)) rfl (n := 86) rfl ?_
          refine Vw.getI (de_getfield (B 86 _ rfl) (B 87 _ rfl) (B 88 _ rfl)) fl_X12_270 rfl hM.k (n := 89) rfl ?_
          rw [em_g]
          refine Vw.iconst (v := 1) (de_iconst_1 (B 89 _ rfl)) rfl (n := 90) rfl ?_
          refine Vw.iadd (de_iadd (B 90 _ rfl)) (n := 91) rfl ?_
          refine Vw.putI (de_putfield (B 91 _ rfl) (B 92 _ rfl) (B 93 _ rfl)) fl_X12_270 hM.k rfl rfl (n := 94) rfl ?_
          try rw [em_inc]
          refine Vw.iload_n (de_iload_1 (B 94 _ rfl)) 1 rfl (n := 95) rfl ?_
          refine Vw.if_eq (tgt := 105) (n := 98) (de_if_eq (B 95 _ rfl) (B 96 _ rfl) (B 97 _ rfl)) rfl rfl (fun c_95 => ?_) (fun c_95 => ?_)
          · refine Vw.lconst (v := 0) (de_lconst_0 (B 105 _ rfl)) rfl (n := 106) rfl ?_
            exact Vw.lret (de_lreturn (B 106 _ rfl)) rfl ⟨_, rfl, (by obtain ⟨e1, e2⟩ := ev0 (lv := lv) (b := b) (dn := dn) (nv := nv) (by first | exact Or.inl c_95 | exact Or.inr c_102); rw [e1, e2] at h; exact h)⟩
          refine Vw.aload_n (de_aload_0 (B 98 _ rfl)) 0 rfl (n := 99) rfl ?_
          refine Vw.getI (de_getfield (B 99 _ rfl) (B 100 _ rfl) (B 101 _ rfl)) fl_X12_280 rfl hM.k (n := 102) rfl ?_
          rw [em_b]
          refine Vw.if_eq (tgt := 107) (n := 105) (de_if_eq (B 102 _ rfl) (B 103 _ rfl) (B 104 _ rfl)) rfl rfl (fun c_102 => ?_) (fun c_102 => ?_)
          · refine Vw.iload_n (de_iload_2 (B 107 _ rfl)) 2 rfl (n := 108) rfl ?_
            refine Vw.bipush (v := 50) (de_bipush (B 108 _ rfl) (B 109 _ rfl)) rfl (n := 110) rfl ?_
            refine Vw.icmp_ne (tgt := 130) (n := 113) (de_icmp_ne (B 110 _ rfl) (B 111 _ rfl) (B 112 _ rfl)) rfl rfl (fun c_110 => ?_) (fun c_110 => ?_)
            · refine Vw.aload_n (de_aload_0 (B 130 _ rfl)) 0 rfl (n := 131) rfl ?_
              refine Vw.getI (de_getfield (B 131 _ rfl) (B 132 _ rfl) (B 133 _ rfl)) fl_X12_300 rfl hM.k (n := 134) rfl ?_
              rw [h23]
              refine Vw.if_ne (tgt := 148) (n := 137) (de_if_ne (B 134 _ rfl) (B 135 _ rfl) (B 136 _ rfl)) rfl rfl (fun c_134 => ?_) (fun c_134 => ?_)
              · refine Vw.iload_n (de_iload_2 (B 148 _ rfl)) 2 rfl (n := 149) rfl ?_
                refine Vw.bipush (v := 13) (de_bipush (B 149 _ rfl) (B 150 _ rfl)) rfl (n := 151) rfl ?_
                refine Vw.icmp_eq (tgt := 160) (n := 154) (de_icmp_eq (B 151 _ rfl) (B 152 _ rfl) (B 153 _ rfl)) rfl rfl (fun c_151 => ?_) (fun c_151 => ?_)
                · refine Vw.aload_n (de_aload_0 (B 160 _ rfl)) 0 rfl (n := 161) rfl ?_
                  refine Vw.iload_n (de_iload_3 (B 161 _ rfl)) 3 rfl (n := 162) rfl ?_
                  skip
                  refine Vw.ivi1 (mi' := mX12_isPerson) (de_invokevirtual (B 162 _ rfl) (B 163 _ rfl) (B 164 _ rfl)) ml_X12_132 mv_X12_isPerson hM.k (Nat.le_of_ble_eq_true rfl) (n := 165) rfl (c_X12_isPerson hM ?_)
                  rw [h142]
                  refine Vw.if_eq (tgt := 188) (n := 168) (de_if_eq (B 165 _ rfl) (B 166 _ rfl) (B 167 _ rfl)) rfl rfl (fun c_165 => ?_) (fun c_165 => ?_)
                  · refine Vw.ldc2 (de_ldc2_w (B 188 _ rfl) (B 189 _ rfl) (B 190 _ rfl)) kc_X12_303 (n := 191) rfl ?_
                    refine Vw.goto_ (n := 204) (de_goto_ (B 191 _ rfl) (B 192 _ rfl) (B 193 _ rfl)) rfl ?_
                    exact Vw.lret (de_lreturn (B 204 _ rfl)) rfl ⟨_, rfl, (by obtain ⟨e1, e2⟩ := ev1 (lv := lv) (b := b) (dn := dn) (nv := nv) (hlv.resolve_left c_95) c_102 hdn; rw [e1, e2] at h; first | (rw [hB1 ((lie_q (by omega) hN.2.2.2.2).mp c_165)]; exact h) | (rw [hB2 (fun z => (lie_q (by omega) hN.2.2.2.2).mpr z c_165)] at h; exact h))⟩
                  refine Vw.aload_n (de_aload_0 (B 168 _ rfl)) 0 rfl (n := 169) rfl ?_
                  refine Vw.iload_n (de_iload_3 (B 169 _ rfl)) 3 rfl (n := 170) rfl ?_
                  refine Vw.iload_n (de_iload_2 (B 170 _ rfl)) 2 rfl (n := 171) rfl ?_
                  refine Vw.bipush (v := 13) (de_bipush (B 171 _ rfl) (B 172 _ rfl)) rfl (n := 173) rfl ?_
                  refine Vw.icmp_ne (tgt := 180) (n := 176) (de_icmp_ne (B 173 _ rfl) (B 174 _ rfl) (B 175 _ rfl)) rfl rfl (fun c_173 => ?_) (fun c_173 => ?_)
                  · refine Vw.iconst (v := 2) (de_iconst_2 (B 180 _ rfl)) rfl (n := 181) rfl ?_
                    refine Vw.ivi2 (mi' := mX12_fact) (de_invokevirtual (B 181 _ rfl) (B 182 _ rfl) (B 183 _ rfl)) ml_X12_144 mv_X12_fact hM.k (Nat.le_of_ble_eq_true rfl) (n := 184) rfl (c_X12_fact hM (j := if cd i = 13 then 4 * q + 1 else 4 * q + 2) (by first | (rw [if_pos c_173]; exact (vIx_n (k := 4 * q + 1) (by simp only [nI_A, nI_M, Int32.zero_add, Int32.add_zero] <;> rfl) (by omega))) | (rw [if_neg c_173]; exact (vIx_n (k := 4 * q + 2) (by simp only [nI_A, nI_M, Int32.zero_add, Int32.add_zero] <;> rfl) (by omega)))) ?_)
                    refine Vw.i2l (de_i2l (B 184 _ rfl)) (n := 185) rfl ?_
                    refine Vw.goto_ (n := 204) (de_goto_ (B 185 _ rfl) (B 186 _ rfl) (B 187 _ rfl)) rfl ?_
                    exact Vw.lret (de_lreturn (B 204 _ rfl)) rfl ⟨_, rfl, (by obtain ⟨e1, e2⟩ := ev1 (lv := lv) (b := b) (dn := dn) (nv := nv) (hlv.resolve_left c_95) c_102 hdn; rw [e1, e2] at h; first | (rw [hB1 ((lie_q (by omega) hN.2.2.2.2).mp c_165)]; exact h) | (rw [hB2 (fun z => (lie_q (by omega) hN.2.2.2.2).mpr z c_165)] at h; exact h))⟩
                  refine Vw.iconst (v := 1) (de_iconst_1 (B 176 _ rfl)) rfl (n := 177) rfl ?_
                  refine Vw.goto_ (n := 181) (de_goto_ (B 177 _ rfl) (B 178 _ rfl) (B 179 _ rfl)) rfl ?_
                  refine Vw.ivi2 (mi' := mX12_fact) (de_invokevirtual (B 181 _ rfl) (B 182 _ rfl) (B 183 _ rfl)) ml_X12_144 mv_X12_fact hM.k (Nat.le_of_ble_eq_true rfl) (n := 184) rfl (c_X12_fact hM (j := if cd i = 13 then 4 * q + 1 else 4 * q + 2) (by first | (rw [if_pos c_173]; exact (vIx_n (k := 4 * q + 1) (by simp only [nI_A, nI_M, Int32.zero_add, Int32.add_zero] <;> rfl) (by omega))) | (rw [if_neg c_173]; exact (vIx_n (k := 4 * q + 2) (by simp only [nI_A, nI_M, Int32.zero_add, Int32.add_zero] <;> rfl) (by omega)))) ?_)
                  refine Vw.i2l (de_i2l (B 184 _ rfl)) (n := 185) rfl ?_
                  refine Vw.goto_ (n := 204) (de_goto_ (B 185 _ rfl) (B 186 _ rfl) (B 187 _ rfl)) rfl ?_
                  exact Vw.lret (de_lreturn (B 204 _ rfl)) rfl ⟨_, rfl, (by obtain ⟨e1, e2⟩ := ev1 (lv := lv) (b := b) (dn := dn) (nv := nv) (hlv.resolve_left c_95) c_102 hdn; rw [e1, e2] at h; first | (rw [hB1 ((lie_q (by omega) hN.2.2.2.2).mp c_165)]; exact h) | (rw [hB2 (fun z => (lie_q (by omega) hN.2.2.2.2).mpr z c_165)] at h; exact h))⟩
                refine Vw.iload_n (de_iload_2 (B 154 _ rfl)) 2 rfl (n := 155) rfl ?_
                refine Vw.bipush (v := 14) (de_bipush (B 155 _ rfl) (B 156 _ rfl)) rfl (n := 157) rfl ?_
                refine Vw.icmp_ne (tgt := 194) (n := 160) (de_icmp_ne (B 157 _ rfl) (B 158 _ rfl) (B 159 _ rfl)) rfl rfl (fun c_157 => ?_) (fun c_157 => ?_)
                · exact absurd h3 (by rintro (z | z); exact c_151 z; exact c_157 z)
                refine Vw.aload_n (de_aload_0 (B 160 _ rfl)) 0 rfl (n := 161) rfl ?_
                refine Vw.iload_n (de_iload_3 (B 161 _ rfl)) 3 rfl (n := 162) rfl ?_
                skip
                refine Vw.ivi1 (mi' := mX12_isPerson) (de_invokevirtual (B 162 _ rfl) (B 163 _ rfl) (B 164 _ rfl)) ml_X12_132 mv_X12_isPerson hM.k (Nat.le_of_ble_eq_true rfl) (n := 165) rfl (c_X12_isPerson hM ?_)
                rw [h142]
                refine Vw.if_eq (tgt := 188) (n := 168) (de_if_eq (B 165 _ rfl) (B 166 _ rfl) (B 167 _ rfl)) rfl rfl (fun c_165 => ?_) (fun c_165 => ?_)
                · refine Vw.ldc2 (de_ldc2_w (B 188 _ rfl) (B 189 _ rfl) (B 190 _ rfl)) kc_X12_303 (n := 191) rfl ?_
                  refine Vw.goto_ (n := 204) (de_goto_ (B 191 _ rfl) (B 192 _ rfl) (B 193 _ rfl)) rfl ?_
                  exact Vw.lret (de_lreturn (B 204 _ rfl)) rfl ⟨_, rfl, (by obtain ⟨e1, e2⟩ := ev1 (lv := lv) (b := b) (dn := dn) (nv := nv) (hlv.resolve_left c_95) c_102 hdn; rw [e1, e2] at h; first | (rw [hB1 ((lie_q (by omega) hN.2.2.2.2).mp c_165)]; exact h) | (rw [hB2 (fun z => (lie_q (by omega) hN.2.2.2.2).mpr z c_165)] at h; exact h))⟩
                refine Vw.aload_n (de_aload_0 (B 168 _ rfl)) 0 rfl (n := 169) rfl ?_
                refine Vw.iload_n (de_iload_3 (B 169 _ rfl)) 3 rfl (n := 170) rfl ?_
                refine Vw.iload_n (de_iload_2 (B 170 _ rfl)) 2 rfl (n := 171) rfl ?_
                refine Vw.bipush (v := 13) (de_bipush (B 171 _ rfl) (B 172 _ rfl)) rfl (n := 173) rfl ?_
                refine Vw.icmp_ne (tgt := 180) (n := 176) (de_icmp_ne (B 173 _ rfl) (B 174 _ rfl) (B 175 _ rfl)) rfl rfl (fun c_173 => ?_) (fun c_173 => ?_)
                · refine Vw.iconst (v := 2) (de_iconst_2 (B 180 _ rfl)) rfl (n := 181) rfl ?_
                  refine Vw.ivi2 (mi' := mX12_fact) (de_invokevirtual (B 181 _ rfl) (B 182 _ rfl) (B 183 _ rfl)) ml_X12_144 mv_X12_fact hM.k (Nat.le_of_ble_eq_true rfl) (n := 184) rfl (c_X12_fact hM (j := if cd i = 13 then 4 * q + 1 else 4 * q + 2) (by first | (rw [if_pos c_173]; exact (vIx_n (k := 4 * q + 1) (by simp only [nI_A, nI_M, Int32.zero_add, Int32.add_zero] <;> rfl) (by omega))) | (rw [if_neg c_173]; exact (vIx_n (k := 4 * q + 2) (by simp only [nI_A, nI_M, Int32.zero_add, Int32.add_zero] <;> rfl) (by omega)))) ?_)
                  refine Vw.i2l (de_i2l (B 184 _ rfl)) (n := 185) rfl ?_
                  refine Vw.goto_ (n := 204) (de_goto_ (B 185 _ rfl) (B 186 _ rfl) (B 187 _ rfl)) rfl ?_
                  exact Vw.lret (de_lreturn (B 204 _ rfl)) rfl ⟨_, rfl, (by obtain ⟨e1, e2⟩ := ev1 (lv := lv) (b := b) (dn := dn) (nv := nv) (hlv.resolve_left c_95) c_102 hdn; rw [e1, e2] at h; first | (rw [hB1 ((lie_q (by omega) hN.2.2.2.2).mp c_165)]; exact h) | (rw [hB2 (fun z => (lie_q (by omega) hN.2.2.2.2).mpr z c_165)] at h; exact h))⟩
                refine Vw.iconst (v := 1) (de_iconst_1 (B 176 _ rfl)) rfl (n := 177) rfl ?_
                refine Vw.goto_ (n := 181) (de_goto_ (B 177 _ rfl) (B 178 _ rfl) (B 179 _ rfl)) rfl ?_
                refine Vw.ivi2 (mi' := mX12_fact) (de_invokevirtual (B 181 _ rfl) (B 182 _ rfl) (B 183 _ rfl)) ml_X12_144 mv_X12_fact hM.k (Nat.le_of_ble_eq_true rfl) (n := 184) rfl (c_X12_fact hM (j := if cd i = 13 then 4 * q + 1 else 4 * q + 2) (by first | (rw [if_pos c_173]; exact (vIx_n (k := 4 * q + 1) (by simp only [nI_A, nI_M, Int32.zero_add, Int32.add_zero] <;> rfl) (by omega))) | (rw [if_neg c_173]; exact (vIx_n (k := 4 * q + 2) (by simp only [nI_A, nI_M, Int32.zero_add, Int32.add_zero] <;> rfl) (by omega)))) ?_)
                refine Vw.i2l (de_i2l (B 184 _ rfl)) (n := 185) rfl ?_
                refine Vw.goto_ (n := 204) (de_goto_ (B 185 _ rfl) (B 186 _ rfl) (B 187 _ rfl)) rfl ?_
                exact Vw.lret (de_lreturn (B 204 _ rfl)) rfl ⟨_, rfl, (by obtain ⟨e1, e2⟩ := ev1 (lv := lv) (b := b) (dn := dn) (nv := nv) (hlv.resolve_left c_95) c_102 hdn; rw [e1, e2] at h; first | (rw [hB1 ((lie_q (by omega) hN.2.2.2.2).mp c_165)]; exact h) | (rw [hB2 (fun z => (lie_q (by omega) hN.2.2.2.2).mpr z c_165)] at h; exact h))⟩
              exact absurd c_134 (by rw [if_pos h2]; decide)
            exact absurd c_110 (by rcases h3 with h3 | h3 <;> rw [h3] <;> decide)
          refine Vw.lconst (v := 0) (de_lconst_0 (B 105 _ rfl)) rfl (n := 106) rfl ?_
          exact Vw.lret (de_lreturn (B 106 _ rfl)) rfl ⟨_, rfl, (by obtain ⟨e1, e2⟩ := ev0 (lv := lv) (b := b) (dn := dn) (nv := nv) (by first | exact Or.inl c_95 | exact Or.inr c_102); rw [e1, e2] at h; exact h)⟩
        refine Vw.iload_n (de_iload_2 (B 64 _ rfl)) 2 rfl (n := 65) rfl ?_
        refine Vw.bipush (v := 14) (de_bipush (B 65 _ rfl) (B 66 _ rfl)) rfl (n := 67) rfl ?_
        refine Vw.icmp_ne (tgt := 94) (n := 70) (de_icmp_ne (B 67 _ rfl) (B 68 _ rfl) (B 69 _ rfl)) rfl rfl (fun c_67 => ?_) (fun c_67 => ?_)
        · exact absurd h3 (by rintro (z | z); exact c_61 z; exact c_67 z)
        refine Vw.aload_n (de_aload_0 (B 70 _ rfl)) 0 rfl (n := 71) rfl ?_
        refine Vw.getR (de_getfield (B 71 _ rfl) (B 72 _ rfl) (B 73 _ rfl)) fl_X12_24 rfl hM.k (MS_kept hM).1 (n := 74) rfl ?_
        refine Vw.sipush (v := 2953) (de_sipush (B 74 _ rfl) (B 75 _ rfl) (B 76 _ rfl)) rfl (n := 77) rfl ?_
        refine Vw.aload_n (de_aload_0 (B 77 _ rfl)) 0 rfl (n := 78) rfl ?_
        skip
        refine Vw.getI (de_getfield (B 78 _ rfl) (B 79 _ rfl) (B 80 _ rfl)) fl_X12_270 rfl hM.k (n := 81) rfl ?_
        rw [em_g]
        refine Vw.iadd (de_iadd (B 81 _ rfl)) (n := 82) rfl ?_
        refine Vw.iald (de_iaload (B 82 _ rfl)) (MS_kept hM).2 (vIx_n (k := 2953 + (bs + (i + 1))) (by simp only [nI_A, nI_M, Int32.zero_add, Int32.add_zero] <;> rfl) (by omega)) (n := 83) rfl ?_
        rw [hv2]
        refine Vw.istore_n (lv2 := [(0, _), (1, _), (2, _), (3, _)]) (de_istore_3 (B 83 _ rfl)) rfl (by decide) [1, 2, 3, 0] rfl (n := 84) rfl ?_
        refine Vw.aload_n (de_aload_0 (B 84 _ rfl)) 0 rfl (n := 85) rfl ?_
        refine Vw.dup (de_dup (B 85 _ rfl)) rfl (n := 86) rfl ?_
        refine Vw.getI (de_getfield (B 86 _ rfl) (B 87 _ rfl) (B 88 _ rfl)) fl_X12_270 rfl hM.k (n := 89) rfl ?_
        rw [em_g]
        refine Vw.iconst (v := 1) (de_iconst_1 (B 89 _ rfl)) rfl (n := 90) rfl ?_
        refine Vw.iadd (de_iadd (B 90 _ rfl)) (n := 91) rfl ?_
        refine Vw.putI (de_putfield (B 91 _ rfl) (B 92 _ rfl) (B 93 _ rfl)) fl_X12_270 hM.k rfl rfl (n := 94) rfl ?_
        try rw [em_inc]
        refine Vw.iload_n (de_iload_1 (B 94 _ rfl)) 1 rfl (n := 95) rfl ?_
        refine Vw.if_eq (tgt := 105) (n := 98) (de_if_eq (B 95 _ rfl) (B 96 _ rfl) (B 97 _ rfl)) rfl rfl (fun c_95 => ?_) (fun c_95 => ?_)
        · refine Vw.lconst (v := 0) (de_lconst_0 (B 105 _ rfl)) rfl (n := 106) rfl ?_
          exact Vw.lret (de_lreturn (B 106 _ rfl)) rfl ⟨_, rfl, (by obtain ⟨e1, e2⟩ := ev0 (lv := lv) (b := b) (dn := dn) (nv := nv) (by first | exact Or.inl c_95 | exact Or.inr c_102); rw [e1, e2] at h; exact h)⟩
        refine Vw.aload_n (de_aload_0 (B 98 _ rfl)) 0 rfl (n := 99) rfl ?_
        refine Vw.getI (de_getfield (B 99 _ rfl) (B 100 _ rfl) (B 101 _ rfl)) fl_X12_280 rfl hM.k (n := 102) rfl ?_
        rw [em_b]
        refine Vw.if_eq (tgt := 107) (n := 105) (de_if_eq (B 102 _ rfl) (B 103 _ rfl) (B 104 _ rfl)) rfl rfl (fun c_102 => ?_) (fun c_102 => ?_)
        · refine Vw.iload_n (de_iload_2 (B 107 _ rfl)) 2 rfl (n := 108) rfl ?_
          refine Vw.bipush (v := 50) (de_bipush (B 108 _ rfl) (B 109 _ rfl)) rfl (n := 110) rfl ?_
          refine Vw.icmp_ne (tgt := 130) (n := 113) (de_icmp_ne (B 110 _ rfl) (B 111 _ rfl) (B 112 _ rfl)) rfl rfl (fun c_110 => ?_) (fun c_110 => ?_)
          · refine Vw.aload_n (de_aload_0 (B 130 _ rfl)) 0 rfl (n := 131) rfl ?_
            refine Vw.getI (de_getfield (B 131 _ rfl) (B 132 _ rfl) (B 133 _ rfl)) fl_X12_300 rfl hM.k (n := 134) rfl ?_
            rw [h23]
            refine Vw.if_ne (tgt := 148) (n := 137) (de_if_ne (B 134 _ rfl) (B 135 _ rfl) (B 136 _ rfl)) rfl rfl (fun c_134 => ?_) (fun c_134 => ?_)
            · refine Vw.iload_n (de_iload_2 (B 148 _ rfl)) 2 rfl (n := 149) rfl ?_
              refine Vw.bipush (v := 13) (de_bipush (B 149 _ rfl) (B 150 _ rfl)) rfl (n := 151) rfl ?_
              refine Vw.icmp_eq (tgt := 160) (n := 154) (de_icmp_eq (B 151 _ rfl) (B 152 _ rfl) (B 153 _ rfl)) rfl rfl (fun c_151 => ?_) (fun c_151 => ?_)
              · refine Vw.aload_n (de_aload_0 (B 160 _ rfl)) 0 rfl (n := 161) rfl ?_
                refine Vw.iload_n (de_iload_3 (B 161 _ rfl)) 3 rfl (n := 162) rfl ?_
                skip
                refine Vw.ivi1 (mi' := mX12_isPerson) (de_invokevirtual (B 162 _ rfl) (B 163 _ rfl) (B 164 _ rfl)) ml_X12_132 mv_X12_isPerson hM.k (Nat.le_of_ble_eq_true rfl) (n := 165) rfl (c_X12_isPerson hM ?_)
                rw [h142]
                refine Vw.if_eq (tgt := 188) (n := 168) (de_if_eq (B 165 _ rfl) (B 166 _ rfl) (B 167 _ rfl)) rfl rfl (fun c_165 => ?_) (fun c_165 => ?_)
                · refine Vw.ldc2 (de_ldc2_w (B 188 _ rfl) (B 189 _ rfl) (B 190 _ rfl)) kc_X12_303 (n := 191) rfl ?_
                  refine Vw.goto_ (n := 204) (de_goto_ (B 191 _ rfl) (B 192 _ rfl) (B 193 _ rfl)) rfl ?_
                  exact Vw.lret (de_lreturn (B 204 _ rfl)) rfl ⟨_, rfl, (by obtain ⟨e1, e2⟩ := ev1 (lv := lv) (b := b) (dn := dn) (nv := nv) (hlv.resolve_left c_95) c_102 hdn; rw [e1, e2] at h; first | (rw [hB1 ((lie_q (by omega) hN.2.2.2.2).mp c_165)]; exact h) | (rw [hB2 (fun z => (lie_q (by omega) hN.2.2.2.2).mpr z c_165)] at h; exact h))⟩
                refine Vw.aload_n (de_aload_0 (B 168 _ rfl)) 0 rfl (n := 169) rfl ?_
                refine Vw.iload_n (de_iload_3 (B 169 _ rfl)) 3 rfl (n := 170) rfl ?_
                refine Vw.iload_n (de_iload_2 (B 170 _ rfl)) 2 rfl (n := 171) rfl ?_
                refine Vw.bipush (v := 13) (de_bipush (B 171 _ rfl) (B 172 _ rfl)) rfl (n := 173) rfl ?_
                refine Vw.icmp_ne (tgt := 180) (n := 176) (de_icmp_ne (B 173 _ rfl) (B 174 _ rfl) (B 175 _ rfl)) rfl rfl (fun c_173 => ?_) (fun c_173 => ?_)
                · refine Vw.iconst (v := 2) (de_iconst_2 (B 180 _ rfl)) rfl (n := 181) rfl ?_
                  refine Vw.ivi2 (mi' := mX12_fact) (de_invokevirtual (B 181 _ rfl) (B 182 _ rfl) (B 183 _ rfl)) ml_X12_144 mv_X12_fact hM.k (Nat.le_of_ble_eq_true rfl) (n := 184) rfl (c_X12_fact hM (j := if cd i = 13 then 4 * q + 1 else 4 * q + 2) (by first | (rw [if_pos c_173]; exact (vIx_n (k := 4 * q + 1) (by simp only [nI_A, nI_M, Int32.zero_add, Int32.add_zero] <;> rfl) (by omega))) | (rw [if_neg c_173]; exact (vIx_n (k := 4 * q + 2) (by simp only [nI_A, nI_M, Int32.zero_add, Int32.add_zero] <;> rfl) (by omega)))) ?_)
                  refine Vw.i2l (de_i2l (B 184 _ rfl)) (n := 185) rfl ?_
                  refine Vw.goto_ (n := 204) (de_goto_ (B 185 _ rfl) (B 186 _ rfl) (B 187 _ rfl)) rfl ?_
                  exact Vw.lret (de_lreturn (B 204 _ rfl)) rfl ⟨_, rfl, (by obtain ⟨e1, e2⟩ := ev1 (lv := lv) (b := b) (dn := dn) (nv := nv) (hlv.resolve_left c_95) c_102 hdn; rw [e1, e2] at h; first | (rw [hB1 ((lie_q (by omega) hN.2.2.2.2).mp c_165)]; exact h) | (rw [hB2 (fun z => (lie_q (by omega) hN.2.2.2.2).mpr z c_165)] at h; exact h))⟩
                refine Vw.iconst (v := 1) (de_iconst_1 (B 176 _ rfl)) rfl (n := 177) rfl ?_
                refine Vw.goto_ (n := 181) (de_goto_ (B 177 _ rfl) (B 178 _ rfl) (B 179 _ rfl)) rfl ?_
                refine Vw.ivi2 (mi' := mX12_fact) (de_invokevirtual (B 181 _ rfl) (B 182 _ rfl) (B 183 _ rfl)) ml_X12_144 mv_X12_fact hM.k (Nat.le_of_ble_eq_true rfl) (n := 184) rfl (c_X12_fact hM (j := if cd i = 13 then 4 * q + 1 else 4 * q + 2) (by first | (rw [if_pos c_173]; exact (vIx_n (k := 4 * q + 1) (by simp only [nI_A, nI_M, Int32.zero_add, Int32.add_zero] <;> rfl) (by omega))) | (rw [if_neg c_173]; exact (vIx_n (k := 4 * q + 2) (by simp only [nI_A, nI_M, Int32.zero_add, Int32.add_zero] <;> rfl) (by omega)))) ?_)
                refine Vw.i2l (de_i2l (B 184 _ rfl)) (n := 185) rfl ?_
                refine Vw.goto_ (n := 204) (de_goto_ (B 185 _ rfl) (B 186 _ rfl) (B 187 _ rfl)) rfl ?_
                exact Vw.lret (de_lreturn (B 204 _ rfl)) rfl ⟨_, rfl, (by obtain ⟨e1, e2⟩ := ev1 (lv := lv) (b := b) (dn := dn) (nv := nv) (hlv.resolve_left c_95) c_102 hdn; rw [e1, e2] at h; first | (rw [hB1 ((lie_q (by omega) hN.2.2.2.2).mp c_165)]; exact h) | (rw [hB2 (fun z => (lie_q (by omega) hN.2.2.2.2).mpr z c_165)] at h; exact h))⟩
              refine Vw.iload_n (de_iload_2 (B 154 _ rfl)) 2 rfl (n := 155) rfl ?_
              refine Vw.bipush (v := 14) (de_bipush (B 155 _ rfl) (B 156 _ rfl)) rfl (n := 157) rfl ?_
              refine Vw.icmp_ne (tgt := 194) (n := 160) (de_icmp_ne (B 157 _ rfl) (B 158 _ rfl) (B 159 _ rfl)) rfl rfl (fun c_157 => ?_) (fun c_157 => ?_)
              · exact absurd h3 (by rintro (z | z); exact c_151 z; exact c_157 z)
              refine Vw.aload_n (de_aload_0 (B 160 _ rfl)) 0 rfl (n := 161) rfl ?_
              refine Vw.iload_n (de_iload_3 (B 161 _ rfl)) 3 rfl (n := 162) rfl ?_
              skip
              refine Vw.ivi1 (mi' := mX12_isPerson) (de_invokevirtual (B 162 _ rfl) (B 163 _ rfl) (B 164 _ rfl)) ml_X12_132 mv_X12_isPerson hM.k (Nat.le_of_ble_eq_true rfl) (n := 165) rfl (c_X12_isPerson hM ?_)
              rw [h142]
              refine Vw.if_eq (tgt := 188) (n := 168) (de_if_eq (B 165 _ rfl) (B 166 _ rfl) (B 167 _ rfl)) rfl rfl (fun c_165 => ?_) (fun c_165 => ?_)
              · refine Vw.ldc2 (de_ldc2_w (B 188 _ rfl) (B 189 _ rfl) (B 190 _ rfl)) kc_X12_303 (n := 191) rfl ?_
                refine Vw.goto_ (n := 204) (de_goto_ (B 191 _ rfl) (B 192 _ rfl) (B 193 _ rfl)) rfl ?_
                exact Vw.lret (de_lreturn (B 204 _ rfl)) rfl ⟨_, rfl, (by obtain ⟨e1, e2⟩ := ev1 (lv := lv) (b := b) (dn := dn) (nv := nv) (hlv.resolve_left c_95) c_102 hdn; rw [e1, e2] at h; first | (rw [hB1 ((lie_q (by omega) hN.2.2.2.2).mp c_165)]; exact h) | (rw [hB2 (fun z => (lie_q (by omega) hN.2.2.2.2).mpr z c_165)] at h; exact h))⟩
              refine Vw.aload_n (de_aload_0 (B 168 _ rfl)) 0 rfl (n := 169) rfl ?_
              refine Vw.iload_n (de_iload_3 (B 169 _ rfl)) 3 rfl (n := 170) rfl ?_
              refine Vw.iload_n (de_iload_2 (B 170 _ rfl)) 2 rfl (n := 171) rfl ?_
              refine Vw.bipush (v := 13) (de_bipush (B 171 _ rfl) (B 172 _ rfl)) rfl (n := 173) rfl ?_
              refine Vw.icmp_ne (tgt := 180) (n := 176) (de_icmp_ne (B 173 _ rfl) (B 174 _ rfl) (B 175 _ rfl)) rfl rfl (fun c_173 => ?_) (fun c_173 => ?_)
              · refine Vw.iconst (v := 2) (de_iconst_2 (B 180 _ rfl)) rfl (n := 181) rfl ?_
                refine Vw.ivi2 (mi' := mX12_fact) (de_invokevirtual (B 181 _ rfl) (B 182 _ rfl) (B 183 _ rfl)) ml_X12_144 mv_X12_fact hM.k (Nat.le_of_ble_eq_true rfl) (n := 184) rfl (c_X12_fact hM (j := if cd i = 13 then 4 * q + 1 else 4 * q + 2) (by first | (rw [if_pos c_173]; exact (vIx_n (k := 4 * q + 1) (by simp only [nI_A, nI_M, Int32.zero_add, Int32.add_zero] <;> rfl) (by omega))) | (rw [if_neg c_173]; exact (vIx_n (k := 4 * q + 2) (by simp only [nI_A, nI_M, Int32.zero_add, Int32.add_zero] <;> rfl) (by omega)))) ?_)
                refine Vw.i2l (de_i2l (B 184 _ rfl)) (n := 185) rfl ?_
                refine Vw.goto_ (n := 204) (de_goto_ (B 185 _ rfl) (B 186 _ rfl) (B 187 _ rfl)) rfl ?_
                exact Vw.lret (de_lreturn (B 204 _ rfl)) rfl ⟨_, rfl, (by obtain ⟨e1, e2⟩ := ev1 (lv := lv) (b := b) (dn := dn) (nv := nv) (hlv.resolve_left c_95) c_102 hdn; rw [e1, e2] at h; first | (rw [hB1 ((lie_q (by omega) hN.2.2.2.2).mp c_165)]; exact h) | (rw [hB2 (fun z => (lie_q (by omega) hN.2.2.2.2).mpr z c_165)] at h; exact h))⟩
              refine Vw.iconst (v := 1) (de_iconst_1 (B 176 _ rfl)) rfl (n := 177) rfl ?_
              refine Vw.goto_ (n := 181) (de_goto_ (B 177 _ rfl) (B 178 _ rfl) (B 179 _ rfl)) rfl ?_
              refine Vw.ivi2 (mi' := mX12_fact) (de_invokevirtual (B 181 _ rfl) (B 182 _ rfl) (B 183 _ rfl)) ml_X12_144 mv_X12_fact hM.k (Nat.le_of_ble_eq_true rfl) (n := 184) rfl (c_X12_fact hM (j := if cd i = 13 then 4 * q + 1 else 4 * q + 2) (by first | (rw [if_pos c_173]; exact (vIx_n (k := 4 * q + 1) (by simp only [nI_A, nI_M, Int32.zero_add, Int32.add_zero] <;> rfl) (by omega))) | (rw [if_neg c_173]; exact (vIx_n (k := 4 * q + 2) (by simp only [nI_A, nI_M, Int32.zero_add, Int32.add_zero] <;> rfl) (by omega)))) ?_)
              refine Vw.i2l (de_i2l (B 184 _ rfl)) (n := 185) rfl ?_
              refine Vw.goto_ (n := 204) (de_goto_ (B 185 _ rfl) (B 186 _ rfl) (B 187 _ rfl)) rfl ?_
              exact Vw.lret (de_lreturn (B 204 _ rfl)) rfl ⟨_, rfl, (by obtain ⟨e1, e2⟩ := ev1 (lv := lv) (b := b) (dn := dn) (nv := nv) (hlv.resolve_left c_95) c_102 hdn; rw [e1, e2] at h; first | (rw [hB1 ((lie_q (by omega) hN.2.2.2.2).mp c_165)]; exact h) | (rw [hB2 (fun z => (lie_q (by omega) hN.2.2.2.2).mpr z c_165)] at h; exact h))⟩
            exact absurd c_134 (by rw [if_pos h2]; decide)
          exact absurd c_110 (by rcases h3 with h3 | h3 <;> rw [h3] <;> decide)
        refine Vw.lconst (v := 0) (de_lconst_0 (B 105 _ rfl)) rfl (n := 106) rfl ?_
        exact Vw.lret (de_lreturn (B 106 _ rfl)) rfl ⟨_, rfl, (by obtain ⟨e1, e2⟩ := ev0 (lv := lv) (b := b) (dn := dn) (nv := nv) (by first | exact Or.inl c_95 | exact Or.inr c_102); rw [e1, e2] at h; exact h)⟩
      exact absurd rfl c_9
  · subst h4
    have hlt := hE.lt hi (by rw [h3]; decide)
    have hdn : dn nv = some (vl i).toInt64 := by rw [h5]
    have hv2 : ∀ g b2, em I r g b2 (r + 2) (2953 + (bs + i)) = vl i := fun g b2 => by rw [em_o (by omega), show 2953 + (bs + i) = 2953 + bs + i by omega, (hE.1 i hlt).2]
    refine Vw.aload_n (de_aload_0 (B 0 _ rfl)) 0 rfl (n := 1) rfl ?_
    refine Vw.bipush (v := 91) (de_bipush (B 1 _ rfl) (B 2 _ rfl)) rfl (n := 3) rfl ?_
    refine Vw.isi1 (mi' := mX12_sign) (de_invokestatic (B 3 _ rfl) (B 4 _ rfl) (B 5 _ rfl)) ml_X12_239 ms_X12_sign (Nat.le_of_ble_eq_true rfl) (n := 6) rfl (c_X12_sign ?_)
    refine Vw.ivi1 (mi' := mX12_passes0) (de_invokevirtual (B 6 _ rfl) (B 7 _ rfl) (B 8 _ rfl)) ml_X12_294 mv_X12_passes0 hM.k (Nat.le_of_ble_eq_true rfl) (n := 9) rfl (c_X12_passes0 hM hE hi (fun q => absurd q h1) (fun _ => ?_))
    · refine Vw.if_eq (tgt := 30) (n := 12) (de_if_eq (B 9 _ rfl) (B 10 _ rfl) (B 11 _ rfl)) rfl rfl (fun c_9 => ?_) (fun c_9 => ?_)
      · refine Vw.aload_n (de_aload_0 (B 30 _ rfl)) 0 rfl (n := 31) rfl ?_
        refine Vw.aload_n (de_aload_0 (B 31 _ rfl)) 0 rfl (n := 32) rfl ?_
        refine Vw.getI (de_getfield (B 32 _ rfl) (B 33 _ rfl) (B 34 _ rfl)) fl_X12_270 rfl hM.k (n := 35) rfl ?_
        rw [em_g]
        refine Vw.ivi1 (mi' := mX12_codeAt) (de_invokevirtual (B 35 _ rfl) (B 36 _ rfl) (B 37 _ rfl)) ml_X12_273 mv_X12_codeAt hM.k (Nat.le_of_ble_eq_true rfl) (n := 38) rfl (c_X12_codeAt hM hE hi ?_)
        refine Vw.istore_n (lv2 := [(0, _), (1, _), (2, _)]) (de_istore_2 (B 38 _ rfl)) rfl (by decide) [1, 2, 0] rfl (n := 39) rfl ?_
        refine Vw.iconst (v := 0) (de_iconst_0 (B 39 _ rfl)) rfl (n := 40) rfl ?_
        refine Vw.istore_n (lv2 := [(0, _), (1, _), (2, _), (3, _)]) (de_istore_3 (B 40 _ rfl)) rfl (by decide) [1, 2, 3, 0] rfl (n := 41) rfl ?_
        refine Vw.aload_n (de_aload_0 (B 41 _ rfl)) 0 rfl (n := 42) rfl ?_
        refine Vw.dup (de_dup (B 42 _ rfl)) rfl (n := 43) rfl ?_
        refine Vw.getI (de_getfield (B 43 _ rfl) (B 44 _ rfl) (B 45 _ rfl)) fl_X12_270 rfl hM.k (n := 46) rfl ?_
        rw [em_g]
        refine Vw.iconst (v := 1) (de_iconst_1 (B 46 _ rfl)) rfl (n := 47) rfl ?_
        refine Vw.iadd (de_iadd (B 47 _ rfl)) (n := 48) rfl ?_
        refine Vw.putI (de_putfield (B 48 _ rfl) (B 49 _ rfl) (B 50 _ rfl)) fl_X12_270 hM.k rfl rfl (n := 51) rfl ?_
        rw [em_inc]
        refine Vw.aload_n (de_aload_0 (B 51 _ rfl)) 0 rfl (n := 52) rfl ?_
        refine Vw.getI (de_getfield (B 52 _ rfl) (B 53 _ rfl) (B 54 _ rfl)) fl_X12_300 rfl hM.k (n := 55) rfl ?_
        rw [h23]
        refine Vw.if_eq (tgt := 94) (n := 58) (de_if_eq (B 55 _ rfl) (B 56 _ rfl) (B 57 _ rfl)) rfl rfl (fun c_55 => ?_) (fun c_55 => ?_)
        · refine Vw.iload_n (de_iload_1 (B 94 _ rfl)) 1 rfl (n := 95) rfl ?_
          refine Vw.if_eq (tgt := 105) (n := 98) (de_if_eq (B 95 _ rfl) (B 96 _ rfl) (B 97 _ rfl)) rfl rfl (fun c_95 => ?_) (fun c_95 => ?_)
          · refine Vw.lconst (v := 0) (de_lconst_0 (B 105 _ rfl)) rfl (n := 106) rfl ?_
            exact Vw.lret (de_lreturn (B 106 _ rfl)) rfl ⟨_, rfl, (by obtain ⟨e1, e2⟩ := ev0 (lv := lv) (b := b) (dn := dn) (nv := nv) (by first | exact Or.inl c_95 | exact Or.inr c_102); rw [e1, e2] at h; exact h)⟩
          refine Vw.aload_n (de_aload_0 (B 98 _ rfl)) 0 rfl (n := 99) rfl ?_
          refine Vw.getI (de_getfield (B 99 _ rfl) (B 100 _ rfl) (B 101 _ rfl)) fl_X12_280 rfl hM.k (n := 102) rfl ?_
          rw [em_b]
          refine Vw.if_eq (tgt := 107) (n := 105) (de_if_eq (B 102 _ rfl) (B 103 _ rfl) (B 104 _ rfl)) rfl rfl (fun c_102 => ?_) (fun c_102 => ?_)
          · refine Vw.iload_n (de_iload_2 (B 107 _ rfl)) 2 rfl (n := 108) rfl ?_
            refine Vw.bipush (v := 50) (de_bipush (B 108 _ rfl) (B 109 _ rfl)) rfl (n := 110) rfl ?_
            refine Vw.icmp_ne (tgt := 130) (n := 113) (de_icmp_ne (B 110 _ rfl) (B 111 _ rfl) (B 112 _ rfl)) rfl rfl (fun c_110 => ?_) (fun c_110 => ?_)
            · exact absurd h3 c_110
            refine Vw.aload_n (de_aload_0 (B 113 _ rfl)) 0 rfl (n := 114) rfl ?_
            refine Vw.getR (de_getfield (B 114 _ rfl) (B 115 _ rfl) (B 116 _ rfl)) fl_X12_24 rfl hM.k (MS_kept hM).1 (n := 117) rfl ?_
            refine Vw.sipush (v := 2953) (de_sipush (B 117 _ rfl) (B 118 _ rfl) (B 119 _ rfl)) rfl (n := 120) rfl ?_
            refine Vw.aload_n (de_aload_0 (B 120 _ rfl)) 0 rfl (n := 121) rfl ?_
            refine Vw.getI (de_getfield (B 121 _ rfl) (B 122 _ rfl) (B 123 _ rfl)) fl_X12_270 rfl hM.k (n := 124) rfl ?_
            rw [em_g]
            refine Vw.iadd (de_iadd (B 124 _ rfl)) (n := 125) rfl ?_
            refine Vw.iconst (v := 1) (de_iconst_1 (B 125 _ rfl)) rfl (n := 126) rfl ?_
            refine Vw.isub (de_isub (B 126 _ rfl)) (n := 127) rfl ?_
            refine Vw.iald (de_iaload (B 127 _ rfl)) (MS_kept hM).2 (vIx_n (k := 2953 + (bs + i)) (ix_m1 2953 (bs + i)) (by omega)) (n := 128) rfl ?_
            rw [hv2]
            refine Vw.i2l (de_i2l (B 128 _ rfl)) (n := 129) rfl ?_
            exact Vw.lret (de_lreturn (B 129 _ rfl)) rfl ⟨_, rfl, (by obtain ⟨e1, e2⟩ := ev1 (lv := lv) (b := b) (dn := dn) (nv := nv) (hlv.resolve_left c_95) c_102 hdn; rw [e1, e2] at h; exact h)⟩
          refine Vw.lconst (v := 0) (de_lconst_0 (B 105 _ rfl)) rfl (n := 106) rfl ?_
          exact Vw.lret (de_lreturn (B 106 _ rfl)) rfl ⟨_, rfl, (by obtain ⟨e1, e2⟩ := ev0 (lv := lv) (b := b) (dn := dn) (nv := nv) (by first | exact Or.inl c_95 | exact Or.inr c_102); rw [e1, e2] at h; exact h)⟩
        refine Vw.iload_n (de_iload_2 (B 58 _ rfl)) 2 rfl (n := 59) rfl ?_
        refine Vw.bipush (v := 13) (de_bipush (B 59 _ rfl) (B 60 _ rfl)) rfl (n := 61) rfl ?_
        refine Vw.icmp_eq (tgt := 70) (n := 64) (de_icmp_eq (B 61 _ rfl) (B 62 _ rfl) (B 63 _ rfl)) rfl rfl (fun c_61 => ?_) (fun c_61 => ?_)
        · exact absurd (h3.symm.trans c_61) (by decide)
        refine Vw.iload_n (de_iload_2 (B 64 _ rfl)) 2 rfl (n := 65) rfl ?_
        refine Vw.bipush (v := 14) (de_bipush (B 65 _ rfl) (B 66 _ rfl)) rfl (n := 67) rfl ?_
        refine Vw.icmp_ne (tgt := 94) (n := 70) (de_icmp_ne (B 67 _ rfl) (B 68 _ rfl) (B 69 _ rfl)) rfl rfl (fun c_67 => ?_) (fun c_67 => ?_)
        · refine Vw.iload_n (de_iload_1 (B 94 _ rfl)) 1 rfl (n := 95) rfl ?_
          refine Vw.if_eq (tgt := 105) (n := 98) (de_if_eq (B 95 _ rfl) (B 96 _ rfl) (B 97 _ rfl)) rfl rfl (fun c_95 => ?_) (fun c_95 => ?_)
          · refine Vw.lconst (v := 0) (de_lconst_0 (B 105 _ rfl)) rfl (n := 106) rfl ?_
            exact Vw.lret (de_lreturn (B 106 _ rfl)) rfl ⟨_, rfl, (by obtain ⟨e1, e2⟩ := ev0 (lv := lv) (b := b) (dn := dn) (nv := nv) (by first | exact Or.inl c_95 | exact Or.inr c_102); rw [e1, e2] at h; exact h)⟩
          refine Vw.aload_n (de_aload_0 (B 98 _ rfl)) 0 rfl (n := 99) rfl ?_
          refine Vw.getI (de_getfield (B 99 _ rfl) (B 100 _ rfl) (B 101 _ rfl)) fl_X12_280 rfl hM.k (n := 102) rfl ?_
          rw [em_b]
          refine Vw.if_eq (tgt := 107) (n := 105) (de_if_eq (B 102 _ rfl) (B 103 _ rfl) (B 104 _ rfl)) rfl rfl (fun c_102 => ?_) (fun c_102 => ?_)
          · refine Vw.iload_n (de_iload_2 (B 107 _ rfl)) 2 rfl (n := 108) rfl ?_
            refine Vw.bipush (v := 50) (de_bipush (B 108 _ rfl) (B 109 _ rfl)) rfl (n := 110) rfl ?_
            refine Vw.icmp_ne (tgt := 130) (n := 113) (de_icmp_ne (B 110 _ rfl) (B 111 _ rfl) (B 112 _ rfl)) rfl rfl (fun c_110 => ?_) (fun c_110 => ?_)
            · exact absurd h3 c_110
            refine Vw.aload_n (de_aload_0 (B 113 _ rfl)) 0 rfl (n := 114) rfl ?_
            refine Vw.getR (de_getfield (B 114 _ rfl) (B 115 _ rfl) (B 116 _ rfl)) fl_X12_24 rfl hM.k (MS_kept hM).1 (n := 117) rfl ?_
            refine Vw.sipush (v := 2953) (de_sipush (B 117 _ rfl) (B 118 _ rfl) (B 119 _ rfl)) rfl (n := 120) rfl ?_
            refine Vw.aload_n (de_aload_0 (B 120 _ rfl)) 0 rfl (n := 121) rfl ?_
            refine Vw.getI (de_getfield (B 121 _ rfl) (B 122 _ rfl) (B 123 _ rfl)) fl_X12_270 rfl hM.k (n := 124) rfl ?_
            rw [em_g]
            refine Vw.iadd (de_iadd (B 124 _ rfl)) (n := 125) rfl ?_
            refine Vw.iconst (v := 1) (de_iconst_1 (B 125 _ rfl)) rfl (n := 126) rfl ?_
            refine Vw.isub (de_isub (B 126 _ rfl)) (n := 127) rfl ?_
            refine Vw.iald (de_iaload (B 127 _ rfl)) (MS_kept hM).2 (vIx_n (k := 2953 + (bs + i)) (ix_m1 2953 (bs + i)) (by omega)) (n := 128) rfl ?_
            rw [hv2]
            refine Vw.i2l (de_i2l (B 128 _ rfl)) (n := 129) rfl ?_
            exact Vw.lret (de_lreturn (B 129 _ rfl)) rfl ⟨_, rfl, (by obtain ⟨e1, e2⟩ := ev1 (lv := lv) (b := b) (dn := dn) (nv := nv) (hlv.resolve_left c_95) c_102 hdn; rw [e1, e2] at h; exact h)⟩
          refine Vw.lconst (v := 0) (de_lconst_0 (B 105 _ rfl)) rfl (n := 106) rfl ?_
          exact Vw.lret (de_lreturn (B 106 _ rfl)) rfl ⟨_, rfl, (by obtain ⟨e1, e2⟩ := ev0 (lv := lv) (b := b) (dn := dn) (nv := nv) (by first | exact Or.inl c_95 | exact Or.inr c_102); rw [e1, e2] at h; exact h)⟩
        exact absurd (h3.symm.trans c_67) (by decide)
      exact absurd rfl c_9
  · subst h5
    have hlt := hE.lt hi (isVal_0 h4)
    have hdn : dn nv = some (nv (wIx o (cd i))).toInt64 := by rw [h6]
    cases o with
    | false =>
      have h4 : ¬ zLie (cd i) 10 17 = 0 := by simpa [isVal] using h4
      obtain ⟨q, hq, hcq, hcs⟩ := zLie_ix (a := 10) (n := 7) h4 rfl rfl (by decide)
      have hw : nv (wIx false (cd i)) = I (r + 12) q := by
        rw [hN.2.1 rfl _ (by show (cd i - 10).toNatClampNeg < 8; rw [show cd i - 10 = nI q from hcs, nI_cl (by omega)]; omega)]
        show I (r + 12) (cd i - 10).toNatClampNeg = _
        rw [show cd i - 10 = nI q from hcs, nI_cl (by omega)]
      refine Vw.aload_n (de_aload_0 (B 0 _ rfl)) 0 rfl (n := 1) rfl ?_
      refine Vw.bipush (v := 91) (de_bipush (B 1 _ rfl) (B 2 _ rfl)) rfl (n := 3) rfl ?_
      refine Vw.isi1 (mi' := mX12_sign) (de_invokestatic (B 3 _ rfl) (B 4 _ rfl) (B 5 _ rfl)) ml_X12_239 ms_X12_sign (Nat.le_of_ble_eq_true rfl) (n := 6) rfl (c_X12_sign ?_)
      refine Vw.ivi1 (mi' := mX12_passes0) (de_invokevirtual (B 6 _ rfl) (B 7 _ rfl) (B 8 _ rfl)) ml_X12_294 mv_X12_passes0 hM.k (Nat.le_of_ble_eq_true rfl) (n := 9) rfl (c_X12_passes0 hM hE hi (fun q => absurd q h1) (fun _ => ?_))
      · refine Vw.if_eq (tgt := 30) (n := 12) (de_if_eq (B 9 _ rfl) (B 10 _ rfl) (B 11 _ rfl)) rfl rfl (fun c_9 => ?_) (fun c_9 => ?_)
        · refine Vw.aload_n (de_aload_0 (B 30 _ rfl)) 0 rfl (n := 31) rfl ?_
          refine Vw.aload_n (de_aload_0 (B 31 _ rfl)) 0 rfl (n := 32) rfl ?_
          refine Vw.getI (de_getfield (B 32 _ rfl) (B 33 _ rfl) (B 34 _ rfl)) fl_X12_270 rfl hM.k (n := 35) rfl ?_
          rw [em_g]
          refine Vw.ivi1 (mi' := mX12_codeAt) (de_invokevirtual (B 35 _ rfl) (B 36 _ rfl) (B 37 _ rfl)) ml_X12_273 mv_X12_codeAt hM.k (Nat.le_of_ble_eq_true rfl) (n := 38) rfl (c_X12_codeAt hM hE hi ?_)
          refine Vw.istore_n (lv2 := [(0, _), (1, _), (2, _)]) (de_istore_2 (B 38 _ rfl)) rfl (by decide) [1, 2, 0] rfl (n := 39) rfl ?_
          refine Vw.iconst (v := 0) (de_iconst_0 (B 39 _ rfl)) rfl (n := 40) rfl ?_
          refine Vw.istore_n (lv2 := [(0, _), (1, _), (2, _), (3, _)]) (de_istore_3 (B 40 _ rfl)) rfl (by decide) [1, 2, 3, 0] rfl (n := 41) rfl ?_
          refine Vw.aload_n (de_aload_0 (B 41 _ rfl)) 0 rfl (n := 42) rfl ?_
          refine Vw.dup (de_dup (B 42 _ rfl)) rfl (n := 43) rfl ?_
          refine Vw.getI (de_getfield (B 43 _ rfl) (B 44 _ rfl) (B 45 _ rfl)) fl_X12_270 rfl hM.k (n := 46) rfl ?_
          rw [em_g]
          refine Vw.iconst (v := 1) (de_iconst_1 (B 46 _ rfl)) rfl (n := 47) rfl ?_
          refine Vw.iadd (de_iadd (B 47 _ rfl)) (n := 48) rfl ?_
          refine Vw.putI (de_putfield (B 48 _ rfl) (B 49 _ rfl) (B 50 _ rfl)) fl_X12_270 hM.k rfl rfl (n := 51) rfl ?_
          rw [em_inc]
          refine Vw.aload_n (de_aload_0 (B 51 _ rfl)) 0 rfl (n := 52) rfl ?_
          refine Vw.getI (de_getfield (B 52 _ rfl) (B 53 _ rfl) (B 54 _ rfl)) fl_X12_300 rfl hM.k (n := 55) rfl ?_
          rw [h23]
          refine Vw.if_eq (tgt := 94) (n := 58) (de_if_eq (B 55 _ rfl) (B 56 _ rfl) (B 57 _ rfl)) rfl rfl (fun c_55 => ?_) (fun c_55 => ?_)
          · refine Vw.iload_n (de_iload_1 (B 94 _ rfl)) 1 rfl (n := 95) rfl ?_
            refine Vw.if_eq (tgt := 105) (n := 98) (de_if_eq (B 95 _ rfl) (B 96 _ rfl) (B 97 _ rfl)) rfl rfl (fun c_95 => ?_) (fun c_95 => ?_)
            · refine Vw.lconst (v := 0) (de_lconst_0 (B 105 _ rfl)) rfl (n := 106) rfl ?_
              exact Vw.lret (de_lreturn (B 106 _ rfl)) rfl ⟨_, rfl, (by obtain ⟨e1, e2⟩ := ev0 (lv := lv) (b := b) (dn := dn) (nv := nv) (by first | exact Or.inl c_95 | exact Or.inr c_102); rw [e1, e2] at h; exact h)⟩
            refine Vw.aload_n (de_aload_0 (B 98 _ rfl)) 0 rfl (n := 99) rfl ?_
            refine Vw.getI (de_getfield (B 99 _ rfl) (B 100 _ rfl) (B 101 _ rfl)) fl_X12_280 rfl hM.k (n := 102) rfl ?_
            rw [em_b]
            refine Vw.if_eq (tgt := 107) (n := 105) (de_if_eq (B 102 _ rfl) (B 103 _ rfl) (B 104 _ rfl)) rfl rfl (fun c_102 => ?_) (fun c_102 => ?_)
            · refine Vw.iload_n (de_iload_2 (B 107 _ rfl)) 2 rfl (n := 108) rfl ?_
              refine Vw.bipush (v := 50) (de_bipush (B 108 _ rfl) (B 109 _ rfl)) rfl (n := 110) rfl ?_
              refine Vw.icmp_ne (tgt := 130) (n := 113) (de_icmp_ne (B 110 _ rfl) (B 111 _ rfl) (B 112 _ rfl)) rfl rfl (fun c_110 => ?_) (fun c_110 => ?_)
              · refine Vw.aload_n (de_aload_0 (B 130 _ rfl)) 0 rfl (n := 131) rfl ?_
                refine Vw.getI (de_getfield (B 131 _ rfl) (B 132 _ rfl) (B 133 _ rfl)) fl_X12_300 rfl hM.k (n := 134) rfl ?_
                rw [h23]
                refine Vw.if_ne (tgt := 148) (n := 137) (de_if_ne (B 134 _ rfl) (B 135 _ rfl) (B 136 _ rfl)) rfl rfl (fun c_134 => ?_) (fun c_134 => ?_)
                · exact absurd rfl c_134
                refine Vw.aload_n (de_aload_0 (B 137 _ rfl)) 0 rfl (n := 138) rfl ?_
                refine Vw.getR (de_getfield (B 138 _ rfl) (B 139 _ rfl) (B 140 _ rfl)) fl_X12_59 rfl hM.k (MS_asked hM).1 (n := 141) rfl ?_
                refine Vw.iload_n (de_iload_2 (B 141 _ rfl)) 2 rfl (n := 142) rfl ?_
                refine Vw.bipush (v := 10) (de_bipush (B 142 _ rfl) (B 143 _ rfl)) rfl (n := 144) rfl ?_
                refine Vw.isub (de_isub (B 144 _ rfl)) (n := 145) rfl ?_
                refine Vw.iald (de_iaload (B 145 _ rfl)) (MS_asked hM).2 (vIx_n (k := q) hcs (by omega)) (n := 146) rfl ?_
                rw [em_o (by omega)]
                refine Vw.i2l (de_i2l (B 146 _ rfl)) (n := 147) rfl ?_
                exact Vw.lret (de_lreturn (B 147 _ rfl)) rfl ⟨_, rfl, (by obtain ⟨e1, e2⟩ := ev1 (lv := lv) (b := b) (dn := dn) (nv := nv) (hlv.resolve_left c_95) c_102 hdn; rw [e1, e2, hw] at h; exact h)⟩
              exact absurd c_110 h3
            refine Vw.lconst (v := 0) (de_lconst_0 (B 105 _ rfl)) rfl (n := 106) rfl ?_
            exact Vw.lret (de_lreturn (B 106 _ rfl)) rfl ⟨_, rfl, (by obtain ⟨e1, e2⟩ := ev0 (lv := lv) (b := b) (dn := dn) (nv := nv) (by first | exact Or.inl c_95 | exact Or.inr c_102); rw [e1, e2] at h; exact h)⟩
          exact absurd rfl c_55
        exact absurd rfl c_9
    | true =>
      have h13 : ¬ cd i = 13 := fun z => h2 ⟨rfl, Or.inl z⟩
      have h14 : ¬ cd i = 14 := fun z => h2 ⟨rfl, Or.inr z⟩
      have h4 : ¬ zLie (cd i) 18 20 = 0 := by simpa [isVal, h13, h14] using h4
      obtain ⟨q, hq, hcq, hcs⟩ := zLie_ix (a := 18) (n := 2) h4 rfl rfl (by decide)
      have hw : nv (wIx true (cd i)) = I (r + 13) q := by
        rw [(hN.2.2.1 rfl).1 _ (by show (cd i - 18).toNatClampNeg < 3; rw [show cd i - 18 = nI q from hcs, nI_cl (by omega)]; omega)]
        show I (r + 13) (cd i - 18).toNatClampNeg = _
        rw [show cd i - 18 = nI q from hcs, nI_cl (by omega)]
      refine Vw.aload_n (de_aload_0 (B 0 _ rfl)) 0 rfl (n := 1) rfl ?_
      refine Vw.bipush (v := 91) (de_bipush (B 1 _ rfl) (B 2 _ rfl)) rfl (n := 3) rfl ?_
      refine Vw.isi1 (mi' := mX12_sign) (de_invokestatic (B 3 _ rfl) (B 4 _ rfl) (B 5 _ rfl)) ml_X12_239 ms_X12_sign (Nat.le_of_ble_eq_true rfl) (n := 6) rfl (c_X12_sign ?_)
      refine Vw.ivi1 (mi' := mX12_passes0) (de_invokevirtual (B 6 _ rfl) (B 7 _ rfl) (B 8 _ rfl)) ml_X12_294 mv_X12_passes0 hM.k (Nat.le_of_ble_eq_true rfl) (n := 9) rfl (c_X12_passes0 hM hE hi (fun q => absurd q h1) (fun _ => ?_))
      · refine Vw.if_eq (tgt := 30) (n := 12) (de_if_eq (B 9 _ rfl) (B 10 _ rfl) (B 11 _ rfl)) rfl rfl (fun c_9 => ?_) (fun c_9 => ?_)
        · refine Vw.aload_n (de_aload_0 (B 30 _ rfl)) 0 rfl (n := 31) rfl ?_
          refine Vw.aload_n (de_aload_0 (B 31 _ rfl)) 0 rfl (n := 32) rfl ?_
          refine Vw.getI (de_getfield (B 32 _ rfl) (B 33 _ rfl) (B 34 _ rfl)) fl_X12_270 rfl hM.k (n := 35) rfl ?_
          rw [em_g]
          refine Vw.ivi1 (mi' := mX12_codeAt) (de_invokevirtual (B 35 _ rfl) (B 36 _ rfl) (B 37 _ rfl)) ml_X12_273 mv_X12_codeAt hM.k (Nat.le_of_ble_eq_true rfl) (n := 38) rfl (c_X12_codeAt hM hE hi ?_)
          refine Vw.istore_n (lv2 := [(0, _), (1, _), (2, _)]) (de_istore_2 (B 38 _ rfl)) rfl (by decide) [1, 2, 0] rfl (n := 39) rfl ?_
          refine Vw.iconst (v := 0) (de_iconst_0 (B 39 _ rfl)) rfl (n := 40) rfl ?_
          refine Vw.istore_n (lv2 := [(0, _), (1, _), (2, _), (3, _)]) (de_istore_3 (B 40 _ rfl)) rfl (by decide) [1, 2, 3, 0] rfl (n := 41) rfl ?_
          refine Vw.aload_n (de_aload_0 (B 41 _ rfl)) 0 rfl (n := 42) rfl ?_
          refine Vw.dup (de_dup (B 42 _ rfl)) rfl (n := 43) rfl ?_
          refine Vw.getI (de_getfield (B 43 _ rfl) (B 44 _ rfl) (B 45 _ rfl)) fl_X12_270 rfl hM.k (n := 46) rfl ?_
          rw [em_g]
          refine Vw.iconst (v := 1) (de_iconst_1 (B 46 _ rfl)) rfl (n := 47) rfl ?_
          refine Vw.iadd (de_iadd (B 47 _ rfl)) (n := 48) rfl ?_
          refine Vw.putI (de_putfield (B 48 _ rfl) (B 49 _ rfl) (B 50 _ rfl)) fl_X12_270 hM.k rfl rfl (n := 51) rfl ?_
          rw [em_inc]
          refine Vw.aload_n (de_aload_0 (B 51 _ rfl)) 0 rfl (n := 52) rfl ?_
          refine Vw.getI (de_getfield (B 52 _ rfl) (B 53 _ rfl) (B 54 _ rfl)) fl_X12_300 rfl hM.k (n := 55) rfl ?_
          rw [h23]
          refine Vw.if_eq (tgt := 94) (n := 58) (de_if_eq (B 55 _ rfl) (B 56 _ rfl) (B 57 _ rfl)) rfl rfl (fun c_55 => ?_) (fun c_55 => ?_)
          · exact absurd c_55 (by decide)
          refine Vw.iload_n (de_iload_2 (B 58 _ rfl)) 2 rfl (n := 59) rfl ?_
          refine Vw.bipush (v := 13) (de_bipush (B 59 _ rfl) (B 60 _ rfl)) rfl (n := 61) rfl ?_
          refine Vw.icmp_eq (tgt := 70) (n := 64) (de_icmp_eq (B 61 _ rfl) (B 62 _ rfl) (B 63 _ rfl)) rfl rfl (fun c_61 => ?_) (fun c_61 => ?_)
          · exact absurd c_61 h13
          refine Vw.iload_n (de_iload_2 (B 64 _ rfl)) 2 rfl (n := 65) rfl ?_
          refine Vw.bipush (v := 14) (de_bipush (B 65 _ rfl) (B 66 _ rfl)) rfl (n := 67) rfl ?_
          refine Vw.icmp_ne (tgt := 94) (n := 70) (de_icmp_ne (B 67 _ rfl) (B 68 _ rfl) (B 69 _ rfl)) rfl rfl (fun c_67 => ?_) (fun c_67 => ?_)
          · refine Vw.iload_n (de_iload_1 (B 94 _ rfl)) 1 rfl (n := 95) rfl ?_
            refine Vw.if_eq (tgt := 105) (n := 98) (de_if_eq (B 95 _ rfl) (B 96 _ rfl) (B 97 _ rfl)) rfl rfl (fun c_95 => ?_) (fun c_95 => ?_)
            · refine Vw.lconst (v := 0) (de_lconst_0 (B 105 _ rfl)) rfl (n := 106) rfl ?_
              exact Vw.lret (de_lreturn (B 106 _ rfl)) rfl ⟨_, rfl, (by obtain ⟨e1, e2⟩ := ev0 (lv := lv) (b := b) (dn := dn) (nv := nv) (by first | exact Or.inl c_95 | exact Or.inr c_102); rw [e1, e2] at h; exact h)⟩
            refine Vw.aload_n (de_aload_0 (B 98 _ rfl)) 0 rfl (n := 99) rfl ?_
            refine Vw.getI (de_getfield (B 99 _ rfl) (B 100 _ rfl) (B 101 _ rfl)) fl_X12_280 rfl hM.k (n := 102) rfl ?_
            rw [em_b]
            refine Vw.if_eq (tgt := 107) (n := 105) (de_if_eq (B 102 _ rfl) (B 103 _ rfl) (B 104 _ rfl)) rfl rfl (fun c_102 => ?_) (fun c_102 => ?_)
            · refine Vw.iload_n (de_iload_2 (B 107 _ rfl)) 2 rfl (n := 108) rfl ?_
              refine Vw.bipush (v := 50) (de_bipush (B 108 _ rfl) (B 109 _ rfl)) rfl (n := 110) rfl ?_
              refine Vw.icmp_ne (tgt := 130) (n := 113) (de_icmp_ne (B 110 _ rfl) (B 111 _ rfl) (B 112 _ rfl)) rfl rfl (fun c_110 => ?_) (fun c_110 => ?_)
              · refine Vw.aload_n (de_aload_0 (B 130 _ rfl)) 0 rfl (n := 131) rfl ?_
                refine Vw.getI (de_getfield (B 131 _ rfl) (B 132 _ rfl) (B 133 _ rfl)) fl_X12_300 rfl hM.k (n := 134) rfl ?_
                rw [h23]
                refine Vw.if_ne (tgt := 148) (n := 137) (de_if_ne (B 134 _ rfl) (B 135 _ rfl) (B 136 _ rfl)) rfl rfl (fun c_134 => ?_) (fun c_134 => ?_)
                · refine Vw.iload_n (de_iload_2 (B 148 _ rfl)) 2 rfl (n := 149) rfl ?_
                  refine Vw.bipush (v := 13) (de_bipush (B 149 _ rfl) (B 150 _ rfl)) rfl (n := 151) rfl ?_
                  refine Vw.icmp_eq (tgt := 160) (n := 154) (de_icmp_eq (B 151 _ rfl) (B 152 _ rfl) (B 153 _ rfl)) rfl rfl (fun c_151 => ?_) (fun c_151 => ?_)
                  · exact absurd c_151 h13
                  refine Vw.iload_n (de_iload_2 (B 154 _ rfl)) 2 rfl (n := 155) rfl ?_
                  refine Vw.bipush (v := 14) (de_bipush (B 155 _ rfl) (B 156 _ rfl)) rfl (n := 157) rfl ?_
                  refine Vw.icmp_ne (tgt := 194) (n := 160) (de_icmp_ne (B 157 _ rfl) (B 158 _ rfl) (B 159 _ rfl)) rfl rfl (fun c_157 => ?_) (fun c_157 => ?_)
                  · refine Vw.aload_n (de_aload_0 (B 194 _ rfl)) 0 rfl (n := 195) rfl ?_
                    refine Vw.getR (de_getfield (B 195 _ rfl) (B 196 _ rfl) (B 197 _ rfl)) fl_X12_62 rfl hM.k (MS_orderValues hM).1 (n := 198) rfl ?_
                    refine Vw.iload_n (de_iload_2 (B 198 _ rfl)) 2 rfl (n := 199) rfl ?_
                    refine Vw.bipush (v := 18) (de_bipush (B 199 _ rfl) (B 200 _ rfl)) rfl (n := 201) rfl ?_
                    refine Vw.isub (de_isub (B 201 _ rfl)) (n := 202) rfl ?_
                    refine Vw.iald (de_iaload (B 202 _ rfl)) (MS_orderValues hM).2 (vIx_n (k := q) hcs (by omega)) (n := 203) rfl ?_
                    rw [em_o (by omega)]
                    refine Vw.i2l (de_i2l (B 203 _ rfl)) (n := 204) rfl ?_
                    exact Vw.lret (de_lreturn (B 204 _ rfl)) rfl ⟨_, rfl, (by obtain ⟨e1, e2⟩ := ev1 (lv := lv) (b := b) (dn := dn) (nv := nv) (hlv.resolve_left c_95) c_102 hdn; rw [e1, e2, hw] at h; exact h)⟩
                  exact absurd c_157 h14
                exact absurd c_134 (by decide)
              exact absurd c_110 h3
            refine Vw.lconst (v := 0) (de_lconst_0 (B 105 _ rfl)) rfl (n := 106) rfl ?_
            exact Vw.lret (de_lreturn (B 106 _ rfl)) rfl ⟨_, rfl, (by obtain ⟨e1, e2⟩ := ev0 (lv := lv) (b := b) (dn := dn) (nv := nv) (by first | exact Or.inl c_95 | exact Or.inr c_102); rw [e1, e2] at h; exact h)⟩
          exact absurd c_67 h14
        exact absurd rfl c_9
