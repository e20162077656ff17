/-! The reader: PARTS; SUMS of every depth -/
theorem kr_part0  : KR mX5_readPart (6) [.int 8] (fun cd vl o => pPart cd vl o none) (1) false := by
  intro d S I L Q s tp u cd vl nt o i l c f w hx hi hl hci h1 h0
  dsimp only at h1 h0
  have h4 := hx.n4
  refine Vc.of rfl (Nat.le_of_ble_eq_true rfl) ?_
  have B := bs_X5_readPart
  show Vw mX5_readPart (d + (6)) 0 0 0 0 (ViQ Q) 0 [(0, .ref (s + 74)), (1, .int 8)] [] S (rm I s (nI i) (nI l) (nI c) f w) L
  obtain ⟨dp, hdp⟩ : ∃ x : Int32, x = 8 := ⟨_, rfl⟩
  rw [← hdp]
  have rest : ¬ cd i = 191 → Vw mX5_readPart (d + (6)) 0 0 0 0 (ViQ Q) 60 [(0, .ref (s + 74)), (1, .int dp)] [] S (rm I s (nI i) (nI l) (nI c) f w) L := by
    intro nb
    have lt50 : nI l < 50 → ¬ l = 50 := fun z q => by rw [q] at z; exact absurd z (by decide)
    have ge50 : ¬ nI l < 50 → l = 50 := fun z => by
      rcases Nat.lt_or_ge l 50 with q | q
      · exact absurd (i32_lt.mpr (by rw [nI_ti (by omega)]; show (l : Int) < 50; omega)) z
      · omega
    have ilt : ¬ cd i = 0 → i < nt := fun q => by
      rcases Nat.lt_or_ge i nt with z | z
      · exact z
      · exact absurd (by rw [show i = nt by omega]; exact hx.c0) q
    rcases Bool.eq_false_or_eq_true o with ho | ho
    rotate_left
    · subst ho
      rcases ls3 (cd i) with ⟨kk, k1, e_c, w2, v_ok, w_ix⟩ | ⟨w2, v_no⟩
      · have n_50 : ¬ cd i = 50 := fun q => by rw [e_c] at q; exact absurd (nI_inj (a := 10 + kk) (b := 50) (by omega) (by decide) q) (by omega)
        have n_m : ¬ (false = true ∧ (cd i = 13 ∨ cd i = 14)) := fun q => by cases q.1
        have i1 : i < nt := ilt (by rw [e_c]; exact fun q => absurd (nI_inj (a := 10 + kk) (b := 0) (by omega) (by decide) q) (by omega))
        obtain ⟨x86, n2⟩ : ∃ x, I (s + 86) i = x := ⟨_, rfl⟩
        refine Vw.aload_n (de_aload_0 (B 60 _ rfl)) 0 rfl (n := 61) rfl ?_
        refine Vw.getR (de_getfield (B 61 _ rfl) (B 62 _ rfl) (B 63 _ rfl)) fl_X5_30 rfl hx.rd.k hx.rd.f4 (n := 64) rfl ?_
        refine Vw.aload_n (de_aload_0 (B 64 _ rfl)) 0 rfl (n := 65) rfl ?_
        refine Vw.getI (de_getfield (B 65 _ rfl) (B 66 _ rfl) (B 67 _ rfl)) fl_X5_48 rfl hx.rd.k (n := 68) rfl ?_
        rw [rm_8]
        refine Vw.iald (de_iaload (B 68 _ rfl)) hx.rd.r4 (vIx_n (k := i) rfl (by omega)) (n := 69) rfl ?_
        rw [rm_nm, n2]
        refine Vw.istore_n (lv2 := [(0, _), (1, _), (2, _)]) (de_istore_2 (B 69 _ rfl)) rfl (by decide) [1, 2, 0] rfl (n := 70) rfl ?_
        refine Vw.aload_n (de_aload_0 (B 70 _ rfl)) 0 rfl (n := 71) rfl ?_
        refine Vw.aload_n (de_aload_0 (B 71 _ rfl)) 0 rfl (n := 72) rfl ?_
        refine Vw.getI (de_getfield (B 72 _ rfl) (B 73 _ rfl) (B 74 _ rfl)) fl_X5_40 rfl hx.rd.k (n := 75) rfl ?_
        rw [rm_6, hx.ord]
        refine Vw.if_eq (tgt := 83) (n := 78) (de_if_eq (B 75 _ rfl) (B 76 _ rfl) (B 77 _ rfl)) rfl rfl (fun c_75 => ?_) (fun c_75 => ?_)
        · obtain ⟨z83, hz83⟩ := hx.str 3 (by decide)
          refine Vw.ldcS (i := 3) (de_ldc (B 83 _ rfl) (B 84 _ rfl)) rfl (by decide) hz83.2.1 (n := 85) rfl ?_
          refine Vw.ivi1 (mi' := mX5_listed) (de_invokevirtual (B 85 _ rfl) (B 86 _ rfl) (B 87 _ rfl)) ml_X5_95 mv_X5_listed hx.rd.k (Nat.le_of_ble_eq_true rfl) (n := 88) rfl (k_listed hx hz83 hi ?_)
          rw [w2]
          refine Vw.istore_n (lv2 := [(0, _), (1, _), (2, _), (3, _)]) (de_istore_3 (B 88 _ rfl)) rfl (by decide) [1, 2, 3, 0] rfl (n := 89) rfl ?_
          refine Vw.iload_n (de_iload_3 (B 89 _ rfl)) 3 rfl (n := 90) rfl ?_
          refine Vw.iconst (v := -1) (de_iconst_m1 (B 90 _ rfl)) rfl (n := 91) rfl ?_
          refine Vw.icmp_ne (tgt := 105) (n := 94) (de_icmp_ne (B 91 _ rfl) (B 92 _ rfl) (B 93 _ rfl)) rfl rfl (fun c_91 => ?_) (fun c_91 => ?_)
          · refine Vw.iconst (v := 1) (de_iconst_1 (B 105 _ rfl)) rfl (n := 106) rfl ?_
            refine Vw.goto_ (n := 110) (de_goto_ (B 106 _ rfl) (B 107 _ rfl) (B 108 _ rfl)) rfl ?_
            refine Vw.istore (lv2 := [(0, _), (1, _), (2, _), (3, _), (4, _)]) (de_istore (B 110 _ rfl) (B 111 _ rfl)) (by decide) [1, 2, 3, 4, 0] rfl (n := 112) rfl ?_
            refine Vw.iload (de_iload (B 112 _ rfl) (B 113 _ rfl)) 4 rfl (n := 114) rfl ?_
            refine Vw.if_eq (tgt := 126) (n := 117) (de_if_eq (B 114 _ rfl) (B 115 _ rfl) (B 116 _ rfl)) rfl rfl (fun c_114 => ?_) (fun c_114 => ?_)
            · exact absurd c_114 (by decide)
            refine Vw.aload_n (de_aload_0 (B 117 _ rfl)) 0 rfl (n := 118) rfl ?_
            refine Vw.getI (de_getfield (B 118 _ rfl) (B 119 _ rfl) (B 120 _ rfl)) fl_X5_51 rfl hx.rd.k (n := 121) rfl ?_
            rw [rm_9]
            refine Vw.bipush (v := 50) (de_bipush (B 121 _ rfl) (B 122 _ rfl)) rfl (n := 123) rfl ?_
            refine Vw.icmp_lt (tgt := 131) (n := 126) (de_icmp_lt (B 123 _ rfl) (B 124 _ rfl) (B 125 _ rfl)) rfl rfl (fun c_123 => ?_) (fun c_123 => ?_)
            · refine Vw.aload_n (de_aload_0 (B 131 _ rfl)) 0 rfl (n := 132) rfl ?_
              refine Vw.dup (de_dup (B 132 _ rfl)) rfl (n := 133) rfl ?_
              refine Vw.getI (de_getfield (B 133 _ rfl) (B 134 _ rfl) (B 135 _ rfl)) fl_X5_51 rfl hx.rd.k (n := 136) rfl ?_
              rw [rm_9]
              refine Vw.iconst (v := 1) (de_iconst_1 (B 136 _ rfl)) rfl (n := 137) rfl ?_
              refine Vw.iadd (de_iadd (B 137 _ rfl)) (n := 138) rfl ?_
              rw [nI_1]
              refine Vw.putI (de_putfield (B 138 _ rfl) (B 139 _ rfl) (B 140 _ rfl)) fl_X5_51 hx.rd.k rfl rfl (n := 141) rfl ?_
              rw [up_9]
              refine Vw.aload_n (de_aload_0 (B 141 _ rfl)) 0 rfl (n := 142) rfl ?_
              refine Vw.dup (de_dup (B 142 _ rfl)) rfl (n := 143) rfl ?_
              refine Vw.getI (de_getfield (B 143 _ rfl) (B 144 _ rfl) (B 145 _ rfl)) fl_X5_48 rfl hx.rd.k (n := 146) rfl ?_
              rw [rm_8]
              refine Vw.iconst (v := 1) (de_iconst_1 (B 146 _ rfl)) rfl (n := 147) rfl ?_
              refine Vw.iadd (de_iadd (B 147 _ rfl)) (n := 148) rfl ?_
              rw [nI_1]
              refine Vw.putI (de_putfield (B 148 _ rfl) (B 149 _ rfl) (B 150 _ rfl)) fl_X5_48 hx.rd.k rfl rfl (n := 151) rfl ?_
              rw [up_8]
              refine Vw.iload_n (de_iload_3 (B 151 _ rfl)) 3 rfl (n := 152) rfl ?_
              refine Vw.iconst (v := -1) (de_iconst_m1 (B 152 _ rfl)) rfl (n := 153) rfl ?_
              refine Vw.icmp_ne (tgt := 165) (n := 156) (de_icmp_ne (B 153 _ rfl) (B 154 _ rfl) (B 155 _ rfl)) rfl rfl (fun c_153 => ?_) (fun c_153 => ?_)
              · refine Vw.aload_n (de_aload_0 (B 165 _ rfl)) 0 rfl (n := 166) rfl ?_
                refine Vw.getI (de_getfield (B 166 _ rfl) (B 167 _ rfl) (B 168 _ rfl)) fl_X5_40 rfl hx.rd.k (n := 169) rfl ?_
                rw [rm_6, hx.ord]
                refine Vw.if_eq (tgt := 185) (n := 172) (de_if_eq (B 169 _ rfl) (B 170 _ rfl) (B 171 _ rfl)) rfl rfl (fun c_169 => ?_) (fun c_169 => ?_)
                · refine Vw.aload_n (de_aload_0 (B 185 _ rfl)) 0 rfl (n := 186) rfl ?_
                  refine Vw.iconst (v := 1) (de_iconst_1 (B 186 _ rfl)) rfl (n := 187) rfl ?_
                  refine Vw.iload_n (de_iload_3 (B 187 _ rfl)) 3 rfl (n := 188) rfl ?_
                  refine Vw.ivi2 (mi' := mX5_emit) (de_invokevirtual (B 188 _ rfl) (B 189 _ rfl) (B 190 _ rfl)) ml_X5_143 mv_X5_emit hx.rd.k (Nat.le_of_ble_eq_true rfl) (n := 191) rfl (k_emit (op := 1) (k := kk) hx (by decide) (by omega) (show c < 400 by omega) ?_)
                  refine Vw.if_lt (tgt := 198) (n := 194) (de_if_lt (B 191 _ rfl) (B 192 _ rfl) (B 193 _ rfl)) rfl rfl (fun c_191 => ?_) (fun c_191 => ?_)
                  · exact absurd c_191 (nn_nI (by omega))
                  refine Vw.iconst (v := 1) (de_iconst_1 (B 194 _ rfl)) rfl (n := 195) rfl ?_
                  refine Vw.goto_ (n := 199) (de_goto_ (B 195 _ rfl) (B 196 _ rfl) (B 197 _ rfl)) rfl ?_
                  exact Vw.zret (de_ireturn (B 199 _ rfl)) rfl rfl ⟨_, rfl, (by
      refine h1 (i + 1) (l + 1) _ (c + 1) _ ?_ (by omega) (by omega) (by have := lt50 c_123; omega) (by omega) (fun x hx2 => upK_lt hx2) ((WC2_word (k := kk) (show kk < 8 by omega) (by omega) (upK_s _ _ _))) (fun z => by cases z)
      unfold pPart
      rw [if_neg nb, if_pos (Or.inr v_ok), if_neg (lt50 c_123), if_neg n_m, if_neg n_50, w_ix])⟩
                exact absurd c_169 (by decide)
              exact absurd c_153 (nI_m1 (by omega))
            refine Vw.aload_n (de_aload_0 (B 126 _ rfl)) 0 rfl (n := 127) rfl ?_
            refine Vw.ivi0 (mi' := mX5_fail) (de_invokevirtual (B 127 _ rfl) (B 128 _ rfl) (B 129 _ rfl)) ml_X5_67 mv_X5_fail hx.rd.k (Nat.le_of_ble_eq_true rfl) (n := 130) rfl (k_fail hx hi ?_)
            exact Vw.zret (de_ireturn (B 130 _ rfl)) rfl rfl ⟨_, rfl, (by first
      | (have q50 := ge50 c_123
         refine h0 i _ _ _ _ ?_ hi
         unfold pPart
         rw [if_neg nb, if_pos (Or.inr v_ok), if_pos q50])
      | (refine h0 i _ _ _ _ ?_ hi
         unfold pPart
         rw [if_neg nb, if_neg ?_]
         rintro (q | q)
         · first | exact n1 q.1 | exact absurd (i32_le.mp q.2) (by show ¬ _ ≤ (1000 : Int); omega)
         · rw [v_no] at q; cases q))⟩
          exact absurd c_91 (nI_m1 (by omega))
        exact absurd c_75 (by decide)
      · rcases hx.num hi with ⟨n1, n2⟩ | ⟨n1, v, v1, v2, n2⟩ | ⟨n1, n3, n2⟩
        · skip
          refine Vw.aload_n (de_aload_0 (B 60 _ rfl)) 0 rfl (n := 61) rfl ?_
          refine Vw.getR (de_getfield (B 61 _ rfl) (B 62 _ rfl) (B 63 _ rfl)) fl_X5_30 rfl hx.rd.k hx.rd.f4 (n := 64) rfl ?_
          refine Vw.aload_n (de_aload_0 (B 64 _ rfl)) 0 rfl (n := 65) rfl ?_
          refine Vw.getI (de_getfield (B 65 _ rfl) (B 66 _ rfl) (B 67 _ rfl)) fl_X5_48 rfl hx.rd.k (n := 68) rfl ?_
          rw [rm_8]
          refine Vw.iald (de_iaload (B 68 _ rfl)) hx.rd.r4 (vIx_n (k := i) rfl (by omega)) (n := 69) rfl ?_
          rw [rm_nm, n2]
          refine Vw.istore_n (lv2 := [(0, _), (1, _), (2, _)]) (de_istore_2 (B 69 _ rfl)) rfl (by decide) [1, 2, 0] rfl (n := 70) rfl ?_
          refine Vw.aload_n (de_aload_0 (B 70 _ rfl)) 0 rfl (n := 71) rfl ?_
          refine Vw.aload_n (de_aload_0 (B 71 _ rfl)) 0 rfl (n := 72) rfl ?_
          refine Vw.getI (de_getfield (B 72 _ rfl) (B 73 _ rfl) (B 74 _ rfl)) fl_X5_40 rfl hx.rd.k (n := 75) rfl ?_
          rw [rm_6, hx.ord]
          refine Vw.if_eq (tgt := 83) (n := 78) (de_if_eq (B 75 _ rfl) (B 76 _ rfl) (B 77 _ rfl)) rfl rfl (fun c_75 => ?_) (fun c_75 => ?_)
          · obtain ⟨z83, hz83⟩ := hx.str 3 (by decide)
            refine Vw.ldcS (i := 3) (de_ldc (B 83 _ rfl) (B 84 _ rfl)) rfl (by decide) hz83.2.1 (n := 85) rfl ?_
            refine Vw.ivi1 (mi' := mX5_listed) (de_invokevirtual (B 85 _ rfl) (B 86 _ rfl) (B 87 _ rfl)) ml_X5_95 mv_X5_listed hx.rd.k (Nat.le_of_ble_eq_true rfl) (n := 88) rfl (k_listed hx hz83 hi ?_)
            rw [w2]
            refine Vw.istore_n (lv2 := [(0, _), (1, _), (2, _), (3, _)]) (de_istore_3 (B 88 _ rfl)) rfl (by decide) [1, 2, 3, 0] rfl (n := 89) rfl ?_
            refine Vw.iload_n (de_iload_3 (B 89 _ rfl)) 3 rfl (n := 90) rfl ?_
            refine Vw.iconst (v := -1) (de_iconst_m1 (B 90 _ rfl)) rfl (n := 91) rfl ?_
            refine Vw.icmp_ne (tgt := 105) (n := 94) (de_icmp_ne (B 91 _ rfl) (B 92 _ rfl) (B 93 _ rfl)) rfl rfl (fun c_91 => ?_) (fun c_91 => ?_)
            · exact absurd rfl c_91
            refine Vw.iload_n (de_iload_2 (B 94 _ rfl)) 2 rfl (n := 95) rfl ?_
            refine Vw.if_lt (tgt := 109) (n := 98) (de_if_lt (B 95 _ rfl) (B 96 _ rfl) (B 97 _ rfl)) rfl rfl (fun c_95 => ?_) (fun c_95 => ?_)
            · refine Vw.iconst (v := 0) (de_iconst_0 (B 109 _ rfl)) rfl (n := 110) rfl ?_
              refine Vw.istore (lv2 := [(0, _), (1, _), (2, _), (3, _), (4, _)]) (de_istore (B 110 _ rfl) (B 111 _ rfl)) (by decide) [1, 2, 3, 4, 0] rfl (n := 112) rfl ?_
              refine Vw.iload (de_iload (B 112 _ rfl) (B 113 _ rfl)) 4 rfl (n := 114) rfl ?_
              refine Vw.if_eq (tgt := 126) (n := 117) (de_if_eq (B 114 _ rfl) (B 115 _ rfl) (B 116 _ rfl)) rfl rfl (fun c_114 => ?_) (fun c_114 => ?_)
              · refine Vw.aload_n (de_aload_0 (B 126 _ rfl)) 0 rfl (n := 127) rfl ?_
                refine Vw.ivi0 (mi' := mX5_fail) (de_invokevirtual (B 127 _ rfl) (B 128 _ rfl) (B 129 _ rfl)) ml_X5_67 mv_X5_fail hx.rd.k (Nat.le_of_ble_eq_true rfl) (n := 130) rfl (k_fail hx hi ?_)
                exact Vw.zret (de_ireturn (B 130 _ rfl)) rfl rfl ⟨_, rfl, (by first
      | (have q50 := ge50 c_123
         refine h0 i _ _ _ _ ?_ hi
         unfold pPart
         rw [if_neg nb, if_pos (Or.inl ⟨n1, by rw [v2]; exact (nI_leI (a := v) (b := 1000) (by omega) (by omega)).mpr v1⟩), if_pos q50])
      | (refine h0 i _ _ _ _ ?_ hi
         unfold pPart
         rw [if_neg nb, if_neg ?_]
         rintro (q | q)
         · first | exact n1 q.1 | exact absurd (i32_le.mp q.2) (by show ¬ _ ≤ (1000 : Int); omega)
         · rw [v_no] at q; cases q))⟩
              exact absurd c_114 (by decide)
            exact absurd (by decide) c_95
          exact absurd c_75 (by decide)
        · have i1 : i < nt := ilt (by rw [n1]; decide)
          refine Vw.aload_n (de_aload_0 (B 60 _ rfl)) 0 rfl (n := 61) rfl ?_
          refine Vw.getR (de_getfield (B 61 _ rfl) (B 62 _ rfl) (B 63 _ rfl)) fl_X5_30 rfl hx.rd.k hx.rd.f4 (n := 64) rfl ?_
          refine Vw.aload_n (de_aload_0 (B 64 _ rfl)) 0 rfl (n := 65) rfl ?_
          refine Vw.getI (de_getfield (B 65 _ rfl) (B 66 _ rfl) (B 67 _ rfl)) fl_X5_48 rfl hx.rd.k (n := 68) rfl ?_
          rw [rm_8]
          refine Vw.iald (de_iaload (B 68 _ rfl)) hx.rd.r4 (vIx_n (k := i) rfl (by omega)) (n := 69) rfl ?_
          rw [rm_nm, n2]
          refine Vw.istore_n (lv2 := [(0, _), (1, _), (2, _)]) (de_istore_2 (B 69 _ rfl)) rfl (by decide) [1, 2, 0] rfl (n := 70) rfl ?_
          refine Vw.aload_n (de_aload_0 (B 70 _ rfl)) 0 rfl (n := 71) rfl ?_
          refine Vw.aload_n (de_aload_0 (B 71 _ rfl)) 0 rfl (n := 72) rfl ?_
          refine Vw.getI (de_getfield (B 72 _ rfl) (B 73 _ rfl) (B 74 _ rfl)) fl_X5_40 rfl hx.rd.k (n := 75) rfl ?_
          rw [rm_6, hx.ord]
          refine Vw.if_eq (tgt := 83) (n := 78) (de_if_eq (B 75 _ rfl) (B 76 _ rfl) (B 77 _ rfl)) rfl rfl (fun c_75 => ?_) (fun c_75 => ?_)
          · obtain ⟨z83, hz83⟩ := hx.str 3 (by decide)
            refine Vw.ldcS (i := 3) (de_ldc (B 83 _ rfl) (B 84 _ rfl)) rfl (by decide) hz83.2.1 (n := 85) rfl ?_
            refine Vw.ivi1 (mi' := mX5_listed) (de_invokevirtual (B 85 _ rfl) (B 86 _ rfl) (B 87 _ rfl)) ml_X5_95 mv_X5_listed hx.rd.k (Nat.le_of_ble_eq_true rfl) (n := 88) rfl (k_listed hx hz83 hi ?_)
            rw [w2]
            refine Vw.istore_n (lv2 := [(0, _), (1, _), (2, _), (3, _)]) (de_istore_3 (B 88 _ rfl)) rfl (by decide) [1, 2, 3, 0] rfl (n := 89) rfl ?_
            refine Vw.iload_n (de_iload_3 (B 89 _ rfl)) 3 rfl (n := 90) rfl ?_
            refine Vw.iconst (v := -1) (de_iconst_m1 (B 90 _ rfl)) rfl (n := 91) rfl ?_
            refine Vw.icmp_ne (tgt := 105) (n := 94) (de_icmp_ne (B 91 _ rfl) (B 92 _ rfl) (B 93 _ rfl)) rfl rfl (fun c_91 => ?_) (fun c_91 => ?_)
            · exact absurd rfl c_91
            refine Vw.iload_n (de_iload_2 (B 94 _ rfl)) 2 rfl (n := 95) rfl ?_
            refine Vw.if_lt (tgt := 109) (n := 98) (de_if_lt (B 95 _ rfl) (B 96 _ rfl) (B 97 _ rfl)) rfl rfl (fun c_95 => ?_) (fun c_95 => ?_)
            · exact absurd c_95 (nn_nI (by omega))
            refine Vw.iload_n (de_iload_2 (B 98 _ rfl)) 2 rfl (n := 99) rfl ?_
            refine Vw.sipush (v := 1000) (de_sipush (B 99 _ rfl) (B 100 _ rfl) (B 101 _ rfl)) rfl (n := 102) rfl ?_
            refine Vw.icmp_gt (tgt := 109) (n := 105) (de_icmp_gt (B 102 _ rfl) (B 103 _ rfl) (B 104 _ rfl)) rfl rfl (fun c_102 => ?_) (fun c_102 => ?_)
            · exact absurd ((nI_leI (a := v) (b := 1000) (by omega) (by omega)).mpr v1) (Int32.not_le.mpr c_102)
            refine Vw.iconst (v := 1) (de_iconst_1 (B 105 _ rfl)) rfl (n := 106) rfl ?_
            refine Vw.goto_ (n := 110) (de_goto_ (B 106 _ rfl) (B 107 _ rfl) (B 108 _ rfl)) rfl ?_
            refine Vw.istore (lv2 := [(0, _), (1, _), (2, _), (3, _), (4, _)]) (de_istore (B 110 _ rfl) (B 111 _ rfl)) (by decide) [1, 2, 3, 4, 0] rfl (n := 112) rfl ?_
            refine Vw.iload (de_iload (B 112 _ rfl) (B 113 _ rfl)) 4 rfl (n := 114) rfl ?_
            refine Vw.if_eq (tgt := 126) (n := 117) (de_if_eq (B 114 _ rfl) (B 115 _ rfl) (B 116 _ rfl)) rfl rfl (fun c_114 => ?_) (fun c_114 => ?_)
            · exact absurd c_114 (by decide)
            refine Vw.aload_n (de_aload_0 (B 117 _ rfl)) 0 rfl (n := 118) rfl ?_
            refine Vw.getI (de_getfield (B 118 _ rfl) (B 119 _ rfl) (B 120 _ rfl)) fl_X5_51 rfl hx.rd.k (n := 121) rfl ?_
            rw [rm_9]
            refine Vw.bipush (v := 50) (de_bipush (B 121 _ rfl) (B 122 _ rfl)) rfl (n := 123) rfl ?_
            refine Vw.icmp_lt (tgt := 131) (n := 126) (de_icmp_lt (B 123 _ rfl) (B 124 _ rfl) (B 125 _ rfl)) rfl rfl (fun c_123 => ?_) (fun c_123 => ?_)
            · refine Vw.aload_n (de_aload_0 (B 131 _ rfl)) 0 rfl (n := 132) rfl ?_
              refine Vw.dup (de_dup (B 132 _ rfl)) rfl (n := 133) rfl ?_
              refine Vw.getI (de_getfield (B 133 _ rfl) (B 134 _ rfl) (B 135 _ rfl)) fl_X5_51 rfl hx.rd.k (n := 136) rfl ?_
              rw [rm_9]
              refine Vw.iconst (v := 1) (de_iconst_1 (B 136 _ rfl)) rfl (n := 137) rfl ?_
              refine Vw.iadd (de_iadd (B 137 _ rfl)) (n := 138) rfl ?_
              rw [nI_1]
              refine Vw.putI (de_putfield (B 138 _ rfl) (B 139 _ rfl) (B 140 _ rfl)) fl_X5_51 hx.rd.k rfl rfl (n := 141) rfl ?_
              rw [up_9]
              refine Vw.aload_n (de_aload_0 (B 141 _ rfl)) 0 rfl (n := 142) rfl ?_
              refine Vw.dup (de_dup (B 142 _ rfl)) rfl (n := 143) rfl ?_
              refine Vw.getI (de_getfield (B 143 _ rfl) (B 144 _ rfl) (B 145 _ rfl)) fl_X5_48 rfl hx.rd.k (n := 146) rfl ?_
              rw [rm_8]
              refine Vw.iconst (v := 1) (de_iconst_1 (B 146 _ rfl)) rfl (n := 147) rfl ?_
              refine Vw.iadd (de_iadd (B 147 _ rfl)) (n := 148) rfl ?_
              rw [nI_1]
              refine Vw.putI (de_putfield (B 148 _ rfl) (B 149 _ rfl) (B 150 _ rfl)) fl_X5_48 hx.rd.k rfl rfl (n := 151) rfl ?_
              rw [up_8]
              refine Vw.iload_n (de_iload_3 (B 151 _ rfl)) 3 rfl (n := 152) rfl ?_
              refine Vw.iconst (v := -1) (de_iconst_m1 (B 152 _ rfl)) rfl (n := 153) rfl ?_
              refine Vw.icmp_ne (tgt := 165) (n := 156) (de_icmp_ne (B 153 _ rfl) (B 154 _ rfl) (B 155 _ rfl)) rfl rfl (fun c_153 => ?_) (fun c_153 => ?_)
              · exact absurd rfl c_153
              refine Vw.aload_n (de_aload_0 (B 156 _ rfl)) 0 rfl (n := 157) rfl ?_
              refine Vw.iconst (v := 0) (de_iconst_0 (B 157 _ rfl)) rfl (n := 158) rfl ?_
              refine Vw.iload_n (de_iload_2 (B 158 _ rfl)) 2 rfl (n := 159) rfl ?_
              refine Vw.ivi2 (mi' := mX5_emit) (de_invokevirtual (B 159 _ rfl) (B 160 _ rfl) (B 161 _ rfl)) ml_X5_143 mv_X5_emit hx.rd.k (Nat.le_of_ble_eq_true rfl) (n := 162) rfl (k_emit (op := 0) (k := v) hx (by decide) (by omega) (show c < 400 by omega) ?_)
              refine Vw.pop (de_pop (B 162 _ rfl)) rfl (n := 163) rfl ?_
              refine Vw.iconst (v := 1) (de_iconst_1 (B 163 _ rfl)) rfl (n := 164) rfl ?_
              exact Vw.zret (de_ireturn (B 164 _ rfl)) rfl rfl ⟨_, rfl, (by
      refine h1 (i + 1) (l + 1) _ (c + 1) _ ?_ (by omega) (by omega) (by have := lt50 c_123; omega) (by omega) (fun x hx2 => upK_lt hx2) (WC2_num (by omega) (upK_s _ _ _)) (fun z => by cases z)
      unfold pPart
      rw [if_neg nb, if_pos (Or.inl ⟨n1, by rw [v2]; exact (nI_leI (a := v) (b := 1000) (by omega) (by omega)).mpr v1⟩), if_neg (lt50 c_123), if_neg (fun q => by have := q.2; rw [n1] at this; rcases this with z | z <;> exact absurd z (by decide)), if_pos n1, v2])⟩
            refine Vw.aload_n (de_aload_0 (B 126 _ rfl)) 0 rfl (n := 127) rfl ?_
            refine Vw.ivi0 (mi' := mX5_fail) (de_invokevirtual (B 127 _ rfl) (B 128 _ rfl) (B 129 _ rfl)) ml_X5_67 mv_X5_fail hx.rd.k (Nat.le_of_ble_eq_true rfl) (n := 130) rfl (k_fail hx hi ?_)
            exact Vw.zret (de_ireturn (B 130 _ rfl)) rfl rfl ⟨_, rfl, (by first
      | (have q50 := ge50 c_123
         refine h0 i _ _ _ _ ?_ hi
         unfold pPart
         rw [if_neg nb, if_pos (Or.inl ⟨n1, by rw [v2]; exact (nI_leI (a := v) (b := 1000) (by omega) (by omega)).mpr v1⟩), if_pos q50])
      | (refine h0 i _ _ _ _ ?_ hi
         unfold pPart
         rw [if_neg nb, if_neg ?_]
         rintro (q | q)
         · first | exact n1 q.1 | exact absurd (i32_le.mp q.2) (by show ¬ _ ≤ (1000 : Int); omega)
         · rw [v_no] at q; cases q))⟩
          exact absurd c_75 (by decide)
        · have i1 : i < nt := ilt (by rw [n1]; decide)
          refine Vw.aload_n (de_aload_0 (B 60 _ rfl)) 0 rfl (n := 61) rfl ?_
          refine Vw.getR (de_getfield (B 61 _ rfl) (B 62 _ rfl) (B 63 _ rfl)) fl_X5_30 rfl hx.rd.k hx.rd.f4 (n := 64) rfl ?_
          refine Vw.aload_n (de_aload_0 (B 64 _ rfl)) 0 rfl (n := 65) rfl ?_
          refine Vw.getI (de_getfield (B 65 _ rfl) (B 66 _ rfl) (B 67 _ rfl)) fl_X5_48 rfl hx.rd.k (n := 68) rfl ?_
          rw [rm_8]
          refine Vw.iald (de_iaload (B 68 _ rfl)) hx.rd.r4 (vIx_n (k := i) rfl (by omega)) (n := 69) rfl ?_
          rw [rm_nm, n2]
          refine Vw.istore_n (lv2 := [(0, _), (1, _), (2, _)]) (de_istore_2 (B 69 _ rfl)) rfl (by decide) [1, 2, 0] rfl (n := 70) rfl ?_
          refine Vw.aload_n (de_aload_0 (B 70 _ rfl)) 0 rfl (n := 71) rfl ?_
          refine Vw.aload_n (de_aload_0 (B 71 _ rfl)) 0 rfl (n := 72) rfl ?_
          refine Vw.getI (de_getfield (B 72 _ rfl) (B 73 _ rfl) (B 74 _ rfl)) fl_X5_40 rfl hx.rd.k (n := 75) rfl ?_
          rw [rm_6, hx.ord]
          refine Vw.if_eq (tgt := 83) (n := 78) (de_if_eq (B 75 _ rfl) (B 76 _ rfl) (B 77 _ rfl)) rfl rfl (fun c_75 => ?_) (fun c_75 => ?_)
          · obtain ⟨z83, hz83⟩ := hx.str 3 (by decide)
            refine Vw.ldcS (i := 3) (de_ldc (B 83 _ rfl) (B 84 _ rfl)) rfl (by decide) hz83.2.1 (n := 85) rfl ?_
            refine Vw.ivi1 (mi' := mX5_listed) (de_invokevirtual (B 85 _ rfl) (B 86 _ rfl) (B 87 _ rfl)) ml_X5_95 mv_X5_listed hx.rd.k (Nat.le_of_ble_eq_true rfl) (n := 88) rfl (k_listed hx hz83 hi ?_)
            rw [w2]
            refine Vw.istore_n (lv2 := [(0, _), (1, _), (2, _), (3, _)]) (de_istore_3 (B 88 _ rfl)) rfl (by decide) [1, 2, 3, 0] rfl (n := 89) rfl ?_
            refine Vw.iload_n (de_iload_3 (B 89 _ rfl)) 3 rfl (n := 90) rfl ?_
            refine Vw.iconst (v := -1) (de_iconst_m1 (B 90 _ rfl)) rfl (n := 91) rfl ?_
            refine Vw.icmp_ne (tgt := 105) (n := 94) (de_icmp_ne (B 91 _ rfl) (B 92 _ rfl) (B 93 _ rfl)) rfl rfl (fun c_91 => ?_) (fun c_91 => ?_)
            · exact absurd rfl c_91
            refine Vw.iload_n (de_iload_2 (B 94 _ rfl)) 2 rfl (n := 95) rfl ?_
            refine Vw.if_lt (tgt := 109) (n := 98) (de_if_lt (B 95 _ rfl) (B 96 _ rfl) (B 97 _ rfl)) rfl rfl (fun c_95 => ?_) (fun c_95 => ?_)
            · exact absurd c_95 (by decide)
            refine Vw.iload_n (de_iload_2 (B 98 _ rfl)) 2 rfl (n := 99) rfl ?_
            refine Vw.sipush (v := 1000) (de_sipush (B 99 _ rfl) (B 100 _ rfl) (B 101 _ rfl)) rfl (n := 102) rfl ?_
            refine Vw.icmp_gt (tgt := 109) (n := 105) (de_icmp_gt (B 102 _ rfl) (B 103 _ rfl) (B 104 _ rfl)) rfl rfl (fun c_102 => ?_) (fun c_102 => ?_)
            · refine Vw.iconst (v := 0) (de_iconst_0 (B 109 _ rfl)) rfl (n := 110) rfl ?_
              refine Vw.istore (lv2 := [(0, _), (1, _), (2, _), (3, _), (4, _)]) (de_istore (B 110 _ rfl) (B 111 _ rfl)) (by decide) [1, 2, 3, 4, 0] rfl (n := 112) rfl ?_
              refine Vw.iload (de_iload (B 112 _ rfl) (B 113 _ rfl)) 4 rfl (n := 114) rfl ?_
              refine Vw.if_eq (tgt := 126) (n := 117) (de_if_eq (B 114 _ rfl) (B 115 _ rfl) (B 116 _ rfl)) rfl rfl (fun c_114 => ?_) (fun c_114 => ?_)
              · refine Vw.aload_n (de_aload_0 (B 126 _ rfl)) 0 rfl (n := 127) rfl ?_
                refine Vw.ivi0 (mi' := mX5_fail) (de_invokevirtual (B 127 _ rfl) (B 128 _ rfl) (B 129 _ rfl)) ml_X5_67 mv_X5_fail hx.rd.k (Nat.le_of_ble_eq_true rfl) (n := 130) rfl (k_fail hx hi ?_)
                exact Vw.zret (de_ireturn (B 130 _ rfl)) rfl rfl ⟨_, rfl, (by first
      | (have q50 := ge50 c_123
         refine h0 i _ _ _ _ ?_ hi
         unfold pPart
         rw [if_neg nb, if_pos (Or.inl ⟨n1, by rw [v2]; exact (nI_leI (a := v) (b := 1000) (by omega) (by omega)).mpr v1⟩), if_pos q50])
      | (refine h0 i _ _ _ _ ?_ hi
         unfold pPart
         rw [if_neg nb, if_neg ?_]
         rintro (q | q)
         · first | exact n1 q.1 | exact absurd (i32_le.mp q.2) (by show ¬ _ ≤ (1000 : Int); omega)
         · rw [v_no] at q; cases q))⟩
              exact absurd c_114 (by decide)
            exact absurd (by decide) c_102
          exact absurd c_75 (by decide)
    · subst ho
      rcases ls2 (cd i) with ⟨kk, k1, e_c, w2, v_ok, w_ix⟩ | ⟨e_c, w2⟩ | ⟨e_c, w2⟩ | ⟨w2, v_no, x13, x14⟩
      · have n_50 : ¬ cd i = 50 := fun q => by rw [e_c] at q; exact absurd (nI_inj (a := 18 + kk) (b := 50) (by omega) (by decide) q) (by omega)
        have n_m : ¬ (true = true ∧ (cd i = 13 ∨ cd i = 14)) := fun q => by
          rcases q.2 with z | z
          · rw [e_c] at z; exact absurd (nI_inj (a := 18 + kk) (b := 13) (by omega) (by decide) z) (by omega)
          · rw [e_c] at z; exact absurd (nI_inj (a := 18 + kk) (b := 14) (by omega) (by decide) z) (by omega)
        have i1 : i < nt := ilt (by rw [e_c]; exact fun q => absurd (nI_inj (a := 18 + kk) (b := 0) (by omega) (by decide) q) (by omega))
        obtain ⟨x86, n2⟩ : ∃ x, I (s + 86) i = x := ⟨_, rfl⟩
        refine Vw.aload_n (de_aload_0 (B 60 _ rfl)) 0 rfl (n := 61) rfl ?_
        refine Vw.getR (de_getfield (B 61 _ rfl) (B 62 _ rfl) (B 63 _ rfl)) fl_X5_30 rfl hx.rd.k hx.rd.f4 (n := 64) rfl ?_
        refine Vw.aload_n (de_aload_0 (B 64 _ rfl)) 0 rfl (n := 65) rfl ?_
        refine Vw.getI (de_getfield (B 65 _ rfl) (B 66 _ rfl) (B 67 _ rfl)) fl_X5_48 rfl hx.rd.k (n := 68) rfl ?_
        rw [rm_8]
        refine Vw.iald (de_iaload (B 68 _ rfl)) hx.rd.r4 (vIx_n (k := i) rfl (by omega)) (n := 69) rfl ?_
        rw [rm_nm, n2]
        refine Vw.istore_n (lv2 := [(0, _), (1, _), (2, _)]) (de_istore_2 (B 69 _ rfl)) rfl (by decide) [1, 2, 0] rfl (n := 70) rfl ?_
        refine Vw.aload_n (de_aload_0 (B 70 _ rfl)) 0 rfl (n := 71) rfl ?_
        refine Vw.aload_n (de_aload_0 (B 71 _ rfl)) 0 rfl (n := 72) rfl ?_
        refine Vw.getI (de_getfield (B 72 _ rfl) (B 73 _ rfl) (B 74 _ rfl)) fl_X5_40 rfl hx.rd.k (n := 75) rfl ?_
        rw [rm_6, hx.ord]
        refine Vw.if_eq (tgt := 83) (n := 78) (de_if_eq (B 75 _ rfl) (B 76 _ rfl) (B 77 _ rfl)) rfl rfl (fun c_75 => ?_) (fun c_75 => ?_)
        · exact absurd c_75 (by decide)
        obtain ⟨z78, hz78⟩ := hx.str 2 (by decide)
        refine Vw.ldcS (i := 2) (de_ldc (B 78 _ rfl) (B 79 _ rfl)) rfl (by decide) hz78.2.1 (n := 80) rfl ?_
        refine Vw.goto_ (n := 85) (de_goto_ (B 80 _ rfl) (B 81 _ rfl) (B 82 _ rfl)) rfl ?_
        refine Vw.ivi1 (mi' := mX5_listed) (de_invokevirtual (B 85 _ rfl) (B 86 _ rfl) (B 87 _ rfl)) ml_X5_95 mv_X5_listed hx.rd.k (Nat.le_of_ble_eq_true rfl) (n := 88) rfl (k_listed hx hz78 hi ?_)
        rw [w2]
        refine Vw.istore_n (lv2 := [(0, _), (1, _), (2, _), (3, _)]) (de_istore_3 (B 88 _ rfl)) rfl (by decide) [1, 2, 3, 0] rfl (n := 89) rfl ?_
        refine Vw.iload_n (de_iload_3 (B 89 _ rfl)) 3 rfl (n := 90) rfl ?_
        refine Vw.iconst (v := -1) (de_iconst_m1 (B 90 _ rfl)) rfl (n := 91) rfl ?_
        refine Vw.icmp_ne (tgt := 105) (n := 94) (de_icmp_ne (B 91 _ rfl) (B 92 _ rfl) (B 93 _ rfl)) rfl rfl (fun c_91 => ?_) (fun c_91 => ?_)
        · refine Vw.iconst (v := 1) (de_iconst_1 (B 105 _ rfl)) rfl (n := 106) rfl ?_
          refine Vw.goto_ (n := 110) (de_goto_ (B 106 _ rfl) (B 107 _ rfl) (B 108 _ rfl)) rfl ?_
          refine Vw.istore (lv2 := [(0, _), (1, _), (2, _), (3, _), (4, _)]) (de_istore (B 110 _ rfl) (B 111 _ rfl)) (by decide) [1, 2, 3, 4, 0] rfl (n := 112) rfl ?_
          refine Vw.iload (de_iload (B 112 _ rfl) (B 113 _ rfl)) 4 rfl (n := 114) rfl ?_
          refine Vw.if_eq (tgt := 126) (n := 117) (de_if_eq (B 114 _ rfl) (B 115 _ rfl) (B 116 _ rfl)) rfl rfl (fun c_114 => ?_) (fun c_114 => ?_)
          · exact absurd c_114 (by decide)
          refine Vw.aload_n (de_aload_0 (B 117 _ rfl)) 0 rfl (n := 118) rfl ?_
          refine Vw.getI (de_getfield (B 118 _ rfl) (B 119 _ rfl) (B 120 _ rfl)) fl_X5_51 rfl hx.rd.k (n := 121) rfl ?_
          rw [rm_9]
          refine Vw.bipush (v := 50) (de_bipush (B 121 _ rfl) (B 122 _ rfl)) rfl (n := 123) rfl ?_
          refine Vw.icmp_lt (tgt := 131) (n := 126) (de_icmp_lt (B 123 _ rfl) (B 124 _ rfl) (B 125 _ rfl)) rfl rfl (fun c_123 => ?_) (fun c_123 => ?_)
          · refine Vw.aload_n (de_aload_0 (B 131 _ rfl)) 0 rfl (n := 132) rfl ?_
            refine Vw.dup (de_dup (B 132 _ rfl)) rfl (n := 133) rfl ?_
            refine Vw.getI (de_getfield (B 133 _ rfl) (B 134 _ rfl) (B 135 _ rfl)) fl_X5_51 rfl hx.rd.k (n := 136) rfl ?_
            rw [rm_9]
            refine Vw.iconst (v := 1) (de_iconst_1 (B 136 _ rfl)) rfl (n := 137) rfl ?_
            refine Vw.iadd (de_iadd (B 137 _ rfl)) (n := 138) rfl ?_
            rw [nI_1]
            refine Vw.putI (de_putfield (B 138 _ rfl) (B 139 _ rfl) (B 140 _ rfl)) fl_X5_51 hx.rd.k rfl rfl (n := 141) rfl ?_
            rw [up_9]
            refine Vw.aload_n (de_aload_0 (B 141 _ rfl)) 0 rfl (n := 142) rfl ?_
            refine Vw.dup (de_dup (B 142 _ rfl)) rfl (n := 143) rfl ?_
            refine Vw.getI (de_getfield (B 143 _ rfl) (B 144 _ rfl) (B 145 _ rfl)) fl_X5_48 rfl hx.rd.k (n := 146) rfl ?_
            rw [rm_8]
            refine Vw.iconst (v := 1) (de_iconst_1 (B 146 _ rfl)) rfl (n := 147) rfl ?_
            refine Vw.iadd (de_iadd (B 147 _ rfl)) (n := 148) rfl ?_
            rw [nI_1]
            refine Vw.putI (de_putfield (B 148 _ rfl) (B 149 _ rfl) (B 150 _ rfl)) fl_X5_48 hx.rd.k rfl rfl (n := 151) rfl ?_
            rw [up_8]
            refine Vw.iload_n (de_iload_3 (B 151 _ rfl)) 3 rfl (n := 152) rfl ?_
            refine Vw.iconst (v := -1) (de_iconst_m1 (B 152 _ rfl)) rfl (n := 153) rfl ?_
            refine Vw.icmp_ne (tgt := 165) (n := 156) (de_icmp_ne (B 153 _ rfl) (B 154 _ rfl) (B 155 _ rfl)) rfl rfl (fun c_153 => ?_) (fun c_153 => ?_)
            · refine Vw.aload_n (de_aload_0 (B 165 _ rfl)) 0 rfl (n := 166) rfl ?_
              refine Vw.getI (de_getfield (B 166 _ rfl) (B 167 _ rfl) (B 168 _ rfl)) fl_X5_40 rfl hx.rd.k (n := 169) rfl ?_
              rw [rm_6, hx.ord]
              refine Vw.if_eq (tgt := 185) (n := 172) (de_if_eq (B 169 _ rfl) (B 170 _ rfl) (B 171 _ rfl)) rfl rfl (fun c_169 => ?_) (fun c_169 => ?_)
              · exact absurd c_169 (by decide)
              refine Vw.iload_n (de_iload_3 (B 172 _ rfl)) 3 rfl (n := 173) rfl ?_
              refine Vw.iconst (v := 3) (de_iconst_3 (B 173 _ rfl)) rfl (n := 174) rfl ?_
              refine Vw.icmp_lt (tgt := 185) (n := 177) (de_icmp_lt (B 174 _ rfl) (B 175 _ rfl) (B 176 _ rfl)) rfl rfl (fun c_174 => ?_) (fun c_174 => ?_)
              · refine Vw.aload_n (de_aload_0 (B 185 _ rfl)) 0 rfl (n := 186) rfl ?_
                refine Vw.iconst (v := 1) (de_iconst_1 (B 186 _ rfl)) rfl (n := 187) rfl ?_
                refine Vw.iload_n (de_iload_3 (B 187 _ rfl)) 3 rfl (n := 188) rfl ?_
                refine Vw.ivi2 (mi' := mX5_emit) (de_invokevirtual (B 188 _ rfl) (B 189 _ rfl) (B 190 _ rfl)) ml_X5_143 mv_X5_emit hx.rd.k (Nat.le_of_ble_eq_true rfl) (n := 191) rfl (k_emit (op := 1) (k := kk) hx (by decide) (by omega) (show c < 400 by omega) ?_)
                refine Vw.if_lt (tgt := 198) (n := 194) (de_if_lt (B 191 _ rfl) (B 192 _ rfl) (B 193 _ rfl)) rfl rfl (fun c_191 => ?_) (fun c_191 => ?_)
                · exact absurd c_191 (nn_nI (by omega))
                refine Vw.iconst (v := 1) (de_iconst_1 (B 194 _ rfl)) rfl (n := 195) rfl ?_
                refine Vw.goto_ (n := 199) (de_goto_ (B 195 _ rfl) (B 196 _ rfl) (B 197 _ rfl)) rfl ?_
                exact Vw.zret (de_ireturn (B 199 _ rfl)) rfl rfl ⟨_, rfl, (by
      refine h1 (i + 1) (l + 1) _ (c + 1) _ ?_ (by omega) (by omega) (by have := lt50 c_123; omega) (by omega) (fun x hx2 => upK_lt hx2) ((WC2_word (k := kk) (show kk < 19 by omega) (by omega) (upK_s _ _ _))) (fun z => by cases z)
      unfold pPart
      rw [if_neg nb, if_pos (Or.inr v_ok), if_neg (lt50 c_123), if_neg n_m, if_neg n_50, w_ix])⟩
              exact absurd (i32_lt.mpr (by rw [nI_ti (by omega)]; show (kk : Int) < 3; omega)) c_174
            exact absurd c_153 (nI_m1 (by omega))
          refine Vw.aload_n (de_aload_0 (B 126 _ rfl)) 0 rfl (n := 127) rfl ?_
          refine Vw.ivi0 (mi' := mX5_fail) (de_invokevirtual (B 127 _ rfl) (B 128 _ rfl) (B 129 _ rfl)) ml_X5_67 mv_X5_fail hx.rd.k (Nat.le_of_ble_eq_true rfl) (n := 130) rfl (k_fail hx hi ?_)
          exact Vw.zret (de_ireturn (B 130 _ rfl)) rfl rfl ⟨_, rfl, (by first
      | (have q50 := ge50 c_123
         refine h0 i _ _ _ _ ?_ hi
         unfold pPart
         rw [if_neg nb, if_pos (Or.inr v_ok), if_pos q50])
      | (refine h0 i _ _ _ _ ?_ hi
         unfold pPart
         rw [if_neg nb, if_neg ?_]
         rintro (q | q)
         · first | exact n1 q.1 | exact absurd (i32_le.mp q.2) (by show ¬ _ ≤ (1000 : Int); omega)
         · rw [v_no] at q; cases q))⟩
        exact absurd c_91 (nI_m1 (by omega))
      · have v_ok : isVal true (cd i) = true := by rw [e_c]; decide
        obtain ⟨x86, n2⟩ : ∃ x, I (s + 86) i = x := ⟨_, rfl⟩
        refine Vw.aload_n (de_aload_0 (B 60 _ rfl)) 0 rfl (n := 61) rfl ?_
        refine Vw.getR (de_getfield (B 61 _ rfl) (B 62 _ rfl) (B 63 _ rfl)) fl_X5_30 rfl hx.rd.k hx.rd.f4 (n := 64) rfl ?_
        refine Vw.aload_n (de_aload_0 (B 64 _ rfl)) 0 rfl (n := 65) rfl ?_
        refine Vw.getI (de_getfield (B 65 _ rfl) (B 66 _ rfl) (B 67 _ rfl)) fl_X5_48 rfl hx.rd.k (n := 68) rfl ?_
        rw [rm_8]
        refine Vw.iald (de_iaload (B 68 _ rfl)) hx.rd.r4 (vIx_n (k := i) rfl (by omega)) (n := 69) rfl ?_
        rw [rm_nm, n2]
        refine Vw.istore_n (lv2 := [(0, _), (1, _), (2, _)]) (de_istore_2 (B 69 _ rfl)) rfl (by decide) [1, 2, 0] rfl (n := 70) rfl ?_
        refine Vw.aload_n (de_aload_0 (B 70 _ rfl)) 0 rfl (n := 71) rfl ?_
        refine Vw.aload_n (de_aload_0 (B 71 _ rfl)) 0 rfl (n := 72) rfl ?_
        refine Vw.getI (de_getfield (B 72 _ rfl) (B 73 _ rfl) (B 74 _ rfl)) fl_X5_40 rfl hx.rd.k (n := 75) rfl ?_
        rw [rm_6, hx.ord]
        refine Vw.if_eq (tgt := 83) (n := 78) (de_if_eq (B 75 _ rfl) (B 76 _ rfl) (B 77 _ rfl)) rfl rfl (fun c_75 => ?_) (fun c_75 => ?_)
        · exact absurd c_75 (by decide)
        obtain ⟨z78, hz78⟩ := hx.str 2 (by decide)
        refine Vw.ldcS (i := 2) (de_ldc (B 78 _ rfl) (B 79 _ rfl)) rfl (by decide) hz78.2.1 (n := 80) rfl ?_
        refine Vw.goto_ (n := 85) (de_goto_ (B 80 _ rfl) (B 81 _ rfl) (B 82 _ rfl)) rfl ?_
        refine Vw.ivi1 (mi' := mX5_listed) (de_invokevirtual (B 85 _ rfl) (B 86 _ rfl) (B 87 _ rfl)) ml_X5_95 mv_X5_listed hx.rd.k (Nat.le_of_ble_eq_true rfl) (n := 88) rfl (k_listed hx hz78 hi ?_)
        rw [w2]
        refine Vw.istore_n (lv2 := [(0, _), (1, _), (2, _), (3, _)]) (de_istore_3 (B 88 _ rfl)) rfl (by decide) [1, 2, 3, 0] rfl (n := 89) rfl ?_
        refine Vw.iload_n (de_iload_3 (B 89 _ rfl)) 3 rfl (n := 90) rfl ?_
        refine Vw.iconst (v := -1) (de_iconst_m1 (B 90 _ rfl)) rfl (n := 91) rfl ?_
        refine Vw.icmp_ne (tgt := 105) (n := 94) (de_icmp_ne (B 91 _ rfl) (B 92 _ rfl) (B 93 _ rfl)) rfl rfl (fun c_91 => ?_) (fun c_91 => ?_)
        · refine Vw.iconst (v := 1) (de_iconst_1 (B 105 _ rfl)) rfl (n := 106) rfl ?_
          refine Vw.goto_ (n := 110) (de_goto_ (B 106 _ rfl) (B 107 _ rfl) (B 108 _ rfl)) rfl ?_
          refine Vw.istore (lv2 := [(0, _), (1, _), (2, _), (3, _), (4, _)]) (de_istore (B 110 _ rfl) (B 111 _ rfl)) (by decide) [1, 2, 3, 4, 0] rfl (n := 112) rfl ?_
          refine Vw.iload (de_iload (B 112 _ rfl) (B 113 _ rfl)) 4 rfl (n := 114) rfl ?_
          refine Vw.if_eq (tgt := 126) (n := 117) (de_if_eq (B 114 _ rfl) (B 115 _ rfl) (B 116 _ rfl)) rfl rfl (fun c_114 => ?_) (fun c_114 => ?_)
          · exact absurd c_114 (by decide)
          refine Vw.aload_n (de_aload_0 (B 117 _ rfl)) 0 rfl (n := 118) rfl ?_
          refine Vw.getI (de_getfield (B 118 _ rfl) (B 119 _ rfl) (B 120 _ rfl)) fl_X5_51 rfl hx.rd.k (n := 121) rfl ?_
          rw [rm_9]
          refine Vw.bipush (v := 50) (de_bipush (B 121 _ rfl) (B 122 _ rfl)) rfl (n := 123) rfl ?_
          refine Vw.icmp_lt (tgt := 131) (n := 126) (de_icmp_lt (B 123 _ rfl) (B 124 _ rfl) (B 125 _ rfl)) rfl rfl (fun c_123 => ?_) (fun c_123 => ?_)
          · refine Vw.aload_n (de_aload_0 (B 131 _ rfl)) 0 rfl (n := 132) rfl ?_
            refine Vw.dup (de_dup (B 132 _ rfl)) rfl (n := 133) rfl ?_
            refine Vw.getI (de_getfield (B 133 _ rfl) (B 134 _ rfl) (B 135 _ rfl)) fl_X5_51 rfl hx.rd.k (n := 136) rfl ?_
            rw [rm_9]
            refine Vw.iconst (v := 1) (de_iconst_1 (B 136 _ rfl)) rfl (n := 137) rfl ?_
            refine Vw.iadd (de_iadd (B 137 _ rfl)) (n := 138) rfl ?_
            rw [nI_1]
            refine Vw.putI (de_putfield (B 138 _ rfl) (B 139 _ rfl) (B 140 _ rfl)) fl_X5_51 hx.rd.k rfl rfl (n := 141) rfl ?_
            rw [up_9]
            refine Vw.aload_n (de_aload_0 (B 141 _ rfl)) 0 rfl (n := 142) rfl ?_
            refine Vw.dup (de_dup (B 142 _ rfl)) rfl (n := 143) rfl ?_
            refine Vw.getI (de_getfield (B 143 _ rfl) (B 144 _ rfl) (B 145 _ rfl)) fl_X5_48 rfl hx.rd.k (n := 146) rfl ?_
            rw [rm_8]
            refine Vw.iconst (v := 1) (de_iconst_1 (B 146 _ rfl)) rfl (n := 147) rfl ?_
            refine Vw.iadd (de_iadd (B 147 _ rfl)) (n := 148) rfl ?_
            rw [nI_1]
            refine Vw.putI (de_putfield (B 148 _ rfl) (B 149 _ rfl) (B 150 _ rfl)) fl_X5_48 hx.rd.k rfl rfl (n := 151) rfl ?_
            rw [up_8]
            refine Vw.iload_n (de_iload_3 (B 151 _ rfl)) 3 rfl (n := 152) rfl ?_
            refine Vw.iconst (v := -1) (de_iconst_m1 (B 152 _ rfl)) rfl (n := 153) rfl ?_
            refine Vw.icmp_ne (tgt := 165) (n := 156) (de_icmp_ne (B 153 _ rfl) (B 154 _ rfl) (B 155 _ rfl)) rfl rfl (fun c_153 => ?_) (fun c_153 => ?_)
            · refine Vw.aload_n (de_aload_0 (B 165 _ rfl)) 0 rfl (n := 166) rfl ?_
              refine Vw.getI (de_getfield (B 166 _ rfl) (B 167 _ rfl) (B 168 _ rfl)) fl_X5_40 rfl hx.rd.k (n := 169) rfl ?_
              rw [rm_6, hx.ord]
              refine Vw.if_eq (tgt := 185) (n := 172) (de_if_eq (B 169 _ rfl) (B 170 _ rfl) (B 171 _ rfl)) rfl rfl (fun c_169 => ?_) (fun c_169 => ?_)
              · exact absurd c_169 (by decide)
              refine Vw.iload_n (de_iload_3 (B 172 _ rfl)) 3 rfl (n := 173) rfl ?_
              refine Vw.iconst (v := 3) (de_iconst_3 (B 173 _ rfl)) rfl (n := 174) rfl ?_
              refine Vw.icmp_lt (tgt := 185) (n := 177) (de_icmp_lt (B 174 _ rfl) (B 175 _ rfl) (B 176 _ rfl)) rfl rfl (fun c_174 => ?_) (fun c_174 => ?_)
              · exact absurd c_174 (by decide)
              refine Vw.aload_n (de_aload_0 (B 177 _ rfl)) 0 rfl (n := 178) rfl ?_
              refine Vw.iload_n (de_iload_3 (B 178 _ rfl)) 3 rfl (n := 179) rfl ?_
              refine Vw.ivi1 (mi' := mX5_readMeasured) (de_invokevirtual (B 179 _ rfl) (B 180 _ rfl) (B 181 _ rfl)) ml_X5_172 mv_X5_readMeasured hx.rd.k (Nat.le_of_ble_eq_true rfl) (n := 182) rfl (k_readMeasured (wd := 3) (i := i + 1) (n := c) hx (by have := ilt (by rw [e_c]; decide); omega) (by have := ilt (by rw [e_c]; decide); omega) (by decide) (fun v p1 p2 p3 => ?_) (fun p0 => ?_))
              · refine Vw.goto_ (n := 199) (de_goto_ (B 182 _ rfl) (B 183 _ rfl) (B 184 _ rfl)) rfl ?_
                exact Vw.zret (de_ireturn (B 199 _ rfl)) rfl rfl ⟨_, rfl, (by
      have i1 : i + 1 < nt := by
        rcases Nat.lt_or_ge (i + 1) nt with z | z
        · exact z
        · have := ilt (by rw [e_c]; decide); rw [show i + 1 = nt by omega, hx.c0] at p1; exact absurd p1 (by decide)
      have p4 := (lie07 (show v ≤ 1000 by omega)).mpr p3
      rw [if_pos (by decide)]
      refine h1 (i + 2) (l + 1) _ (c + 1) _ ?_ (by omega) (by omega) (by have := lt50 c_123; omega) (by omega) (fun x hx2 => upK_lt hx2) (WC2_word (k := 3 + v) (show 3 + v < 19 by omega) (by omega) (upK_s _ _ _)) (fun z => by cases z)
      unfold pPart
      rw [if_neg nb, if_pos (Or.inr v_ok), if_neg (lt50 c_123), if_pos ⟨rfl, Or.inl e_c⟩, if_pos ⟨p1, by rw [p2]; exact p4⟩, if_pos e_c, p2, nI_cl (by omega)])⟩
              · refine Vw.goto_ (n := 199) (de_goto_ (B 182 _ rfl) (B 183 _ rfl) (B 184 _ rfl)) rfl ?_
                exact Vw.zret (de_ireturn (B 199 _ rfl)) rfl rfl ⟨_, rfl, (by
      have i1 := ilt (by rw [e_c]; decide)
      refine h0 (i + 1) _ _ _ _ ?_ (by omega)
      unfold pPart
      rw [if_neg nb, if_pos (Or.inr v_ok), if_neg (lt50 c_123), if_pos ⟨rfl, Or.inl e_c⟩, if_neg p0])⟩
            exact absurd c_153 (by decide)
          refine Vw.aload_n (de_aload_0 (B 126 _ rfl)) 0 rfl (n := 127) rfl ?_
          refine Vw.ivi0 (mi' := mX5_fail) (de_invokevirtual (B 127 _ rfl) (B 128 _ rfl) (B 129 _ rfl)) ml_X5_67 mv_X5_fail hx.rd.k (Nat.le_of_ble_eq_true rfl) (n := 130) rfl (k_fail hx hi ?_)
          exact Vw.zret (de_ireturn (B 130 _ rfl)) rfl rfl ⟨_, rfl, (by first
      | (have q50 := ge50 c_123
         refine h0 i _ _ _ _ ?_ hi
         unfold pPart
         rw [if_neg nb, if_pos (Or.inr v_ok), if_pos q50])
      | (refine h0 i _ _ _ _ ?_ hi
         unfold pPart
         rw [if_neg nb, if_neg ?_]
         rintro (q | q)
         · first | exact n1 q.1 | exact absurd (i32_le.mp q.2) (by show ¬ _ ≤ (1000 : Int); omega)
         · rw [v_no] at q; cases q))⟩
        exact absurd c_91 (by decide)
      · have v_ok : isVal true (cd i) = true := by rw [e_c]; decide
        obtain ⟨x86, n2⟩ : ∃ x, I (s + 86) i = x := ⟨_, rfl⟩
        refine Vw.aload_n (de_aload_0 (B 60 _ rfl)) 0 rfl (n := 61) rfl ?_
        refine Vw.getR (de_getfield (B 61 _ rfl) (B 62 _ rfl) (B 63 _ rfl)) fl_X5_30 rfl hx.rd.k hx.rd.f4 (n := 64) rfl ?_
        refine Vw.aload_n (de_aload_0 (B 64 _ rfl)) 0 rfl (n := 65) rfl ?_
        refine Vw.getI (de_getfield (B 65 _ rfl) (B 66 _ rfl) (B 67 _ rfl)) fl_X5_48 rfl hx.rd.k (n := 68) rfl ?_
        rw [rm_8]
        refine Vw.iald (de_iaload (B 68 _ rfl)) hx.rd.r4 (vIx_n (k := i) rfl (by omega)) (n := 69) rfl ?_
        rw [rm_nm, n2]
        refine Vw.istore_n (lv2 := [(0, _), (1, _), (2, _)]) (de_istore_2 (B 69 _ rfl)) rfl (by decide) [1, 2, 0] rfl (n := 70) rfl ?_
        refine Vw.aload_n (de_aload_0 (B 70 _ rfl)) 0 rfl (n := 71) rfl ?_
        refine Vw.aload_n (de_aload_0 (B 71 _ rfl)) 0 rfl (n := 72) rfl ?_
        refine Vw.getI (de_getfield (B 72 _ rfl) (B 73 _ rfl) (B 74 _ rfl)) fl_X5_40 rfl hx.rd.k (n := 75) rfl ?_
        rw [rm_6, hx.ord]
        refine Vw.if_eq (tgt := 83) (n := 78) (de_if_eq (B 75 _ rfl) (B 76 _ rfl) (B 77 _ rfl)) rfl rfl (fun c_75 => ?_) (fun c_75 => ?_)
        · exact absurd c_75 (by decide)
        obtain ⟨z78, hz78⟩ := hx.str 2 (by decide)
        refine Vw.ldcS (i := 2) (de_ldc (B 78 _ rfl) (B 79 _ rfl)) rfl (by decide) hz78.2.1 (n := 80) rfl ?_
        refine Vw.goto_ (n := 85) (de_goto_ (B 80 _ rfl) (B 81 _ rfl) (B 82 _ rfl)) rfl ?_
        refine Vw.ivi1 (mi' := mX5_listed) (de_invokevirtual (B 85 _ rfl) (B 86 _ rfl) (B 87 _ rfl)) ml_X5_95 mv_X5_listed hx.rd.k (Nat.le_of_ble_eq_true rfl) (n := 88) rfl (k_listed hx hz78 hi ?_)
        rw [w2]
        refine Vw.istore_n (lv2 := [(0, _), (1, _), (2, _), (3, _)]) (de_istore_3 (B 88 _ rfl)) rfl (by decide) [1, 2, 3, 0] rfl (n := 89) rfl ?_
        refine Vw.iload_n (de_iload_3 (B 89 _ rfl)) 3 rfl (n := 90) rfl ?_
        refine Vw.iconst (v := -1) (de_iconst_m1 (B 90 _ rfl)) rfl (n := 91) rfl ?_
        refine Vw.icmp_ne (tgt := 105) (n := 94) (de_icmp_ne (B 91 _ rfl) (B 92 _ rfl) (B 93 _ rfl)) rfl rfl (fun c_91 => ?_) (fun c_91 => ?_)
        · refine Vw.iconst (v := 1) (de_iconst_1 (B 105 _ rfl)) rfl (n := 106) rfl ?_
          refine Vw.goto_ (n := 110) (de_goto_ (B 106 _ rfl) (B 107 _ rfl) (B 108 _ rfl)) rfl ?_
          refine Vw.istore (lv2 := [(0, _), (1, _), (2, _), (3, _), (4, _)]) (de_istore (B 110 _ rfl) (B 111 _ rfl)) (by decide) [1, 2, 3, 4, 0] rfl (n := 112) rfl ?_
          refine Vw.iload (de_iload (B 112 _ rfl) (B 113 _ rfl)) 4 rfl (n := 114) rfl ?_
          refine Vw.if_eq (tgt := 126) (n := 117) (de_if_eq (B 114 _ rfl) (B 115 _ rfl) (B 116 _ rfl)) rfl rfl (fun c_114 => ?_) (fun c_114 => ?_)
          · exact absurd c_114 (by decide)
          refine Vw.aload_n (de_aload_0 (B 117 _ rfl)) 0 rfl (n := 118) rfl ?_
          refine Vw.getI (de_getfield (B 118 _ rfl) (B 119 _ rfl) (B 120 _ rfl)) fl_X5_51 rfl hx.rd.k (n := 121) rfl ?_
          rw [rm_9]
          refine Vw.bipush (v := 50) (de_bipush (B 121 _ rfl) (B 122 _ rfl)) rfl (n := 123) rfl ?_
          refine Vw.icmp_lt (tgt := 131) (n := 126) (de_icmp_lt (B 123 _ rfl) (B 124 _ rfl) (B 125 _ rfl)) rfl rfl (fun c_123 => ?_) (fun c_123 => ?_)
          · refine Vw.aload_n (de_aload_0 (B 131 _ rfl)) 0 rfl (n := 132) rfl ?_
            refine Vw.dup (de_dup (B 132 _ rfl)) rfl (n := 133) rfl ?_
            refine Vw.getI (de_getfield (B 133 _ rfl) (B 134 _ rfl) (B 135 _ rfl)) fl_X5_51 rfl hx.rd.k (n := 136) rfl ?_
            rw [rm_9]
            refine Vw.iconst (v := 1) (de_iconst_1 (B 136 _ rfl)) rfl (n := 137) rfl ?_
            refine Vw.iadd (de_iadd (B 137 _ rfl)) (n := 138) rfl ?_
            rw [nI_1]
            refine Vw.putI (de_putfield (B 138 _ rfl) (B 139 _ rfl) (B 140 _ rfl)) fl_X5_51 hx.rd.k rfl rfl (n := 141) rfl ?_
            rw [up_9]
            refine Vw.aload_n (de_aload_0 (B 141 _ rfl)) 0 rfl (n := 142) rfl ?_
            refine Vw.dup (de_dup (B 142 _ rfl)) rfl (n := 143) rfl ?_
            refine Vw.getI (de_getfield (B 143 _ rfl) (B 144 _ rfl) (B 145 _ rfl)) fl_X5_48 rfl hx.rd.k (n := 146) rfl ?_
            rw [rm_8]
            refine Vw.iconst (v := 1) (de_iconst_1 (B 146 _ rfl)) rfl (n := 147) rfl ?_
            refine Vw.iadd (de_iadd (B 147 _ rfl)) (n := 148) rfl ?_
            rw [nI_1]
            refine Vw.putI (de_putfield (B 148 _ rfl) (B 149 _ rfl) (B 150 _ rfl)) fl_X5_48 hx.rd.k rfl rfl (n := 151) rfl ?_
            rw [up_8]
            refine Vw.iload_n (de_iload_3 (B 151 _ rfl)) 3 rfl (n := 152) rfl ?_
            refine Vw.iconst (v := -1) (de_iconst_m1 (B 152 _ rfl)) rfl (n := 153) rfl ?_
            refine Vw.icmp_ne (tgt := 165) (n := 156) (de_icmp_ne (B 153 _ rfl) (B 154 _ rfl) (B 155 _ rfl)) rfl rfl (fun c_153 => ?_) (fun c_153 => ?_)
            · refine Vw.aload_n (de_aload_0 (B 165 _ rfl)) 0 rfl (n := 166) rfl ?_
              refine Vw.getI (de_getfield (B 166 _ rfl) (B 167 _ rfl) (B 168 _ rfl)) fl_X5_40 rfl hx.rd.k (n := 169) rfl ?_
              rw [rm_6, hx.ord]
              refine Vw.if_eq (tgt := 185) (n := 172) (de_if_eq (B 169 _ rfl) (B 170 _ rfl) (B 171 _ rfl)) rfl rfl (fun c_169 => ?_) (fun c_169 => ?_)
              · exact absurd c_169 (by decide)
              refine Vw.iload_n (de_iload_3 (B 172 _ rfl)) 3 rfl (n := 173) rfl ?_
              refine Vw.iconst (v := 3) (de_iconst_3 (B 173 _ rfl)) rfl (n := 174) rfl ?_
              refine Vw.icmp_lt (tgt := 185) (n := 177) (de_icmp_lt (B 174 _ rfl) (B 175 _ rfl) (B 176 _ rfl)) rfl rfl (fun c_174 => ?_) (fun c_174 => ?_)
              · exact absurd c_174 (by decide)
              refine Vw.aload_n (de_aload_0 (B 177 _ rfl)) 0 rfl (n := 178) rfl ?_
              refine Vw.iload_n (de_iload_3 (B 178 _ rfl)) 3 rfl (n := 179) rfl ?_
              refine Vw.ivi1 (mi' := mX5_readMeasured) (de_invokevirtual (B 179 _ rfl) (B 180 _ rfl) (B 181 _ rfl)) ml_X5_172 mv_X5_readMeasured hx.rd.k (Nat.le_of_ble_eq_true rfl) (n := 182) rfl (k_readMeasured (wd := 4) (i := i + 1) (n := c) hx (by have := ilt (by rw [e_c]; decide); omega) (by have := ilt (by rw [e_c]; decide); omega) (by decide) (fun v p1 p2 p3 => ?_) (fun p0 => ?_))
              · refine Vw.goto_ (n := 199) (de_goto_ (B 182 _ rfl) (B 183 _ rfl) (B 184 _ rfl)) rfl ?_
                exact Vw.zret (de_ireturn (B 199 _ rfl)) rfl rfl ⟨_, rfl, (by
      have i1 : i + 1 < nt := by
        rcases Nat.lt_or_ge (i + 1) nt with z | z
        · exact z
        · have := ilt (by rw [e_c]; decide); rw [show i + 1 = nt by omega, hx.c0] at p1; exact absurd p1 (by decide)
      have p4 := (lie07 (show v ≤ 1000 by omega)).mpr p3
      rw [if_neg (by decide)]
      refine h1 (i + 2) (l + 1) _ (c + 1) _ ?_ (by omega) (by omega) (by have := lt50 c_123; omega) (by omega) (fun x hx2 => upK_lt hx2) (WC2_word (k := 11 + v) (show 11 + v < 19 by omega) (by omega) (upK_s _ _ _)) (fun z => by cases z)
      unfold pPart
      rw [if_neg nb, if_pos (Or.inr v_ok), if_neg (lt50 c_123), if_pos ⟨rfl, Or.inr e_c⟩, if_pos ⟨p1, by rw [p2]; exact p4⟩, if_neg (by rw [e_c]; decide), p2, nI_cl (by omega)])⟩
              · refine Vw.goto_ (n := 199) (de_goto_ (B 182 _ rfl) (B 183 _ rfl) (B 184 _ rfl)) rfl ?_
                exact Vw.zret (de_ireturn (B 199 _ rfl)) rfl rfl ⟨_, rfl, (by
      have i1 := ilt (by rw [e_c]; decide)
      refine h0 (i + 1) _ _ _ _ ?_ (by omega)
      unfold pPart
      rw [if_neg nb, if_pos (Or.inr v_ok), if_neg (lt50 c_123), if_pos ⟨rfl, Or.inr e_c⟩, if_neg p0])⟩
            exact absurd c_153 (by decide)
          refine Vw.aload_n (de_aload_0 (B 126 _ rfl)) 0 rfl (n := 127) rfl ?_
          refine Vw.ivi0 (mi' := mX5_fail) (de_invokevirtual (B 127 _ rfl) (B 128 _ rfl) (B 129 _ rfl)) ml_X5_67 mv_X5_fail hx.rd.k (Nat.le_of_ble_eq_true rfl) (n := 130) rfl (k_fail hx hi ?_)
          exact Vw.zret (de_ireturn (B 130 _ rfl)) rfl rfl ⟨_, rfl, (by first
      | (have q50 := ge50 c_123
         refine h0 i _ _ _ _ ?_ hi
         unfold pPart
         rw [if_neg nb, if_pos (Or.inr v_ok), if_pos q50])
      | (refine h0 i _ _ _ _ ?_ hi
         unfold pPart
         rw [if_neg nb, if_neg ?_]
         rintro (q | q)
         · first | exact n1 q.1 | exact absurd (i32_le.mp q.2) (by show ¬ _ ≤ (1000 : Int); omega)
         · rw [v_no] at q; cases q))⟩
        exact absurd c_91 (by decide)
      · rcases hx.num hi with ⟨n1, n2⟩ | ⟨n1, v, v1, v2, n2⟩ | ⟨n1, n3, n2⟩
        · skip
          refine Vw.aload_n (de_aload_0 (B 60 _ rfl)) 0 rfl (n := 61) rfl ?_
          refine Vw.getR (de_getfield (B 61 _ rfl) (B 62 _ rfl) (B 63 _ rfl)) fl_X5_30 rfl hx.rd.k hx.rd.f4 (n := 64) rfl ?_
          refine Vw.aload_n (de_aload_0 (B 64 _ rfl)) 0 rfl (n := 65) rfl ?_
          refine Vw.getI (de_getfield (B 65 _ rfl) (B 66 _ rfl) (B 67 _ rfl)) fl_X5_48 rfl hx.rd.k (n := 68) rfl ?_
          rw [rm_8]
          refine Vw.iald (de_iaload (B 68 _ rfl)) hx.rd.r4 (vIx_n (k := i) rfl (by omega)) (n := 69) rfl ?_
          rw [rm_nm, n2]
          refine Vw.istore_n (lv2 := [(0, _), (1, _), (2, _)]) (de_istore_2 (B 69 _ rfl)) rfl (by decide) [1, 2, 0] rfl (n := 70) rfl ?_
          refine Vw.aload_n (de_aload_0 (B 70 _ rfl)) 0 rfl (n := 71) rfl ?_
          refine Vw.aload_n (de_aload_0 (B 71 _ rfl)) 0 rfl (n := 72) rfl ?_
          refine Vw.getI (de_getfield (B 72 _ rfl) (B 73 _ rfl) (B 74 _ rfl)) fl_X5_40 rfl hx.rd.k (n := 75) rfl ?_
          rw [rm_6, hx.ord]
          refine Vw.if_eq (tgt := 83) (n := 78) (de_if_eq (B 75 _ rfl) (B 76 _ rfl) (B 77 _ rfl)) rfl rfl (fun c_75 => ?_) (fun c_75 => ?_)
          · exact absurd c_75 (by decide)
          obtain ⟨z78, hz78⟩ := hx.str 2 (by decide)
          refine Vw.ldcS (i := 2) (de_ldc (B 78 _ rfl) (B 79 _ rfl)) rfl (by decide) hz78.2.1 (n := 80) rfl ?_
          refine Vw.goto_ (n := 85) (de_goto_ (B 80 _ rfl) (B 81 _ rfl) (B 82 _ rfl)) rfl ?_
          refine Vw.ivi1 (mi' := mX5_listed) (de_invokevirtual (B 85 _ rfl) (B 86 _ rfl) (B 87 _ rfl)) ml_X5_95 mv_X5_listed hx.rd.k (Nat.le_of_ble_eq_true rfl) (n := 88) rfl (k_listed hx hz78 hi ?_)
          rw [w2]
          refine Vw.istore_n (lv2 := [(0, _), (1, _), (2, _), (3, _)]) (de_istore_3 (B 88 _ rfl)) rfl (by decide) [1, 2, 3, 0] rfl (n := 89) rfl ?_
          refine Vw.iload_n (de_iload_3 (B 89 _ rfl)) 3 rfl (n := 90) rfl ?_
          refine Vw.iconst (v := -1) (de_iconst_m1 (B 90 _ rfl)) rfl (n := 91) rfl ?_
          refine Vw.icmp_ne (tgt := 105) (n := 94) (de_icmp_ne (B 91 _ rfl) (B 92 _ rfl) (B 93 _ rfl)) rfl rfl (fun c_91 => ?_) (fun c_91 => ?_)
          · exact absurd rfl c_91
          refine Vw.iload_n (de_iload_2 (B 94 _ rfl)) 2 rfl (n := 95) rfl ?_
          refine Vw.if_lt (tgt := 109) (n := 98) (de_if_lt (B 95 _ rfl) (B 96 _ rfl) (B 97 _ rfl)) rfl rfl (fun c_95 => ?_) (fun c_95 => ?_)
          · refine Vw.iconst (v := 0) (de_iconst_0 (B 109 _ rfl)) rfl (n := 110) rfl ?_
            refine Vw.istore (lv2 := [(0, _), (1, _), (2, _), (3, _), (4, _)]) (de_istore (B 110 _ rfl) (B 111 _ rfl)) (by decide) [1, 2, 3, 4, 0] rfl (n := 112) rfl ?_
            refine Vw.iload (de_iload (B 112 _ rfl) (B 113 _ rfl)) 4 rfl (n := 114) rfl ?_
            refine Vw.if_eq (tgt := 126) (n := 117) (de_if_eq (B 114 _ rfl) (B 115 _ rfl) (B 116 _ rfl)) rfl rfl (fun c_114 => ?_) (fun c_114 => ?_)
            · refine Vw.aload_n (de_aload_0 (B 126 _ rfl)) 0 rfl (n := 127) rfl ?_
              refine Vw.ivi0 (mi' := mX5_fail) (de_invokevirtual (B 127 _ rfl) (B 128 _ rfl) (B 129 _ rfl)) ml_X5_67 mv_X5_fail hx.rd.k (Nat.le_of_ble_eq_true rfl) (n := 130) rfl (k_fail hx hi ?_)
              exact Vw.zret (de_ireturn (B 130 _ rfl)) rfl rfl ⟨_, rfl, (by first
      | (have q50 := ge50 c_123
         refine h0 i _ _ _ _ ?_ hi
         unfold pPart
         rw [if_neg nb, if_pos (Or.inl ⟨n1, by rw [v2]; exact (nI_leI (a := v) (b := 1000) (by omega) (by omega)).mpr v1⟩), if_pos q50])
      | (refine h0 i _ _ _ _ ?_ hi
         unfold pPart
         rw [if_neg nb, if_neg ?_]
         rintro (q | q)
         · first | exact n1 q.1 | exact absurd (i32_le.mp q.2) (by show ¬ _ ≤ (1000 : Int); omega)
         · rw [v_no] at q; cases q))⟩
            exact absurd c_114 (by decide)
          exact absurd (by decide) c_95
        · have i1 : i < nt := ilt (by rw [n1]; decide)
          refine Vw.aload_n (de_aload_0 (B 60 _ rfl)) 0 rfl (n := 61) rfl ?_
          refine Vw.getR (de_getfield (B 61 _ rfl) (B 62 _ rfl) (B 63 _ rfl)) fl_X5_30 rfl hx.rd.k hx.rd.f4 (n := 64) rfl ?_
          refine Vw.aload_n (de_aload_0 (B 64 _ rfl)) 0 rfl (n := 65) rfl ?_
          refine Vw.getI (de_getfield (B 65 _ rfl) (B 66 _ rfl) (B 67 _ rfl)) fl_X5_48 rfl hx.rd.k (n := 68) rfl ?_
          rw [rm_8]
          refine Vw.iald (de_iaload (B 68 _ rfl)) hx.rd.r4 (vIx_n (k := i) rfl (by omega)) (n := 69) rfl ?_
          rw [rm_nm, n2]
          refine Vw.istore_n (lv2 := [(0, _), (1, _), (2, _)]) (de_istore_2 (B 69 _ rfl)) rfl (by decide) [1, 2, 0] rfl (n := 70) rfl ?_
          refine Vw.aload_n (de_aload_0 (B 70 _ rfl)) 0 rfl (n := 71) rfl ?_
          refine Vw.aload_n (de_aload_0 (B 71 _ rfl)) 0 rfl (n := 72) rfl ?_
          refine Vw.getI (de_getfield (B 72 _ rfl) (B 73 _ rfl) (B 74 _ rfl)) fl_X5_40 rfl hx.rd.k (n := 75) rfl ?_
          rw [rm_6, hx.ord]
          refine Vw.if_eq (tgt := 83) (n := 78) (de_if_eq (B 75 _ rfl) (B 76 _ rfl) (B 77 _ rfl)) rfl rfl (fun c_75 => ?_) (fun c_75 => ?_)
          · exact absurd c_75 (by decide)
          obtain ⟨z78, hz78⟩ := hx.str 2 (by decide)
          refine Vw.ldcS (i := 2) (de_ldc (B 78 _ rfl) (B 79 _ rfl)) rfl (by decide) hz78.2.1 (n := 80) rfl ?_
          refine Vw.goto_ (n := 85) (de_goto_ (B 80 _ rfl) (B 81 _ rfl) (B 82 _ rfl)) rfl ?_
          refine Vw.ivi1 (mi' := mX5_listed) (de_invokevirtual (B 85 _ rfl) (B 86 _ rfl) (B 87 _ rfl)) ml_X5_95 mv_X5_listed hx.rd.k (Nat.le_of_ble_eq_true rfl) (n := 88) rfl (k_listed hx hz78 hi ?_)
          rw [w2]
          refine Vw.istore_n (lv2 := [(0, _), (1, _), (2, _), (3, _)]) (de_istore_3 (B 88 _ rfl)) rfl (by decide) [1, 2, 3, 0] rfl (n := 89) rfl ?_
          refine Vw.iload_n (de_iload_3 (B 89 _ rfl)) 3 rfl (n := 90) rfl ?_
          refine Vw.iconst (v := -1) (de_iconst_m1 (B 90 _ rfl)) rfl (n := 91) rfl ?_
          refine Vw.icmp_ne (tgt := 105) (n := 94) (de_icmp_ne (B 91 _ rfl) (B 92 _ rfl) (B 93 _ rfl)) rfl rfl (fun c_91 => ?_) (fun c_91 => ?_)
          · exact absurd rfl c_91
          refine Vw.iload_n (de_iload_2 (B 94 _ rfl)) 2 rfl (n := 95) rfl ?_
          refine Vw.if_lt (tgt := 109) (n := 98) (de_if_lt (B 95 _ rfl) (B 96 _ rfl) (B 97 _ rfl)) rfl rfl (fun c_95 => ?_) (fun c_95 => ?_)
          · exact absurd c_95 (nn_nI (by omega))
          refine Vw.iload_n (de_iload_2 (B 98 _ rfl)) 2 rfl (n := 99) rfl ?_
          refine Vw.sipush (v := 1000) (de_sipush (B 99 _ rfl) (B 100 _ rfl) (B 101 _ rfl)) rfl (n := 102) rfl ?_
          refine Vw.icmp_gt (tgt := 109) (n := 105) (de_icmp_gt (B 102 _ rfl) (B 103 _ rfl) (B 104 _ rfl)) rfl rfl (fun c_102 => ?_) (fun c_102 => ?_)
          · exact absurd ((nI_leI (a := v) (b := 1000) (by omega) (by omega)).mpr v1) (Int32.not_le.mpr c_102)
          refine Vw.iconst (v := 1) (de_iconst_1 (B 105 _ rfl)) rfl (n := 106) rfl ?_
          refine Vw.goto_ (n := 110) (de_goto_ (B 106 _ rfl) (B 107 _ rfl) (B 108 _ rfl)) rfl ?_
          refine Vw.istore (lv2 := [(0, _), (1, _), (2, _), (3, _), (4, _)]) (de_istore (B 110 _ rfl) (B 111 _ rfl)) (by decide) [1, 2, 3, 4, 0] rfl (n := 112) rfl ?_
          refine Vw.iload (de_iload (B 112 _ rfl) (B 113 _ rfl)) 4 rfl (n := 114) rfl ?_
          refine Vw.if_eq (tgt := 126) (n := 117) (de_if_eq (B 114 _ rfl) (B 115 _ rfl) (B 116 _ rfl)) rfl rfl (fun c_114 => ?_) (fun c_114 => ?_)
          · exact absurd c_114 (by decide)
          refine Vw.aload_n (de_aload_0 (B 117 _ rfl)) 0 rfl (n := 118) rfl ?_
          refine Vw.getI (de_getfield (B 118 _ rfl) (B 119 _ rfl) (B 120 _ rfl)) fl_X5_51 rfl hx.rd.k (n := 121) rfl ?_
          rw [rm_9]
          refine Vw.bipush (v := 50) (de_bipush (B 121 _ rfl) (B 122 _ rfl)) rfl (n := 123) rfl ?_
          refine Vw.icmp_lt (tgt := 131) (n := 126) (de_icmp_lt (B 123 _ rfl) (B 124 _ rfl) (B 125 _ rfl)) rfl rfl (fun c_123 => ?_) (fun c_123 => ?_)
          · refine Vw.aload_n (de_aload_0 (B 131 _ rfl)) 0 rfl (n := 132) rfl ?_
            refine Vw.dup (de_dup (B 132 _ rfl)) rfl (n := 133) rfl ?_
            refine Vw.getI (de_getfield (B 133 _ rfl) (B 134 _ rfl) (B 135 _ rfl)) fl_X5_51 rfl hx.rd.k (n := 136) rfl ?_
            rw [rm_9]
            refine Vw.iconst (v := 1) (de_iconst_1 (B 136 _ rfl)) rfl (n := 137) rfl ?_
            refine Vw.iadd (de_iadd (B 137 _ rfl)) (n := 138) rfl ?_
            rw [nI_1]
            refine Vw.putI (de_putfield (B 138 _ rfl) (B 139 _ rfl) (B 140 _ rfl)) fl_X5_51 hx.rd.k rfl rfl (n := 141) rfl ?_
            rw [up_9]
            refine Vw.aload_n (de_aload_0 (B 141 _ rfl)) 0 rfl (n := 142) rfl ?_
            refine Vw.dup (de_dup (B 142 _ rfl)) rfl (n := 143) rfl ?_
            refine Vw.getI (de_getfield (B 143 _ rfl) (B 144 _ rfl) (B 145 _ rfl)) fl_X5_48 rfl hx.rd.k (n := 146) rfl ?_
            rw [rm_8]
            refine Vw.iconst (v := 1) (de_iconst_1 (B 146 _ rfl)) rfl (n := 147) rfl ?_
            refine Vw.iadd (de_iadd (B 147 _ rfl)) (n := 148) rfl ?_
            rw [nI_1]
            refine Vw.putI (de_putfield (B 148 _ rfl) (B 149 _ rfl) (B 150 _ rfl)) fl_X5_48 hx.rd.k rfl rfl (n := 151) rfl ?_
            rw [up_8]
            refine Vw.iload_n (de_iload_3 (B 151 _ rfl)) 3 rfl (n := 152) rfl ?_
            refine Vw.iconst (v := -1) (de_iconst_m1 (B 152 _ rfl)) rfl (n := 153) rfl ?_
            refine Vw.icmp_ne (tgt := 165) (n := 156) (de_icmp_ne (B 153 _ rfl) (B 154 _ rfl) (B 155 _ rfl)) rfl rfl (fun c_153 => ?_) (fun c_153 => ?_)
            · exact absurd rfl c_153
            refine Vw.aload_n (de_aload_0 (B 156 _ rfl)) 0 rfl (n := 157) rfl ?_
            refine Vw.iconst (v := 0) (de_iconst_0 (B 157 _ rfl)) rfl (n := 158) rfl ?_
            refine Vw.iload_n (de_iload_2 (B 158 _ rfl)) 2 rfl (n := 159) rfl ?_
            refine Vw.ivi2 (mi' := mX5_emit) (de_invokevirtual (B 159 _ rfl) (B 160 _ rfl) (B 161 _ rfl)) ml_X5_143 mv_X5_emit hx.rd.k (Nat.le_of_ble_eq_true rfl) (n := 162) rfl (k_emit (op := 0) (k := v) hx (by decide) (by omega) (show c < 400 by omega) ?_)
            refine Vw.pop (de_pop (B 162 _ rfl)) rfl (n := 163) rfl ?_
            refine Vw.iconst (v := 1) (de_iconst_1 (B 163 _ rfl)) rfl (n := 164) rfl ?_
            exact Vw.zret (de_ireturn (B 164 _ rfl)) rfl rfl ⟨_, rfl, (by
      refine h1 (i + 1) (l + 1) _ (c + 1) _ ?_ (by omega) (by omega) (by have := lt50 c_123; omega) (by omega) (fun x hx2 => upK_lt hx2) (WC2_num (by omega) (upK_s _ _ _)) (fun z => by cases z)
      unfold pPart
      rw [if_neg nb, if_pos (Or.inl ⟨n1, by rw [v2]; exact (nI_leI (a := v) (b := 1000) (by omega) (by omega)).mpr v1⟩), if_neg (lt50 c_123), if_neg (fun q => by have := q.2; rw [n1] at this; rcases this with z | z <;> exact absurd z (by decide)), if_pos n1, v2])⟩
          refine Vw.aload_n (de_aload_0 (B 126 _ rfl)) 0 rfl (n := 127) rfl ?_
          refine Vw.ivi0 (mi' := mX5_fail) (de_invokevirtual (B 127 _ rfl) (B 128 _ rfl) (B 129 _ rfl)) ml_X5_67 mv_X5_fail hx.rd.k (Nat.le_of_ble_eq_true rfl) (n := 130) rfl (k_fail hx hi ?_)
          exact Vw.zret (de_ireturn (B 130 _ rfl)) rfl rfl ⟨_, rfl, (by first
      | (have q50 := ge50 c_123
         refine h0 i _ _ _ _ ?_ hi
         unfold pPart
         rw [if_neg nb, if_pos (Or.inl ⟨n1, by rw [v2]; exact (nI_leI (a := v) (b := 1000) (by omega) (by omega)).mpr v1⟩), if_pos q50])
      | (refine h0 i _ _ _ _ ?_ hi
         unfold pPart
         rw [if_neg nb, if_neg ?_]
         rintro (q | q)
         · first | exact n1 q.1 | exact absurd (i32_le.mp q.2) (by show ¬ _ ≤ (1000 : Int); omega)
         · rw [v_no] at q; cases q))⟩
        · have i1 : i < nt := ilt (by rw [n1]; decide)
          refine Vw.aload_n (de_aload_0 (B 60 _ rfl)) 0 rfl (n := 61) rfl ?_
          refine Vw.getR (de_getfield (B 61 _ rfl) (B 62 _ rfl) (B 63 _ rfl)) fl_X5_30 rfl hx.rd.k hx.rd.f4 (n := 64) rfl ?_
          refine Vw.aload_n (de_aload_0 (B 64 _ rfl)) 0 rfl (n := 65) rfl ?_
          refine Vw.getI (de_getfield (B 65 _ rfl) (B 66 _ rfl) (B 67 _ rfl)) fl_X5_48 rfl hx.rd.k (n := 68) rfl ?_
          rw [rm_8]
          refine Vw.iald (de_iaload (B 68 _ rfl)) hx.rd.r4 (vIx_n (k := i) rfl (by omega)) (n := 69) rfl ?_
          rw [rm_nm, n2]
          refine Vw.istore_n (lv2 := [(0, _), (1, _), (2, _)]) (de_istore_2 (B 69 _ rfl)) rfl (by decide) [1, 2, 0] rfl (n := 70) rfl ?_
          refine Vw.aload_n (de_aload_0 (B 70 _ rfl)) 0 rfl (n := 71) rfl ?_
          refine Vw.aload_n (de_aload_0 (B 71 _ rfl)) 0 rfl (n := 72) rfl ?_
          refine Vw.getI (de_getfield (B 72 _ rfl) (B 73 _ rfl) (B 74 _ rfl)) fl_X5_40 rfl hx.rd.k (n := 75) rfl ?_
          rw [rm_6, hx.ord]
          refine Vw.if_eq (tgt := 83) (n := 78) (de_if_eq (B 75 _ rfl) (B 76 _ rfl) (B 77 _ rfl)) rfl rfl (fun c_75 => ?_) (fun c_75 => ?_)
          · exact absurd c_75 (by decide)
          obtain ⟨z78, hz78⟩ := hx.str 2 (by decide)
          refine Vw.ldcS (i := 2) (de_ldc (B 78 _ rfl) (B 79 _ rfl)) rfl (by decide) hz78.2.1 (n := 80) rfl ?_
          refine Vw.goto_ (n := 85) (de_goto_ (B 80 _ rfl) (B 81 _ rfl) (B 82 _ rfl)) rfl ?_
          refine Vw.ivi1 (mi' := mX5_listed) (de_invokevirtual (B 85 _ rfl) (B 86 _ rfl) (B 87 _ rfl)) ml_X5_95 mv_X5_listed hx.rd.k (Nat.le_of_ble_eq_true rfl) (n := 88) rfl (k_listed hx hz78 hi ?_)
          rw [w2]
          refine Vw.istore_n (lv2 := [(0, _), (1, _), (2, _), (3, _)]) (de_istore_3 (B 88 _ rfl)) rfl (by decide) [1, 2, 3, 0] rfl (n := 89) rfl ?_
          refine Vw.iload_n (de_iload_3 (B 89 _ rfl)) 3 rfl (n := 90) rfl ?_
          refine Vw.iconst (v := -1) (de_iconst_m1 (B 90 _ rfl)) rfl (n := 91) rfl ?_
          refine Vw.icmp_ne (tgt := 105) (n := 94) (de_icmp_ne (B 91 _ rfl) (B 92 _ rfl) (B 93 _ rfl)) rfl rfl (fun c_91 => ?_) (fun c_91 => ?_)
          · exact absurd rfl c_91
          refine Vw.iload_n (de_iload_2 (B 94 _ rfl)) 2 rfl (n := 95) rfl ?_
          refine Vw.if_lt (tgt := 109) (n := 98) (de_if_lt (B 95 _ rfl) (B 96 _ rfl) (B 97 _ rfl)) rfl rfl (fun c_95 => ?_) (fun c_95 => ?_)
          · exact absurd c_95 (by decide)
          refine Vw.iload_n (de_iload_2 (B 98 _ rfl)) 2 rfl (n := 99) rfl ?_
          refine Vw.sipush (v := 1000) (de_sipush (B 99 _ rfl) (B 100 _ rfl) (B 101 _ rfl)) rfl (n := 102) rfl ?_
          refine Vw.icmp_gt (tgt := 109) (n := 105) (de_icmp_gt (B 102 _ rfl) (B 103 _ rfl) (B 104 _ rfl)) rfl rfl (fun c_102 => ?_) (fun c_102 => ?_)
          · refine Vw.iconst (v := 0) (de_iconst_0 (B 109 _ rfl)) rfl (n := 110) rfl ?_
            refine Vw.istore (lv2 := [(0, _), (1, _), (2, _), (3, _), (4, _)]) (de_istore (B 110 _ rfl) (B 111 _ rfl)) (by decide) [1, 2, 3, 4, 0] rfl (n := 112) rfl ?_
            refine Vw.iload (de_iload (B 112 _ rfl) (B 113 _ rfl)) 4 rfl (n := 114) rfl ?_
            refine Vw.if_eq (tgt := 126) (n := 117) (de_if_eq (B 114 _ rfl) (B 115 _ rfl) (B 116 _ rfl)) rfl rfl (fun c_114 => ?_) (fun c_114 => ?_)
            · refine Vw.aload_n (de_aload_0 (B 126 _ rfl)) 0 rfl (n := 127) rfl ?_
              refine Vw.ivi0 (mi' := mX5_fail) (de_invokevirtual (B 127 _ rfl) (B 128 _ rfl) (B 129 _ rfl)) ml_X5_67 mv_X5_fail hx.rd.k (Nat.le_of_ble_eq_true rfl) (n := 130) rfl (k_fail hx hi ?_)
              exact Vw.zret (de_ireturn (B 130 _ rfl)) rfl rfl ⟨_, rfl, (by first
      | (have q50 := ge50 c_123
         refine h0 i _ _ _ _ ?_ hi
         unfold pPart
         rw [if_neg nb, if_pos (Or.inl ⟨n1, by rw [v2]; exact (nI_leI (a := v) (b := 1000) (by omega) (by omega)).mpr v1⟩), if_pos q50])
      | (refine h0 i _ _ _ _ ?_ hi
         unfold pPart
         rw [if_neg nb, if_neg ?_]
         rintro (q | q)
         · first | exact n1 q.1 | exact absurd (i32_le.mp q.2) (by show ¬ _ ≤ (1000 : Int); omega)
         · rw [v_no] at q; cases q))⟩
            exact absurd c_114 (by decide)
          exact absurd (by decide) c_102
  refine Vw.aload_n (de_aload_0 (B 0 _ rfl)) 0 rfl (n := 1) rfl ?_
  refine Vw.getR (de_getfield (B 1 _ rfl) (B 2 _ rfl) (B 3 _ rfl)) fl_X5_20 rfl hx.rd.k hx.rd.f1 (n := 4) rfl ?_
  refine Vw.aload_n (de_aload_0 (B 4 _ rfl)) 0 rfl (n := 5) rfl ?_
  refine Vw.getI (de_getfield (B 5 _ rfl) (B 6 _ rfl) (B 7 _ rfl)) fl_X5_48 rfl hx.rd.k (n := 8) rfl ?_
  rw [rm_8]
  refine Vw.iald (de_iaload (B 8 _ rfl)) hx.rd.r1 (vIx_n (k := i) rfl (by omega)) (n := 9) rfl ?_
  rw [rm_kd]
  refine Vw.bipush (v := 91) (de_bipush (B 9 _ rfl) (B 10 _ rfl)) rfl (n := 11) rfl ?_
  refine Vw.icmp_ne (tgt := 60) (n := 14) (de_icmp_ne (B 11 _ rfl) (B 12 _ rfl) (B 13 _ rfl)) rfl rfl (fun c_11 => ?_) (fun c_11 => ?_)
  · exact rest (fun z => c_11 ((hx.sign hi (c := 91) (by decide)).mpr z))
  refine Vw.iload_n (de_iload_1 (B 14 _ rfl)) 1 rfl (n := 15) rfl ?_
  refine Vw.bipush (v := 8) (de_bipush (B 15 _ rfl) (B 16 _ rfl)) rfl (n := 17) rfl ?_
  rw [hdp]
  refine Vw.icmp_lt (tgt := 25) (n := 20) (de_icmp_lt (B 17 _ rfl) (B 18 _ rfl) (B 19 _ rfl)) rfl rfl (fun c_17 => ?_) (fun c_17 => ?_)
  · exact absurd c_17 (by decide)
  refine Vw.aload_n (de_aload_0 (B 20 _ rfl)) 0 rfl (n := 21) rfl ?_
  refine Vw.ivi0 (mi' := mX5_fail) (de_invokevirtual (B 21 _ rfl) (B 22 _ rfl) (B 23 _ rfl)) ml_X5_67 mv_X5_fail hx.rd.k (Nat.le_of_ble_eq_true rfl) (n := 24) rfl (k_fail hx hi ?_)
  exact Vw.zret (de_ireturn (B 24 _ rfl)) rfl rfl ⟨_, rfl, (by
      refine h0 i _ _ _ _ ?_ hi
      unfold pPart
      rw [if_pos (show cd i = 191 from (hx.sign hi (c := 91) (by decide)).mp c_11)])⟩
theorem kr_partS {E Dm dn0 : Nat} {X : (Nat → Int32) → (Nat → Int32) → Bool → Nat → Nat → tR tD} (hd8 : dn0 < 8) (hS : KR mX5_readSum (E + 5) [.int (nI (dn0 + 1))] X Dm false) (hDm : 1 ≤ Dm) : KR mX5_readPart (E + 6) [.int (nI dn0)] (fun cd vl o => pPart cd vl o (some (X cd vl o))) (Dm) false := by
  intro d S I L Q s tp u cd vl nt o i l c f w hx hi hl hci h1 h0
  dsimp only at h1 h0
  have h4 := hx.n4
  refine Vc.of rfl (Nat.le_of_ble_eq_true rfl) ?_
  have B := bs_X5_readPart
  show Vw mX5_readPart (d + (E + 6)) 0 0 0 0 (ViQ Q) 0 [(0, .ref (s + 74)), (1, .int (nI dn0))] [] S (rm I s (nI i) (nI l) (nI c) f w) L
  obtain ⟨dp, hdp⟩ : ∃ x : Int32, x = nI dn0 := ⟨_, rfl⟩
  rw [← hdp]
  have rest : ¬ cd i = 191 → Vw mX5_readPart (d + (E + 6)) 0 0 0 0 (ViQ Q) 60 [(0, .ref (s + 74)), (1, .int dp)] [] S (rm I s (nI i) (nI l) (nI c) f w) L := by
    intro nb
    have lt50 : nI l < 50 → ¬ l = 50 := fun z q => by rw [q] at z; exact absurd z (by decide)
    have ge50 : ¬ nI l < 50 → l = 50 := fun z => by
      rcases Nat.lt_or_ge l 50 with q | q
      · exact absurd (i32_lt.mpr (by rw [nI_ti (by omega)]; show (l : Int) < 50; omega)) z
      · omega
    have ilt : ¬ cd i = 0 → i < nt := fun q => by
      rcases Nat.lt_or_ge i nt with z | z
      · exact z
      · exact absurd (by rw [show i = nt by omega]; exact hx.c0) q
    rcases Bool.eq_false_or_eq_true o with ho | ho
    rotate_left
    · subst ho
      rcases ls3 (cd i) with ⟨kk, k1, e_c, w2, v_ok, w_ix⟩ | ⟨w2, v_no⟩
      · have n_50 : ¬ cd i = 50 := fun q => by rw [e_c] at q; exact absurd (nI_inj (a := 10 + kk) (b := 50) (by omega) (by decide) q) (by omega)
        have n_m : ¬ (false = true ∧ (cd i = 13 ∨ cd i = 14)) := fun q => by cases q.1
        have i1 : i < nt := ilt (by rw [e_c]; exact fun q => absurd (nI_inj (a := 10 + kk) (b := 0) (by omega) (by decide) q) (by omega))
        obtain ⟨x86, n2⟩ : ∃ x, I (s + 86) i = x := ⟨_, rfl⟩
        refine Vw.aload_n (de_aload_0 (B 60 _ rfl)) 0 rfl (n := 61) rfl ?_
        refine Vw.getR (de_getfield (B 61 _ rfl) (B 62 _ rfl) (B 63 _ rfl)) fl_X5_30 rfl hx.rd.k hx.rd.f4 (n := 64) rfl ?_
        refine Vw.aload_n (de_aload_0 (B 64 _ rfl)) 0 rfl (n := 65) rfl ?_
        refine Vw.getI (de_getfield (B 65 _ rfl) (B 66 _ rfl) (B 67 _ rfl)) fl_X5_48 rfl hx.rd.k (n := 68) rfl ?_
        rw [rm_8]
        refine Vw.iald (de_iaload (B 68 _ rfl)) hx.rd.r4 (vIx_n (k := i) rfl (by omega)) (n := 69) rfl ?_
        rw [rm_nm, n2]
        refine Vw.istore_n (lv2 := [(0, _), (1, _), (2, _)]) (de_istore_2 (B 69 _ rfl)) rfl (by decide) [1, 2, 0] rfl (n := 70) rfl ?_
        refine Vw.aload_n (de_aload_0 (B 70 _ rfl)) 0 rfl (n := 71) rfl ?_
        refine Vw.aload_n (de_aload_0 (B 71 _ rfl)) 0 rfl (n := 72) rfl ?_
        refine Vw.getI (de_getfield (B 72 _ rfl) (B 73 _ rfl) (B 74 _ rfl)) fl_X5_40 rfl hx.rd.k (n := 75) rfl ?_
        rw [rm_6, hx.ord]
        refine Vw.if_eq (tgt := 83) (n := 78) (de_if_eq (B 75 _ rfl) (B 76 _ rfl) (B 77 _ rfl)) rfl rfl (fun c_75 => ?_) (fun c_75 => ?_)
        · obtain ⟨z83, hz83⟩ := hx.str 3 (by decide)
          refine Vw.ldcS (i := 3) (de_ldc (B 83 _ rfl) (B 84 _ rfl)) rfl (by decide) hz83.2.1 (n := 85) rfl ?_
          refine Vw.ivi1 (mi' := mX5_listed) (de_invokevirtual (B 85 _ rfl) (B 86 _ rfl) (B 87 _ rfl)) ml_X5_95 mv_X5_listed hx.rd.k (Nat.le_of_ble_eq_true rfl) (n := 88) rfl (k_listed hx hz83 hi ?_)
          rw [w2]
          refine Vw.istore_n (lv2 := [(0, _), (1, _), (2, _), (3, _)]) (de_istore_3 (B 88 _ rfl)) rfl (by decide) [1, 2, 3, 0] rfl (n := 89) rfl ?_
          refine Vw.iload_n (de_iload_3 (B 89 _ rfl)) 3 rfl (n := 90) rfl ?_
          refine Vw.iconst (v := -1) (de_iconst_m1 (B 90 _ rfl)) rfl (n := 91) rfl ?_
          refine Vw.icmp_ne (tgt := 105) (n := 94) (de_icmp_ne (B 91 _ rfl) (B 92 _ rfl) (B 93 _ rfl)) rfl rfl (fun c_91 => ?_) (fun c_91 => ?_)
          · refine Vw.iconst (v := 1) (de_iconst_1 (B 105 _ rfl)) rfl (n := 106) rfl ?_
            refine Vw.goto_ (n := 110) (de_goto_ (B 106 _ rfl) (B 107 _ rfl) (B 108 _ rfl)) rfl ?_
            refine Vw.istore (lv2 := [(0, _), (1, _), (2, _), (3, _), (4, _)]) (de_istore (B 110 _ rfl) (B 111 _ rfl)) (by decide) [1, 2, 3, 4, 0] rfl (n := 112) rfl ?_
            refine Vw.iload (de_iload (B 112 _ rfl) (B 113 _ rfl)) 4 rfl (n := 114) rfl ?_
            refine Vw.if_eq (tgt := 126) (n := 117) (de_if_eq (B 114 _ rfl) (B 115 _ rfl) (B 116 _ rfl)) rfl rfl (fun c_114 => ?_) (fun c_114 => ?_)
            · exact absurd c_114 (by decide)
            refine Vw.aload_n (de_aload_0 (B 117 _ rfl)) 0 rfl (n := 118) rfl ?_
            refine Vw.getI (de_getfield (B 118 _ rfl) (B 119 _ rfl) (B 120 _ rfl)) fl_X5_51 rfl hx.rd.k (n := 121) rfl ?_
            rw [rm_9]
            refine Vw.bipush (v := 50) (de_bipush (B 121 _ rfl) (B 122 _ rfl)) rfl (n := 123) rfl ?_
            refine Vw.icmp_lt (tgt := 131) (n := 126) (de_icmp_lt (B 123 _ rfl) (B 124 _ rfl) (B 125 _ rfl)) rfl rfl (fun c_123 => ?_) (fun c_123 => ?_)
            · refine Vw.aload_n (de_aload_0 (B 131 _ rfl)) 0 rfl (n := 132) rfl ?_
              refine Vw.dup (de_dup (B 132 _ rfl)) rfl (n := 133) rfl ?_
              refine Vw.getI (de_getfield (B 133 _ rfl) (B 134 _ rfl) (B 135 _ rfl)) fl_X5_51 rfl hx.rd.k (n := 136) rfl ?_
              rw [rm_9]
              refine Vw.iconst (v := 1) (de_iconst_1 (B 136 _ rfl)) rfl (n := 137) rfl ?_
              refine Vw.iadd (de_iadd (B 137 _ rfl)) (n := 138) rfl ?_
              rw [nI_1]
              refine Vw.putI (de_putfield (B 138 _ rfl) (B 139 _ rfl) (B 140 _ rfl)) fl_X5_51 hx.rd.k rfl rfl (n := 141) rfl ?_
              rw [up_9]
              refine Vw.aload_n (de_aload_0 (B 141 _ rfl)) 0 rfl (n := 142) rfl ?_
              refine Vw.dup (de_dup (B 142 _ rfl)) rfl (n := 143) rfl ?_
              refine Vw.getI (de_getfield (B 143 _ rfl) (B 144 _ rfl) (B 145 _ rfl)) fl_X5_48 rfl hx.rd.k (n := 146) rfl ?_
              rw [rm_8]
              refine Vw.iconst (v := 1) (de_iconst_1 (B 146 _ rfl)) rfl (n := 147) rfl ?_
              refine Vw.iadd (de_iadd (B 147 _ rfl)) (n := 148) rfl ?_
              rw [nI_1]
              refine Vw.putI (de_putfield (B 148 _ rfl) (B 149 _ rfl) (B 150 _ rfl)) fl_X5_48 hx.rd.k rfl rfl (n := 151) rfl ?_
              rw [up_8]
              refine Vw.iload_n (de_iload_3 (B 151 _ rfl)) 3 rfl (n := 152) rfl ?_
              refine Vw.iconst (v := -1) (de_iconst_m1 (B 152 _ rfl)) rfl (n := 153) rfl ?_
              refine Vw.icmp_ne (tgt := 165) (n := 156) (de_icmp_ne (B 153 _ rfl) (B 154 _ rfl) (B 155 _ rfl)) rfl rfl (fun c_153 => ?_) (fun c_153 => ?_)
              · refine Vw.aload_n (de_aload_0 (B 165 _ rfl)) 0 rfl (n := 166) rfl ?_
                refine Vw.getI (de_getfield (B 166 _ rfl) (B 167 _ rfl) (B 168 _ rfl)) fl_X5_40 rfl hx.rd.k (n := 169) rfl ?_
                rw [rm_6, hx.ord]
                refine Vw.if_eq (tgt := 185) (n := 172) (de_if_eq (B 169 _ rfl) (B 170 _ rfl) (B 171 _ rfl)) rfl rfl (fun c_169 => ?_) (fun c_169 => ?_)
                · refine Vw.aload_n (de_aload_0 (B 185 _ rfl)) 0 rfl (n := 186) rfl ?_
                  refine Vw.iconst (v := 1) (de_iconst_1 (B 186 _ rfl)) rfl (n := 187) rfl ?_
                  refine Vw.iload_n (de_iload_3 (B 187 _ rfl)) 3 rfl (n := 188) rfl ?_
                  refine Vw.ivi2 (mi' := mX5_emit) (de_invokevirtual (B 188 _ rfl) (B 189 _ rfl) (B 190 _ rfl)) ml_X5_143 mv_X5_emit hx.rd.k (Nat.le_of_ble_eq_true rfl) (n := 191) rfl (k_emit (op := 1) (k := kk) hx (by decide) (by omega) (show c < 400 by omega) ?_)
                  refine Vw.if_lt (tgt := 198) (n := 194) (de_if_lt (B 191 _ rfl) (B 192 _ rfl) (B 193 _ rfl)) rfl rfl (fun c_191 => ?_) (fun c_191 => ?_)
                  · exact absurd c_191 (nn_nI (by omega))
                  refine Vw.iconst (v := 1) (de_iconst_1 (B 194 _ rfl)) rfl (n := 195) rfl ?_
                  refine Vw.goto_ (n := 199) (de_goto_ (B 195 _ rfl) (B 196 _ rfl) (B 197 _ rfl)) rfl ?_
                  exact Vw.zret (de_ireturn (B 199 _ rfl)) rfl rfl ⟨_, rfl, (by
      refine h1 (i + 1) (l + 1) _ (c + 1) _ ?_ (by omega) (by omega) (by have := lt50 c_123; omega) (by omega) (fun x hx2 => upK_lt hx2) ((WC2_word (k := kk) (show kk < 8 by omega) (by omega) (upK_s _ _ _)).up hDm) (fun z => by cases z)
      unfold pPart
      rw [if_neg nb, if_pos (Or.inr v_ok), if_neg (lt50 c_123), if_neg n_m, if_neg n_50, w_ix])⟩
                exact absurd c_169 (by decide)
              exact absurd c_153 (nI_m1 (by omega))
            refine Vw.aload_n (de_aload_0 (B 126 _ rfl)) 0 rfl (n := 127) rfl ?_
            refine Vw.ivi0 (mi' := mX5_fail) (de_invokevirtual (B 127 _ rfl) (B 128 _ rfl) (B 129 _ rfl)) ml_X5_67 mv_X5_fail hx.rd.k (Nat.le_of_ble_eq_true rfl) (n := 130) rfl (k_fail hx hi ?_)
            exact Vw.zret (de_ireturn (B 130 _ rfl)) rfl rfl ⟨_, rfl, (by first
      | (have q50 := ge50 c_123
         refine h0 i _ _ _ _ ?_ hi
         unfold pPart
         rw [if_neg nb, if_pos (Or.inr v_ok), if_pos q50])
      | (refine h0 i _ _ _ _ ?_ hi
         unfold pPart
         rw [if_neg nb, if_neg ?_]
         rintro (q | q)
         · first | exact n1 q.1 | exact absurd (i32_le.mp q.2) (by show ¬ _ ≤ (1000 : Int); omega)
         · rw [v_no] at q; cases q))⟩
          exact absurd c_91 (nI_m1 (by omega))
        exact absurd c_75 (by decide)
      · rcases hx.num hi with ⟨n1, n2⟩ | ⟨n1, v, v1, v2, n2⟩ | ⟨n1, n3, n2⟩
        · skip
          refine Vw.aload_n (de_aload_0 (B 60 _ rfl)) 0 rfl (n := 61) rfl ?_
          refine Vw.getR (de_getfield (B 61 _ rfl) (B 62 _ rfl) (B 63 _ rfl)) fl_X5_30 rfl hx.rd.k hx.rd.f4 (n := 64) rfl ?_
          refine Vw.aload_n (de_aload_0 (B 64 _ rfl)) 0 rfl (n := 65) rfl ?_
          refine Vw.getI (de_getfield (B 65 _ rfl) (B 66 _ rfl) (B 67 _ rfl)) fl_X5_48 rfl hx.rd.k (n := 68) rfl ?_
          rw [rm_8]
          refine Vw.iald (de_iaload (B 68 _ rfl)) hx.rd.r4 (vIx_n (k := i) rfl (by omega)) (n := 69) rfl ?_
          rw [rm_nm, n2]
          refine Vw.istore_n (lv2 := [(0, _), (1, _), (2, _)]) (de_istore_2 (B 69 _ rfl)) rfl (by decide) [1, 2, 0] rfl (n := 70) rfl ?_
          refine Vw.aload_n (de_aload_0 (B 70 _ rfl)) 0 rfl (n := 71) rfl ?_
          refine Vw.aload_n (de_aload_0 (B 71 _ rfl)) 0 rfl (n := 72) rfl ?_
          refine Vw.getI (de_getfield (B 72 _ rfl) (B 73 _ rfl) (B 74 _ rfl)) fl_X5_40 rfl hx.rd.k (n := 75) rfl ?_
          rw [rm_6, hx.ord]
          refine Vw.if_eq (tgt := 83) (n := 78) (de_if_eq (B 75 _ rfl) (B 76 _ rfl) (B 77 _ rfl)) rfl rfl (fun c_75 => ?_) (fun c_75 => ?_)
          · obtain ⟨z83, hz83⟩ := hx.str 3 (by decide)
            refine Vw.ldcS (i := 3) (de_ldc (B 83 _ rfl) (B 84 _ rfl)) rfl (by decide) hz83.2.1 (n := 85) rfl ?_
            refine Vw.ivi1 (mi' := mX5_listed) (de_invokevirtual (B 85 _ rfl) (B 86 _ rfl) (B 87 _ rfl)) ml_X5_95 mv_X5_listed hx.rd.k (Nat.le_of_ble_eq_true rfl) (n := 88) rfl (k_listed hx hz83 hi ?_)
            rw [w2]
            refine Vw.istore_n (lv2 := [(0, _), (1, _), (2, _), (3, _)]) (de_istore_3 (B 88 _ rfl)) rfl (by decide) [1, 2, 3, 0] rfl (n := 89) rfl ?_
            refine Vw.iload_n (de_iload_3 (B 89 _ rfl)) 3 rfl (n := 90) rfl ?_
            refine Vw.iconst (v := -1) (de_iconst_m1 (B 90 _ rfl)) rfl (n := 91) rfl ?_
            refine Vw.icmp_ne (tgt := 105) (n := 94) (de_icmp_ne (B 91 _ rfl) (B 92 _ rfl) (B 93 _ rfl)) rfl rfl (fun c_91 => ?_) (fun c_91 => ?_)
            · exact absurd rfl c_91
            refine Vw.iload_n (de_iload_2 (B 94 _ rfl)) 2 rfl (n := 95) rfl ?_
            refine Vw.if_lt (tgt := 109) (n := 98) (de_if_lt (B 95 _ rfl) (B 96 _ rfl) (B 97 _ rfl)) rfl rfl (fun c_95 => ?_) (fun c_95 => ?_)
            · refine Vw.iconst (v := 0) (de_iconst_0 (B 109 _ rfl)) rfl (n := 110) rfl ?_
              refine Vw.istore (lv2 := [(0, _), (1, _), (2, _), (3, _), (4, _)]) (de_istore (B 110 _ rfl) (B 111 _ rfl)) (by decide) [1, 2, 3, 4, 0] rfl (n := 112) rfl ?_
              refine Vw.iload (de_iload (B 112 _ rfl) (B 113 _ rfl)) 4 rfl (n := 114) rfl ?_
              refine Vw.if_eq (tgt := 126) (n := 117) (de_if_eq (B 114 _ rfl) (B 115 _ rfl) (B 116 _ rfl)) rfl rfl (fun c_114 => ?_) (fun c_114 => ?_)
              · refine Vw.aload_n (de_aload_0 (B 126 _ rfl)) 0 rfl (n := 127) rfl ?_
                refine Vw.ivi0 (mi' := mX5_fail) (de_invokevirtual (B 127 _ rfl) (B 128 _ rfl) (B 129 _ rfl)) ml_X5_67 mv_X5_fail hx.rd.k (Nat.le_of_ble_eq_true rfl) (n := 130) rfl (k_fail hx hi ?_)
                exact Vw.zret (de_ireturn (B 130 _ rfl)) rfl rfl ⟨_, rfl, (by first
      | (have q50 := ge50 c_123
         refine h0 i _ _ _ _ ?_ hi
         unfold pPart
         rw [if_neg nb, if_pos (Or.inl ⟨n1, by rw [v2]; exact (nI_leI (a := v) (b := 1000) (by omega) (by omega)).mpr v1⟩), if_pos q50])
      | (refine h0 i _ _ _ _ ?_ hi
         unfold pPart
         rw [if_neg nb, if_neg ?_]
         rintro (q | q)
         · first | exact n1 q.1 | exact absurd (i32_le.mp q.2) (by show ¬ _ ≤ (1000 : Int); omega)
         · rw [v_no] at q; cases q))⟩
              exact absurd c_114 (by decide)
            exact absurd (by decide) c_95
          exact absurd c_75 (by decide)
        · have i1 : i < nt := ilt (by rw [n1]; decide)
          refine Vw.aload_n (de_aload_0 (B 60 _ rfl)) 0 rfl (n := 61) rfl ?_
          refine Vw.getR (de_getfield (B 61 _ rfl) (B 62 _ rfl) (B 63 _ rfl)) fl_X5_30 rfl hx.rd.k hx.rd.f4 (n := 64) rfl ?_
          refine Vw.aload_n (de_aload_0 (B 64 _ rfl)) 0 rfl (n := 65) rfl ?_
          refine Vw.getI (de_getfield (B 65 _ rfl) (B 66 _ rfl) (B 67 _ rfl)) fl_X5_48 rfl hx.rd.k (n := 68) rfl ?_
          rw [rm_8]
          refine Vw.iald (de_iaload (B 68 _ rfl)) hx.rd.r4 (vIx_n (k := i) rfl (by omega)) (n := 69) rfl ?_
          rw [rm_nm, n2]
          refine Vw.istore_n (lv2 := [(0, _), (1, _), (2, _)]) (de_istore_2 (B 69 _ rfl)) rfl (by decide) [1, 2, 0] rfl (n := 70) rfl ?_
          refine Vw.aload_n (de_aload_0 (B 70 _ rfl)) 0 rfl (n := 71) rfl ?_
          refine Vw.aload_n (de_aload_0 (B 71 _ rfl)) 0 rfl (n := 72) rfl ?_
          refine Vw.getI (de_getfield (B 72 _ rfl) (B 73 _ rfl) (B 74 _ rfl)) fl_X5_40 rfl hx.rd.k (n := 75) rfl ?_
          rw [rm_6, hx.ord]
          refine Vw.if_eq (tgt := 83) (n := 78) (de_if_eq (B 75 _ rfl) (B 76 _ rfl) (B 77 _ rfl)) rfl rfl (fun c_75 => ?_) (fun c_75 => ?_)
          · obtain ⟨z83, hz83⟩ := hx.str 3 (by decide)
            refine Vw.ldcS (i := 3) (de_ldc (B 83 _ rfl) (B 84 _ rfl)) rfl (by decide) hz83.2.1 (n := 85) rfl ?_
            refine Vw.ivi1 (mi' := mX5_listed) (de_invokevirtual (B 85 _ rfl) (B 86 _ rfl) (B 87 _ rfl)) ml_X5_95 mv_X5_listed hx.rd.k (Nat.le_of_ble_eq_true rfl) (n := 88) rfl (k_listed hx hz83 hi ?_)
            rw [w2]
            refine Vw.istore_n (lv2 := [(0, _), (1, _), (2, _), (3, _)]) (de_istore_3 (B 88 _ rfl)) rfl (by decide) [1, 2, 3, 0] rfl (n := 89) rfl ?_
            refine Vw.iload_n (de_iload_3 (B 89 _ rfl)) 3 rfl (n := 90) rfl ?_
            refine Vw.iconst (v := -1) (de_iconst_m1 (B 90 _ rfl)) rfl (n := 91) rfl ?_
            refine Vw.icmp_ne (tgt := 105) (n := 94) (de_icmp_ne (B 91 _ rfl) (B 92 _ rfl) (B 93 _ rfl)) rfl rfl (fun c_91 => ?_) (fun c_91 => ?_)
            · exact absurd rfl c_91
            refine Vw.iload_n (de_iload_2 (B 94 _ rfl)) 2 rfl (n := 95) rfl ?_
            refine Vw.if_lt (tgt := 109) (n := 98) (de_if_lt (B 95 _ rfl) (B 96 _ rfl) (B 97 _ rfl)) rfl rfl (fun c_95 => ?_) (fun c_95 => ?_)
            · exact absurd c_95 (nn_nI (by omega))
            refine Vw.iload_n (de_iload_2 (B 98 _ rfl)) 2 rfl (n := 99) rfl ?_
            refine Vw.sipush (v := 1000) (de_sipush (B 99 _ rfl) (B 100 _ rfl) (B 101 _ rfl)) rfl (n := 102) rfl ?_
            refine Vw.icmp_gt (tgt := 109) (n := 105) (de_icmp_gt (B 102 _ rfl) (B 103 _ rfl) (B 104 _ rfl)) rfl rfl (fun c_102 => ?_) (fun c_102 => ?_)
            · exact absurd ((nI_leI (a := v) (b := 1000) (by omega) (by omega)).mpr v1) (Int32.not_le.mpr c_102)
            refine Vw.iconst (v := 1) (de_iconst_1 (B 105 _ rfl)) rfl (n := 106) rfl ?_
            refine Vw.goto_ (n := 110) (de_goto_ (B 106 _ rfl) (B 107 _ rfl) (B 108 _ rfl)) rfl ?_
            refine Vw.istore (lv2 := [(0, _), (1, _), (2, _), (3, _), (4, _)]) (de_istore (B 110 _ rfl) (B 111 _ rfl)) (by decide) [1, 2, 3, 4, 0] rfl (n := 112) rfl ?_
            refine Vw.iload (de_iload (B 112 _ rfl) (B 113 _ rfl)) 4 rfl (n := 114) rfl ?_
            refine Vw.if_eq (tgt := 126) (n := 117) (de_if_eq (B 114 _ rfl) (B 115 _ rfl) (B 116 _ rfl)) rfl rfl (fun c_114 => ?_) (fun c_114 => ?_)
            · exact absurd c_114 (by decide)
            refine Vw.aload_n (de_aload_0 (B 117 _ rfl)) 0 rfl (n := 118) rfl ?_
            refine Vw.getI (de_getfield (B 118 _ rfl) (B 119 _ rfl) (B 120 _ rfl)) fl_X5_51 rfl hx.rd.k (n := 121) rfl ?_
            rw [rm_9]
            refine Vw.bipush (v := 50) (de_bipush (B 121 _ rfl) (B 122 _ rfl)) rfl (n := 123) rfl ?_
            refine Vw.icmp_lt (tgt := 131) (n := 126) (de_icmp_lt (B 123 _ rfl) (B 124 _ rfl) (B 125 _ rfl)) rfl rfl (fun c_123 => ?_) (fun c_123 => ?_)
            · refine Vw.aload_n (de_aload_0 (B 131 _ rfl)) 0 rfl (n := 132) rfl ?_
              refine Vw.dup (de_dup (B 132 _ rfl)) rfl (n := 133) rfl ?_
              refine Vw.getI (de_getfield (B 133 _ rfl) (B 134 _ rfl) (B 135 _ rfl)) fl_X5_51 rfl hx.rd.k (n := 136) rfl ?_
              rw [rm_9]
              refine Vw.iconst (v := 1) (de_iconst_1 (B 136 _ rfl)) rfl (n := 137) rfl ?_
              refine Vw.iadd (de_iadd (B 137 _ rfl)) (n := 138) rfl ?_
              rw [nI_1]
              refine Vw.putI (de_putfield (B 138 _ rfl) (B 139 _ rfl) (B 140 _ rfl)) fl_X5_51 hx.rd.k rfl rfl (n := 141) rfl ?_
              rw [up_9]
              refine Vw.aload_n (de_aload_0 (B 141 _ rfl)) 0 rfl (n := 142) rfl ?_
              refine Vw.dup (de_dup (B 142 _ rfl)) rfl (n := 143) rfl ?_
              refine Vw.getI (de_getfield (B 143 _ rfl) (B 144 _ rfl) (B 145 _ rfl)) fl_X5_48 rfl hx.rd.k (n := 146) rfl ?_
              rw [rm_8]
              refine Vw.iconst (v := 1) (de_iconst_1 (B 146 _ rfl)) rfl (n := 147) rfl ?_
              refine Vw.iadd (de_iadd (B 147 _ rfl)) (n := 148) rfl ?_
              rw [nI_1]
              refine Vw.putI (de_putfield (B 148 _ rfl) (B 149 _ rfl) (B 150 _ rfl)) fl_X5_48 hx.rd.k rfl rfl (n := 151) rfl ?_
              rw [up_8]
              refine Vw.iload_n (de_iload_3 (B 151 _ rfl)) 3 rfl (n := 152) rfl ?_
              refine Vw.iconst (v := -1) (de_iconst_m1 (B 152 _ rfl)) rfl (n := 153) rfl ?_
              refine Vw.icmp_ne (tgt := 165) (n := 156) (de_icmp_ne (B 153 _ rfl) (B 154 _ rfl) (B 155 _ rfl)) rfl rfl (fun c_153 => ?_) (fun c_153 => ?_)
              · exact absurd rfl c_153
              refine Vw.aload_n (de_aload_0 (B 156 _ rfl)) 0 rfl (n := 157) rfl ?_
              refine Vw.iconst (v := 0) (de_iconst_0 (B 157 _ rfl)) rfl (n := 158) rfl ?_
              refine Vw.iload_n (de_iload_2 (B 158 _ rfl)) 2 rfl (n := 159) rfl ?_
              refine Vw.ivi2 (mi' := mX5_emit) (de_invokevirtual (B 159 _ rfl) (B 160 _ rfl) (B 161 _ rfl)) ml_X5_143 mv_X5_emit hx.rd.k (Nat.le_of_ble_eq_true rfl) (n := 162) rfl (k_emit (op := 0) (k := v) hx (by decide) (by omega) (show c < 400 by omega) ?_)
              refine Vw.pop (de_pop (B 162 _ rfl)) rfl (n := 163) rfl ?_
              refine Vw.iconst (v := 1) (de_iconst_1 (B 163 _ rfl)) rfl (n := 164) rfl ?_
              exact Vw.zret (de_ireturn (B 164 _ rfl)) rfl rfl ⟨_, rfl, (by
      refine h1 (i + 1) (l + 1) _ (c + 1) _ ?_ (by omega) (by omega) (by have := lt50 c_123; omega) (by omega) (fun x hx2 => upK_lt hx2) ((WC2_num (by omega) (upK_s _ _ _)).up hDm) (fun z => by cases z)
      unfold pPart
      rw [if_neg nb, if_pos (Or.inl ⟨n1, by rw [v2]; exact (nI_leI (a := v) (b := 1000) (by omega) (by omega)).mpr v1⟩), if_neg (lt50 c_123), if_neg (fun q => by have := q.2; rw [n1] at this; rcases this with z | z <;> exact absurd z (by decide)), if_pos n1, v2])⟩
            refine Vw.aload_n (de_aload_0 (B 126 _ rfl)) 0 rfl (n := 127) rfl ?_
            refine Vw.ivi0 (mi' := mX5_fail) (de_invokevirtual (B 127 _ rfl) (B 128 _ rfl) (B 129 _ rfl)) ml_X5_67 mv_X5_fail hx.rd.k (Nat.le_of_ble_eq_true rfl) (n := 130) rfl (k_fail hx hi ?_)
            exact Vw.zret (de_ireturn (B 130 _ rfl)) rfl rfl ⟨_, rfl, (by first
      | (have q50 := ge50 c_123
         refine h0 i _ _ _ _ ?_ hi
         unfold pPart
         rw [if_neg nb, if_pos (Or.inl ⟨n1, by rw [v2]; exact (nI_leI (a := v) (b := 1000) (by omega) (by omega)).mpr v1⟩), if_pos q50])
      | (refine h0 i _ _ _ _ ?_ hi
         unfold pPart
         rw [if_neg nb, if_neg ?_]
         rintro (q | q)
         · first | exact n1 q.1 | exact absurd (i32_le.mp q.2) (by show ¬ _ ≤ (1000 : Int); omega)
         · rw [v_no] at q; cases q))⟩
          exact absurd c_75 (by decide)
        · have i1 : i < nt := ilt (by rw [n1]; decide)
          refine Vw.aload_n (de_aload_0 (B 60 _ rfl)) 0 rfl (n := 61) rfl ?_
          refine Vw.getR (de_getfield (B 61 _ rfl) (B 62 _ rfl) (B 63 _ rfl)) fl_X5_30 rfl hx.rd.k hx.rd.f4 (n := 64) rfl ?_
          refine Vw.aload_n (de_aload_0 (B 64 _ rfl)) 0 rfl (n := 65) rfl ?_
          refine Vw.getI (de_getfield (B 65 _ rfl) (B 66 _ rfl) (B 67 _ rfl)) fl_X5_48 rfl hx.rd.k (n := 68) rfl ?_
          rw [rm_8]
          refine Vw.iald (de_iaload (B 68 _ rfl)) hx.rd.r4 (vIx_n (k := i) rfl (by omega)) (n := 69) rfl ?_
          rw [rm_nm, n2]
          refine Vw.istore_n (lv2 := [(0, _), (1, _), (2, _)]) (de_istore_2 (B 69 _ rfl)) rfl (by decide) [1, 2, 0] rfl (n := 70) rfl ?_
          refine Vw.aload_n (de_aload_0 (B 70 _ rfl)) 0 rfl (n := 71) rfl ?_
          refine Vw.aload_n (de_aload_0 (B 71 _ rfl)) 0 rfl (n := 72) rfl ?_
          refine Vw.getI (de_getfield (B 72 _ rfl) (B 73 _ rfl) (B 74 _ rfl)) fl_X5_40 rfl hx.rd.k (n := 75) rfl ?_
          rw [rm_6, hx.ord]
          refine Vw.if_eq (tgt := 83) (n := 78) (de_if_eq (B 75 _ rfl) (B 76 _ rfl) (B 77 _ rfl)) rfl rfl (fun c_75 => ?_) (fun c_75 => ?_)
          · obtain ⟨z83, hz83⟩ := hx.str 3 (by decide)
            refine Vw.ldcS (i := 3) (de_ldc (B 83 _ rfl) (B 84 _ rfl)) rfl (by decide) hz83.2.1 (n := 85) rfl ?_
            refine Vw.ivi1 (mi' := mX5_listed) (de_invokevirtual (B 85 _ rfl) (B 86 _ rfl) (B 87 _ rfl)) ml_X5_95 mv_X5_listed hx.rd.k (Nat.le_of_ble_eq_true rfl) (n := 88) rfl (k_listed hx hz83 hi ?_)
            rw [w2]
            refine Vw.istore_n (lv2 := [(0, _), (1, _), (2, _), (3, _)]) (de_istore_3 (B 88 _ rfl)) rfl (by decide) [1, 2, 3, 0] rfl (n := 89) rfl ?_
            refine Vw.iload_n (de_iload_3 (B 89 _ rfl)) 3 rfl (n := 90) rfl ?_
            refine Vw.iconst (v := -1) (de_iconst_m1 (B 90 _ rfl)) rfl (n := 91) rfl ?_
            refine Vw.icmp_ne (tgt := 105) (n := 94) (de_icmp_ne (B 91 _ rfl) (B 92 _ rfl) (B 93 _ rfl)) rfl rfl (fun c_91 => ?_) (fun c_91 => ?_)
            · exact absurd rfl c_91
            refine Vw.iload_n (de_iload_2 (B 94 _ rfl)) 2 rfl (n := 95) rfl ?_
            refine Vw.if_lt (tgt := 109) (n := 98) (de_if_lt (B 95 _ rfl) (B 96 _ rfl) (B 97 _ rfl)) rfl rfl (fun c_95 => ?_) (fun c_95 => ?_)
            · exact absurd c_95 (by decide)
            refine Vw.iload_n (de_iload_2 (B 98 _ rfl)) 2 rfl (n := 99) rfl ?_
            refine Vw.sipush (v := 1000) (de_sipush (B 99 _ rfl) (B 100 _ rfl) (B 101 _ rfl)) rfl (n := 102) rfl ?_
            refine Vw.icmp_gt (tgt := 109) (n := 105) (de_icmp_gt (B 102 _ rfl) (B 103 _ rfl) (B 104 _ rfl)) rfl rfl (fun c_102 => ?_) (fun c_102 => ?_)
            · refine Vw.iconst (v := 0) (de_iconst_0 (B 109 _ rfl)) rfl (n := 110) rfl ?_
              refine Vw.istore (lv2 := [(0, _), (1, _), (2, _), (3, _), (4, _)]) (de_istore (B 110 _ rfl) (B 111 _ rfl)) (by decide) [1, 2, 3, 4, 0] rfl (n := 112) rfl ?_
              refine Vw.iload (de_iload (B 112 _ rfl) (B 113 _ rfl)) 4 rfl (n := 114) rfl ?_
              refine Vw.if_eq (tgt := 126) (n := 117) (de_if_eq (B 114 _ rfl) (B 115 _ rfl) (B 116 _ rfl)) rfl rfl (fun c_114 => ?_) (fun c_114 => ?_)
              · refine Vw.aload_n (de_aload_0 (B 126 _ rfl)) 0 rfl (n := 127) rfl ?_
                refine Vw.ivi0 (mi' := mX5_fail) (de_invokevirtual (B 127 _ rfl) (B 128 _ rfl) (B 129 _ rfl)) ml_X5_67 mv_X5_fail hx.rd.k (Nat.le_of_ble_eq_true rfl) (n := 130) rfl (k_fail hx hi ?_)
                exact Vw.zret (de_ireturn (B 130 _ rfl)) rfl rfl ⟨_, rfl, (by first
      | (have q50 := ge50 c_123
         refine h0 i _ _ _ _ ?_ hi
         unfold pPart
         rw [if_neg nb, if_pos (Or.inl ⟨n1, by rw [v2]; exact (nI_leI (a := v) (b := 1000) (by omega) (by omega)).mpr v1⟩), if_pos q50])
      | (refine h0 i _ _ _ _ ?_ hi
         unfold pPart
         rw [if_neg nb, if_neg ?_]
         rintro (q | q)
         · first | exact n1 q.1 | exact absurd (i32_le.mp q.2) (by show ¬ _ ≤ (1000 : Int); omega)
         · rw [v_no] at q; cases q))⟩
              exact absurd c_114 (by decide)
            exact absurd (by decide) c_102
          exact absurd c_75 (by decide)
    · subst ho
      rcases ls2 (cd i) with ⟨kk, k1, e_c, w2, v_ok, w_ix⟩ | ⟨e_c, w2⟩ | ⟨e_c, w2⟩ | ⟨w2, v_no, x13, x14⟩
      · have n_50 : ¬ cd i = 50 := fun q => by rw [e_c] at q; exact absurd (nI_inj (a := 18 + kk) (b := 50) (by omega) (by decide) q) (by omega)
        have n_m : ¬ (true = true ∧ (cd i = 13 ∨ cd i = 14)) := fun q => by
          rcases q.2 with z | z
          · rw [e_c] at z; exact absurd (nI_inj (a := 18 + kk) (b := 13) (by omega) (by decide) z) (by omega)
          · rw [e_c] at z; exact absurd (nI_inj (a := 18 + kk) (b := 14) (by omega) (by decide) z) (by omega)
        have i1 : i < nt := ilt (by rw [e_c]; exact fun q => absurd (nI_inj (a := 18 + kk) (b := 0) (by omega) (by decide) q) (by omega))
        obtain ⟨x86, n2⟩ : ∃ x, I (s + 86) i = x := ⟨_, rfl⟩
        refine Vw.aload_n (de_aload_0 (B 60 _ rfl)) 0 rfl (n := 61) rfl ?_
        refine Vw.getR (de_getfield (B 61 _ rfl) (B 62 _ rfl) (B 63 _ rfl)) fl_X5_30 rfl hx.rd.k hx.rd.f4 (n := 64) rfl ?_
        refine Vw.aload_n (de_aload_0 (B 64 _ rfl)) 0 rfl (n := 65) rfl ?_
        refine Vw.getI (de_getfield (B 65 _ rfl) (B 66 _ rfl) (B 67 _ rfl)) fl_X5_48 rfl hx.rd.k (n := 68) rfl ?_
        rw [rm_8]
        refine Vw.iald (de_iaload (B 68 _ rfl)) hx.rd.r4 (vIx_n (k := i) rfl (by omega)) (n := 69) rfl ?_
        rw [rm_nm, n2]
        refine Vw.istore_n (lv2 := [(0, _), (1, _), (2, _)]) (de_istore_2 (B 69 _ rfl)) rfl (by decide) [1, 2, 0] rfl (n := 70) rfl ?_
        refine Vw.aload_n (de_aload_0 (B 70 _ rfl)) 0 rfl (n := 71) rfl ?_
        refine Vw.aload_n (de_aload_0 (B 71 _ rfl)) 0 rfl (n := 72) rfl ?_
        refine Vw.getI (de_getfield (B 72 _ rfl) (B 73 _ rfl) (B 74 _ rfl)) fl_X5_40 rfl hx.rd.k (n := 75) rfl ?_
        rw [rm_6, hx.ord]
        refine Vw.if_eq (tgt := 83) (n := 78) (de_if_eq (B 75 _ rfl) (B 76 _ rfl) (B 77 _ rfl)) rfl rfl (fun c_75 => ?_) (fun c_75 => ?_)
        · exact absurd c_75 (by decide)
        obtain ⟨z78, hz78⟩ := hx.str 2 (by decide)
        refine Vw.ldcS (i := 2) (de_ldc (B 78 _ rfl) (B 79 _ rfl)) rfl (by decide) hz78.2.1 (n := 80) rfl ?_
        refine Vw.goto_ (n := 85) (de_goto_ (B 80 _ rfl) (B 81 _ rfl) (B 82 _ rfl)) rfl ?_
        refine Vw.ivi1 (mi' := mX5_listed) (de_invokevirtual (B 85 _ rfl) (B 86 _ rfl) (B 87 _ rfl)) ml_X5_95 mv_X5_listed hx.rd.k (Nat.le_of_ble_eq_true rfl) (n := 88) rfl (k_listed hx hz78 hi ?_)
        rw [w2]
        refine Vw.istore_n (lv2 := [(0, _), (1, _), (2, _), (3, _)]) (de_istore_3 (B 88 _ rfl)) rfl (by decide) [1, 2, 3, 0] rfl (n := 89) rfl ?_
        refine Vw.iload_n (de_iload_3 (B 89 _ rfl)) 3 rfl (n := 90) rfl ?_
        refine Vw.iconst (v := -1) (de_iconst_m1 (B 90 _ rfl)) rfl (n := 91) rfl ?_
        refine Vw.icmp_ne (tgt := 105) (n := 94) (de_icmp_ne (B 91 _ rfl) (B 92 _ rfl) (B 93 _ rfl)) rfl rfl (fun c_91 => ?_) (fun c_91 => ?_)
        · refine Vw.iconst (v := 1) (de_iconst_1 (B 105 _ rfl)) rfl (n := 106) rfl ?_
          refine Vw.goto_ (n := 110) (de_goto_ (B 106 _ rfl) (B 107 _ rfl) (B 108 _ rfl)) rfl ?_
          refine Vw.istore (lv2 := [(0, _), (1, _), (2, _), (3, _), (4, _)]) (de_istore (B 110 _ rfl) (B 111 _ rfl)) (by decide) [1, 2, 3, 4, 0] rfl (n := 112) rfl ?_
          refine Vw.iload (de_iload (B 112 _ rfl) (B 113 _ rfl)) 4 rfl (n := 114) rfl ?_
          refine Vw.if_eq (tgt := 126) (n := 117) (de_if_eq (B 114 _ rfl) (B 115 _ rfl) (B 116 _ rfl)) rfl rfl (fun c_114 => ?_) (fun c_114 => ?_)
          · exact absurd c_114 (by decide)
          refine Vw.aload_n (de_aload_0 (B 117 _ rfl)) 0 rfl (n := 118) rfl ?_
          refine Vw.getI (de_getfield (B 118 _ rfl) (B 119 _ rfl) (B 120 _ rfl)) fl_X5_51 rfl hx.rd.k (n := 121) rfl ?_
          rw [rm_9]
          refine Vw.bipush (v := 50) (de_bipush (B 121 _ rfl) (B 122 _ rfl)) rfl (n := 123) rfl ?_
          refine Vw.icmp_lt (tgt := 131) (n := 126) (de_icmp_lt (B 123 _ rfl) (B 124 _ rfl) (B 125 _ rfl)) rfl rfl (fun c_123 => ?_) (fun c_123 => ?_)
          · refine Vw.aload_n (de_aload_0 (B 131 _ rfl)) 0 rfl (n := 132) rfl ?_
            refine Vw.dup (de_dup (B 132 _ rfl)) rfl (n := 133) rfl ?_
            refine Vw.getI (de_getfield (B 133 _ rfl) (B 134 _ rfl) (B 135 _ rfl)) fl_X5_51 rfl hx.rd.k (n := 136) rfl ?_
            rw [rm_9]
            refine Vw.iconst (v := 1) (de_iconst_1 (B 136 _ rfl)) rfl (n := 137) rfl ?_
            refine Vw.iadd (de_iadd (B 137 _ rfl)) (n := 138) rfl ?_
            rw [nI_1]
            refine Vw.putI (de_putfield (B 138 _ rfl) (B 139 _ rfl) (B 140 _ rfl)) fl_X5_51 hx.rd.k rfl rfl (n := 141) rfl ?_
            rw [up_9]
            refine Vw.aload_n (de_aload_0 (B 141 _ rfl)) 0 rfl (n := 142) rfl ?_
            refine Vw.dup (de_dup (B 142 _ rfl)) rfl (n := 143) rfl ?_
            refine Vw.getI (de_getfield (B 143 _ rfl) (B 144 _ rfl) (B 145 _ rfl)) fl_X5_48 rfl hx.rd.k (n := 146) rfl ?_
            rw [rm_8]
            refine Vw.iconst (v := 1) (de_iconst_1 (B 146 _ rfl)) rfl (n := 147) rfl ?_
            refine Vw.iadd (de_iadd (B 147 _ rfl)) (n := 148) rfl ?_
            rw [nI_1]
            refine Vw.putI (de_putfield (B 148 _ rfl) (B 149 _ rfl) (B 150 _ rfl)) fl_X5_48 hx.rd.k rfl rfl (n := 151) rfl ?_
            rw [up_8]
            refine Vw.iload_n (de_iload_3 (B 151 _ rfl)) 3 rfl (n := 152) rfl ?_
            refine Vw.iconst (v := -1) (de_iconst_m1 (B 152 _ rfl)) rfl (n := 153) rfl ?_
            refine Vw.icmp_ne (tgt := 165) (n := 156) (de_icmp_ne (B 153 _ rfl) (B 154 _ rfl) (B 155 _ rfl)) rfl rfl (fun c_153 => ?_) (fun c_153 => ?_)
            · refine Vw.aload_n (de_aload_0 (B 165 _ rfl)) 0 rfl (n := 166) rfl ?_
              refine Vw.getI (de_getfield (B 166 _ rfl) (B 167 _ rfl) (B 168 _ rfl)) fl_X5_40 rfl hx.rd.k (n := 169) rfl ?_
              rw [rm_6, hx.ord]
              refine Vw.if_eq (tgt := 185) (n := 172) (de_if_eq (B 169 _ rfl) (B 170 _ rfl) (B 171 _ rfl)) rfl rfl (fun c_169 => ?_) (fun c_169 => ?_)
              · exact absurd c_169 (by decide)
              refine Vw.iload_n (de_iload_3 (B 172 _ rfl)) 3 rfl (n := 173) rfl ?_
              refine Vw.iconst (v := 3) (de_iconst_3 (B 173 _ rfl)) rfl (n := 174) rfl ?_
              refine Vw.icmp_lt (tgt := 185) (n := 177) (de_icmp_lt (B 174 _ rfl) (B 175 _ rfl) (B 176 _ rfl)) rfl rfl (fun c_174 => ?_) (fun c_174 => ?_)
              · refine Vw.aload_n (de_aload_0 (B 185 _ rfl)) 0 rfl (n := 186) rfl ?_
                refine Vw.iconst (v := 1) (de_iconst_1 (B 186 _ rfl)) rfl (n := 187) rfl ?_
                refine Vw.iload_n (de_iload_3 (B 187 _ rfl)) 3 rfl (n := 188) rfl ?_
                refine Vw.ivi2 (mi' := mX5_emit) (de_invokevirtual (B 188 _ rfl) (B 189 _ rfl) (B 190 _ rfl)) ml_X5_143 mv_X5_emit hx.rd.k (Nat.le_of_ble_eq_true rfl) (n := 191) rfl (k_emit (op := 1) (k := kk) hx (by decide) (by omega) (show c < 400 by omega) ?_)
                refine Vw.if_lt (tgt := 198) (n := 194) (de_if_lt (B 191 _ rfl) (B 192 _ rfl) (B 193 _ rfl)) rfl rfl (fun c_191 => ?_) (fun c_191 => ?_)
                · exact absurd c_191 (nn_nI (by omega))
                refine Vw.iconst (v := 1) (de_iconst_1 (B 194 _ rfl)) rfl (n := 195) rfl ?_
                refine Vw.goto_ (n := 199) (de_goto_ (B 195 _ rfl) (B 196 _ rfl) (B 197 _ rfl)) rfl ?_
                exact Vw.zret (de_ireturn (B 199 _ rfl)) rfl rfl ⟨_, rfl, (by
      refine h1 (i + 1) (l + 1) _ (c + 1) _ ?_ (by omega) (by omega) (by have := lt50 c_123; omega) (by omega) (fun x hx2 => upK_lt hx2) ((WC2_word (k := kk) (show kk < 19 by omega) (by omega) (upK_s _ _ _)).up hDm) (fun z => by cases z)
      unfold pPart
      rw [if_neg nb, if_pos (Or.inr v_ok), if_neg (lt50 c_123), if_neg n_m, if_neg n_50, w_ix])⟩
              exact absurd (i32_lt.mpr (by rw [nI_ti (by omega)]; show (kk : Int) < 3; omega)) c_174
            exact absurd c_153 (nI_m1 (by omega))
          refine Vw.aload_n (de_aload_0 (B 126 _ rfl)) 0 rfl (n := 127) rfl ?_
          refine Vw.ivi0 (mi' := mX5_fail) (de_invokevirtual (B 127 _ rfl) (B 128 _ rfl) (B 129 _ rfl)) ml_X5_67 mv_X5_fail hx.rd.k (Nat.le_of_ble_eq_true rfl) (n := 130) rfl (k_fail hx hi ?_)
          exact Vw.zret (de_ireturn (B 130 _ rfl)) rfl rfl ⟨_, rfl, (by first
      | (have q50 := ge50 c_123
         refine h0 i _ _ _ _ ?_ hi
         unfold pPart
         rw [if_neg nb, if_pos (Or.inr v_ok), if_pos q50])
      | (refine h0 i _ _ _ _ ?_ hi
         unfold pPart
         rw [if_neg nb, if_neg ?_]
         rintro (q | q)
         · first | exact n1 q.1 | exact absurd (i32_le.mp q.2) (by show ¬ _ ≤ (1000 : Int); omega)
         · rw [v_no] at q; cases q))⟩
        exact absurd c_91 (nI_m1 (by omega))
      · have v_ok : isVal true (cd i) = true := by rw [e_c]; decide
        obtain ⟨x86, n2⟩ : ∃ x, I (s + 86) i = x := ⟨_, rfl⟩
        refine Vw.aload_n (de_aload_0 (B 60 _ rfl)) 0 rfl (n := 61) rfl ?_
        refine Vw.getR (de_getfield (B 61 _ rfl) (B 62 _ rfl) (B 63 _ rfl)) fl_X5_30 rfl hx.rd.k hx.rd.f4 (n := 64) rfl ?_
        refine Vw.aload_n (de_aload_0 (B 64 _ rfl)) 0 rfl (n := 65) rfl ?_
        refine Vw.getI (de_getfield (B 65 _ rfl) (B 66 _ rfl) (B 67 _ rfl)) fl_X5_48 rfl hx.rd.k (n := 68) rfl ?_
        rw [rm_8]
        refine Vw.iald (de_iaload (B 68 _ rfl)) hx.rd.r4 (vIx_n (k := i) rfl (by omega)) (n := 69) rfl ?_
        rw [rm_nm, n2]
        refine Vw.istore_n (lv2 := [(0, _), (1, _), (2, _)]) (de_istore_2 (B 69 _ rfl)) rfl (by decide) [1, 2, 0] rfl (n := 70) rfl ?_
        refine Vw.aload_n (de_aload_0 (B 70 _ rfl)) 0 rfl (n := 71) rfl ?_
        refine Vw.aload_n (de_aload_0 (B 71 _ rfl)) 0 rfl (n := 72) rfl ?_
        refine Vw.getI (de_getfield (B 72 _ rfl) (B 73 _ rfl) (B 74 _ rfl)) fl_X5_40 rfl hx.rd.k (n := 75) rfl ?_
        rw [rm_6, hx.ord]
        refine Vw.if_eq (tgt := 83) (n := 78) (de_if_eq (B 75 _ rfl) (B 76 _ rfl) (B 77 _ rfl)) rfl rfl (fun c_75 => ?_) (fun c_75 => ?_)
        · exact absurd c_75 (by decide)
        obtain ⟨z78, hz78⟩ := hx.str 2 (by decide)
        refine Vw.ldcS (i := 2) (de_ldc (B 78 _ rfl) (B 79 _ rfl)) rfl (by decide) hz78.2.1 (n := 80) rfl ?_
        refine Vw.goto_ (n := 85) (de_goto_ (B 80 _ rfl) (B 81 _ rfl) (B 82 _ rfl)) rfl ?_
        refine Vw.ivi1 (mi' := mX5_listed) (de_invokevirtual (B 85 _ rfl) (B 86 _ rfl) (B 87 _ rfl)) ml_X5_95 mv_X5_listed hx.rd.k (Nat.le_of_ble_eq_true rfl) (n := 88) rfl (k_listed hx hz78 hi ?_)
        rw [w2]
        refine Vw.istore_n (lv2 := [(0, _), (1, _), (2, _), (3, _)]) (de_istore_3 (B 88 _ rfl)) rfl (by decide) [1, 2, 3, 0] rfl (n := 89) rfl ?_
        refine Vw.iload_n (de_iload_3 (B 89 _ rfl)) 3 rfl (n := 90) rfl ?_
        refine Vw.iconst (v := -1) (de_iconst_m1 (B 90 _ rfl)) rfl (n := 91) rfl ?_
        refine Vw.icmp_ne (tgt := 105) (n := 94) (de_icmp_ne (B 91 _ rfl) (B 92 _ rfl) (B 93 _ rfl)) rfl rfl (fun c_91 => ?_) (fun c_91 => ?_)
        · refine Vw.iconst (v := 1) (de_iconst_1 (B 105 _ rfl)) rfl (n := 106) rfl ?_
          refine Vw.goto_ (n := 110) (de_goto_ (B 106 _ rfl) (B 107 _ rfl) (B 108 _ rfl)) rfl ?_
          refine Vw.istore (lv2 := [(0, _), (1, _), (2, _), (3, _), (4, _)]) (de_istore (B 110 _ rfl) (B 111 _ rfl)) (by decide) [1, 2, 3, 4, 0] rfl (n := 112) rfl ?_
          refine Vw.iload (de_iload (B 112 _ rfl) (B 113 _ rfl)) 4 rfl (n := 114) rfl ?_
          refine Vw.if_eq (tgt := 126) (n := 117) (de_if_eq (B 114 _ rfl) (B 115 _ rfl) (B 116 _ rfl)) rfl rfl (fun c_114 => ?_) (fun c_114 => ?_)
          · exact absurd c_114 (by decide)
          refine Vw.aload_n (de_aload_0 (B 117 _ rfl)) 0 rfl (n := 118) rfl ?_
          refine Vw.getI (de_getfield (B 118 _ rfl) (B 119 _ rfl) (B 120 _ rfl)) fl_X5_51 rfl hx.rd.k (n := 121) rfl ?_
          rw [rm_9]
          refine Vw.bipush (v := 50) (de_bipush (B 121 _ rfl) (B 122 _ rfl)) rfl (n := 123) rfl ?_
          refine Vw.icmp_lt (tgt := 131) (n := 126) (de_icmp_lt (B 123 _ rfl) (B 124 _ rfl) (B 125 _ rfl)) rfl rfl (fun c_123 => ?_) (fun c_123 => ?_)
          · refine Vw.aload_n (de_aload_0 (B 131 _ rfl)) 0 rfl (n := 132) rfl ?_
            refine Vw.dup (de_dup (B 132 _ rfl)) rfl (n := 133) rfl ?_
            refine Vw.getI (de_getfield (B 133 _ rfl) (B 134 _ rfl) (B 135 _ rfl)) fl_X5_51 rfl hx.rd.k (n := 136) rfl ?_
            rw [rm_9]
            refine Vw.iconst (v := 1) (de_iconst_1 (B 136 _ rfl)) rfl (n := 137) rfl ?_
            refine Vw.iadd (de_iadd (B 137 _ rfl)) (n := 138) rfl ?_
            rw [nI_1]
            refine Vw.putI (de_putfield (B 138 _ rfl) (B 139 _ rfl) (B 140 _ rfl)) fl_X5_51 hx.rd.k rfl rfl (n := 141) rfl ?_
            rw [up_9]
            refine Vw.aload_n (de_aload_0 (B 141 _ rfl)) 0 rfl (n := 142) rfl ?_
            refine Vw.dup (de_dup (B 142 _ rfl)) rfl (n := 143) rfl ?_
            refine Vw.getI (de_getfield (B 143 _ rfl) (B 144 _ rfl) (B 145 _ rfl)) fl_X5_48 rfl hx.rd.k (n := 146) rfl ?_
            rw [rm_8]
            refine Vw.iconst (v := 1) (de_iconst_1 (B 146 _ rfl)) rfl (n := 147) rfl ?_
            refine Vw.iadd (de_iadd (B 147 _ rfl)) (n := 148) rfl ?_
            rw [nI_1]
            refine Vw.putI (de_putfield (B 148 _ rfl) (B 149 _ rfl) (B 150 _ rfl)) fl_X5_48 hx.rd.k rfl rfl (n := 151) rfl ?_
            rw [up_8]
            refine Vw.iload_n (de_iload_3 (B 151 _ rfl)) 3 rfl (n := 152) rfl ?_
            refine Vw.iconst (v := -1) (de_iconst_m1 (B 152 _ rfl)) rfl (n := 153) rfl ?_
            refine Vw.icmp_ne (tgt := 165) (n := 156) (de_icmp_ne (B 153 _ rfl) (B 154 _ rfl) (B 155 _ rfl)) rfl rfl (fun c_153 => ?_) (fun c_153 => ?_)
            · refine Vw.aload_n (de_aload_0 (B 165 _ rfl)) 0 rfl (n := 166) rfl ?_
              refine Vw.getI (de_getfield (B 166 _ rfl) (B 167 _ rfl) (B 168 _ rfl)) fl_X5_40 rfl hx.rd.k (n := 169) rfl ?_
              rw [rm_6, hx.ord]
              refine Vw.if_eq (tgt := 185) (n := 172) (de_if_eq (B 169 _ rfl) (B 170 _ rfl) (B 171 _ rfl)) rfl rfl (fun c_169 => ?_) (fun c_169 => ?_)
              · exact absurd c_169 (by decide)
              refine Vw.iload_n (de_iload_3 (B 172 _ rfl)) 3 rfl (n := 173) rfl ?_
              refine Vw.iconst (v := 3) (de_iconst_3 (B 173 _ rfl)) rfl (n := 174) rfl ?_
              refine Vw.icmp_lt (tgt := 185) (n := 177) (de_icmp_lt (B 174 _ rfl) (B 175 _ rfl) (B 176 _ rfl)) rfl rfl (fun c_174 => ?_) (fun c_174 => ?_)
              · exact absurd c_174 (by decide)
              refine Vw.aload_n (de_aload_0 (B 177 _ rfl)) 0 rfl (n := 178) rfl ?_
              refine Vw.iload_n (de_iload_3 (B 178 _ rfl)) 3 rfl (n := 179) rfl ?_
              refine Vw.ivi1 (mi' := mX5_readMeasured) (de_invokevirtual (B 179 _ rfl) (B 180 _ rfl) (B 181 _ rfl)) ml_X5_172 mv_X5_readMeasured hx.rd.k (Nat.le_of_ble_eq_true rfl) (n := 182) rfl (k_readMeasured (wd := 3) (i := i + 1) (n := c) hx (by have := ilt (by rw [e_c]; decide); omega) (by have := ilt (by rw [e_c]; decide); omega) (by decide) (fun v p1 p2 p3 => ?_) (fun p0 => ?_))
              · refine Vw.goto_ (n := 199) (de_goto_ (B 182 _ rfl) (B 183 _ rfl) (B 184 _ rfl)) rfl ?_
                exact Vw.zret (de_ireturn (B 199 _ rfl)) rfl rfl ⟨_, rfl, (by
      have i1 : i + 1 < nt := by
        rcases Nat.lt_or_ge (i + 1) nt with z | z
        · exact z
        · have := ilt (by rw [e_c]; decide); rw [show i + 1 = nt by omega, hx.c0] at p1; exact absurd p1 (by decide)
      have p4 := (lie07 (show v ≤ 1000 by omega)).mpr p3
      rw [if_pos (by decide)]
      refine h1 (i + 2) (l + 1) _ (c + 1) _ ?_ (by omega) (by omega) (by have := lt50 c_123; omega) (by omega) (fun x hx2 => upK_lt hx2) ((WC2_word (k := 3 + v) (show 3 + v < 19 by omega) (by omega) (upK_s _ _ _)).up hDm) (fun z => by cases z)
      unfold pPart
      rw [if_neg nb, if_pos (Or.inr v_ok), if_neg (lt50 c_123), if_pos ⟨rfl, Or.inl e_c⟩, if_pos ⟨p1, by rw [p2]; exact p4⟩, if_pos e_c, p2, nI_cl (by omega)])⟩
              · refine Vw.goto_ (n := 199) (de_goto_ (B 182 _ rfl) (B 183 _ rfl) (B 184 _ rfl)) rfl ?_
                exact Vw.zret (de_ireturn (B 199 _ rfl)) rfl rfl ⟨_, rfl, (by
      have i1 := ilt (by rw [e_c]; decide)
      refine h0 (i + 1) _ _ _ _ ?_ (by omega)
      unfold pPart
      rw [if_neg nb, if_pos (Or.inr v_ok), if_neg (lt50 c_123), if_pos ⟨rfl, Or.inl e_c⟩, if_neg p0])⟩
            exact absurd c_153 (by decide)
          refine Vw.aload_n (de_aload_0 (B 126 _ rfl)) 0 rfl (n := 127) rfl ?_
          refine Vw.ivi0 (mi' := mX5_fail) (de_invokevirtual (B 127 _ rfl) (B 128 _ rfl) (B 129 _ rfl)) ml_X5_67 mv_X5_fail hx.rd.k (Nat.le_of_ble_eq_true rfl) (n := 130) rfl (k_fail hx hi ?_)
          exact Vw.zret (de_ireturn (B 130 _ rfl)) rfl rfl ⟨_, rfl, (by first
      | (have q50 := ge50 c_123
         refine h0 i _ _ _ _ ?_ hi
         unfold pPart
         rw [if_neg nb, if_pos (Or.inr v_ok), if_pos q50])
      | (refine h0 i _ _ _ _ ?_ hi
         unfold pPart
         rw [if_neg nb, if_neg ?_]
         rintro (q | q)
         · first | exact n1 q.1 | exact absurd (i32_le.mp q.2) (by show ¬ _ ≤ (1000 : Int); omega)
         · rw [v_no] at q; cases q))⟩
        exact absurd c_91 (by decide)
      · have v_ok : isVal true (cd i) = true := by rw [e_c]; decide
        obtain ⟨x86, n2⟩ : ∃ x, I (s + 86) i = x := ⟨_, rfl⟩
        refine Vw.aload_n (de_aload_0 (B 60 _ rfl)) 0 rfl (n := 61) rfl ?_
        refine Vw.getR (de_getfield (B 61 _ rfl) (B 62 _ rfl) (B 63 _ rfl)) fl_X5_30 rfl hx.rd.k hx.rd.f4 (n := 64) rfl ?_
        refine Vw.aload_n (de_aload_0 (B 64 _ rfl)) 0 rfl (n := 65) rfl ?_
        refine Vw.getI (de_getfield (B 65 _ rfl) (B 66 _ rfl) (B 67 _ rfl)) fl_X5_48 rfl hx.rd.k (n := 68) rfl ?_
        rw [rm_8]
        refine Vw.iald (de_iaload (B 68 _ rfl)) hx.rd.r4 (vIx_n (k := i) rfl (by omega)) (n := 69) rfl ?_
        rw [rm_nm, n2]
        refine Vw.istore_n (lv2 := [(0, _), (1, _), (2, _)]) (de_istore_2 (B 69 _ rfl)) rfl (by decide) [1, 2, 0] rfl (n := 70) rfl ?_
        refine Vw.aload_n (de_aload_0 (B 70 _ rfl)) 0 rfl (n := 71) rfl ?_
        refine Vw.aload_n (de_aload_0 (B 71 _ rfl)) 0 rfl (n := 72) rfl ?_
        refine Vw.getI (de_getfield (B 72 _ rfl) (B 73 _ rfl) (B 74 _ rfl)) fl_X5_40 rfl hx.rd.k (n := 75) rfl ?_
        rw [rm_6, hx.ord]
        refine Vw.if_eq (tgt := 83) (n := 78) (de_if_eq (B 75 _ rfl) (B 76 _ rfl) (B 77 _ rfl)) rfl rfl (fun c_75 => ?_) (fun c_75 => ?_)
        · exact absurd c_75 (by decide)
        obtain ⟨z78, hz78⟩ := hx.str 2 (by decide)
        refine Vw.ldcS (i := 2) (de_ldc (B 78 _ rfl) (B 79 _ rfl)) rfl (by decide) hz78.2.1 (n := 80) rfl ?_
        refine Vw.goto_ (n := 85) (de_goto_ (B 80 _ rfl) (B 81 _ rfl) (B 82 _ rfl)) rfl ?_
        refine Vw.ivi1 (mi' := mX5_listed) (de_invokevirtual (B 85 _ rfl) (B 86 _ rfl) (B 87 _ rfl)) ml_X5_95 mv_X5_listed hx.rd.k (Nat.le_of_ble_eq_true rfl) (n := 88) rfl (k_listed hx hz78 hi ?_)
        rw [w2]
        refine Vw.istore_n (lv2 := [(0, _), (1, _), (2, _), (3, _)]) (de_istore_3 (B 88 _ rfl)) rfl (by decide) [1, 2, 3, 0] rfl (n := 89) rfl ?_
        refine Vw.iload_n (de_iload_3 (B 89 _ rfl)) 3 rfl (n := 90) rfl ?_
        refine Vw.iconst (v := -1) (de_iconst_m1 (B 90 _ rfl)) rfl (n := 91) rfl ?_
        refine Vw.icmp_ne (tgt := 105) (n := 94) (de_icmp_ne (B 91 _ rfl) (B 92 _ rfl) (B 93 _ rfl)) rfl rfl (fun c_91 => ?_) (fun c_91 => ?_)
        · refine Vw.iconst (v := 1) (de_iconst_1 (B 105 _ rfl)) rfl (n := 106) rfl ?_
          refine Vw.goto_ (n := 110) (de_goto_ (B 106 _ rfl) (B 107 _ rfl) (B 108 _ rfl)) rfl ?_
          refine Vw.istore (lv2 := [(0, _), (1, _), (2, _), (3, _), (4, _)]) (de_istore (B 110 _ rfl) (B 111 _ rfl)) (by decide) [1, 2, 3, 4, 0] rfl (n := 112) rfl ?_
          refine Vw.iload (de_iload (B 112 _ rfl) (B 113 _ rfl)) 4 rfl (n := 114) rfl ?_
          refine Vw.if_eq (tgt := 126) (n := 117) (de_if_eq (B 114 _ rfl) (B 115 _ rfl) (B 116 _ rfl)) rfl rfl (fun c_114 => ?_) (fun c_114 => ?_)
          · exact absurd c_114 (by decide)
          refine Vw.aload_n (de_aload_0 (B 117 _ rfl)) 0 rfl (n := 118) rfl ?_
          refine Vw.getI (de_getfield (B 118 _ rfl) (B 119 _ rfl) (B 120 _ rfl)) fl_X5_51 rfl hx.rd.k (n := 121) rfl ?_
          rw [rm_9]
          refine Vw.bipush (v := 50) (de_bipush (B 121 _ rfl) (B 122 _ rfl)) rfl (n := 123) rfl ?_
          refine Vw.icmp_lt (tgt := 131) (n := 126) (de_icmp_lt (B 123 _ rfl) (B 124 _ rfl) (B 125 _ rfl)) rfl rfl (fun c_123 => ?_) (fun c_123 => ?_)
          · refine Vw.aload_n (de_aload_0 (B 131 _ rfl)) 0 rfl (n := 132) rfl ?_
            refine Vw.dup (de_dup (B 132 _ rfl)) rfl (n := 133) rfl ?_
            refine Vw.getI (de_getfield (B 133 _ rfl) (B 134 _ rfl) (B 135 _ rfl)) fl_X5_51 rfl hx.rd.k (n := 136) rfl ?_
            rw [rm_9]
            refine Vw.iconst (v := 1) (de_iconst_1 (B 136 _ rfl)) rfl (n := 137) rfl ?_
            refine Vw.iadd (de_iadd (B 137 _ rfl)) (n := 138) rfl ?_
            rw [nI_1]
            refine Vw.putI (de_putfield (B 138 _ rfl) (B 139 _ rfl) (B 140 _ rfl)) fl_X5_51 hx.rd.k rfl rfl (n := 141) rfl ?_
            rw [up_9]
            refine Vw.aload_n (de_aload_0 (B 141 _ rfl)) 0 rfl (n := 142) rfl ?_
            refine Vw.dup (de_dup (B 142 _ rfl)) rfl (n := 143) rfl ?_
            refine Vw.getI (de_getfield (B 143 _ rfl) (B 144 _ rfl) (B 145 _ rfl)) fl_X5_48 rfl hx.rd.k (n := 146) rfl ?_
            rw [rm_8]
            refine Vw.iconst (v := 1) (de_iconst_1 (B 146 _ rfl)) rfl (n := 147) rfl ?_
            refine Vw.iadd (de_iadd (B 147 _ rfl)) (n := 148) rfl ?_
            rw [nI_1]
            refine Vw.putI (de_putfield (B 148 _ rfl) (B 149 _ rfl) (B 150 _ rfl)) fl_X5_48 hx.rd.k rfl rfl (n := 151) rfl ?_
            rw [up_8]
            refine Vw.iload_n (de_iload_3 (B 151 _ rfl)) 3 rfl (n := 152) rfl ?_
            refine Vw.iconst (v := -1) (de_iconst_m1 (B 152 _ rfl)) rfl (n := 153) rfl ?_
            refine Vw.icmp_ne (tgt := 165) (n := 156) (de_icmp_ne (B 153 _ rfl) (B 154 _ rfl) (B 155 _ rfl)) rfl rfl (fun c_153 => ?_) (fun c_153 => ?_)
            · refine Vw.aload_n (de_aload_0 (B 165 _ rfl)) 0 rfl (n := 166) rfl ?_
              refine Vw.getI (de_getfield (B 166 _ rfl) (B 167 _ rfl) (B 168 _ rfl)) fl_X5_40 rfl hx.rd.k (n := 169) rfl ?_
              rw [rm_6, hx.ord]
              refine Vw.if_eq (tgt := 185) (n := 172) (de_if_eq (B 169 _ rfl) (B 170 _ rfl) (B 171 _ rfl)) rfl rfl (fun c_169 => ?_) (fun c_169 => ?_)
              · exact absurd c_169 (by decide)
              refine Vw.iload_n (de_iload_3 (B 172 _ rfl)) 3 rfl (n := 173) rfl ?_
              refine Vw.iconst (v := 3) (de_iconst_3 (B 173 _ rfl)) rfl (n := 174) rfl ?_
              refine Vw.icmp_lt (tgt := 185) (n := 177) (de_icmp_lt (B 174 _ rfl) (B 175 _ rfl) (B 176 _ rfl)) rfl rfl (fun c_174 => ?_) (fun c_174 => ?_)
              · exact absurd c_174 (by decide)
              refine Vw.aload_n (de_aload_0 (B 177 _ rfl)) 0 rfl (n := 178) rfl ?_
              refine Vw.iload_n (de_iload_3 (B 178 _ rfl)) 3 rfl (n := 179) rfl ?_
              refine Vw.ivi1 (mi' := mX5_readMeasured) (de_invokevirtual (B 179 _ rfl) (B 180 _ rfl) (B 181 _ rfl)) ml_X5_172 mv_X5_readMeasured hx.rd.k (Nat.le_of_ble_eq_true rfl) (n := 182) rfl (k_readMeasured (wd := 4) (i := i + 1) (n := c) hx (by have := ilt (by rw [e_c]; decide); omega) (by have := ilt (by rw [e_c]; decide); omega) (by decide) (fun v p1 p2 p3 => ?_) (fun p0 => ?_))
              · refine Vw.goto_ (n := 199) (de_goto_ (B 182 _ rfl) (B 183 _ rfl) (B 184 _ rfl)) rfl ?_
                exact Vw.zret (de_ireturn (B 199 _ rfl)) rfl rfl ⟨_, rfl, (by
      have i1 : i + 1 < nt := by
        rcases Nat.lt_or_ge (i + 1) nt with z | z
        · exact z
        · have := ilt (by rw [e_c]; decide); rw [show i + 1 = nt by omega, hx.c0] at p1; exact absurd p1 (by decide)
      have p4 := (lie07 (show v ≤ 1000 by omega)).mpr p3
      rw [if_neg (by decide)]
      refine h1 (i + 2) (l + 1) _ (c + 1) _ ?_ (by omega) (by omega) (by have := lt50 c_123; omega) (by omega) (fun x hx2 => upK_lt hx2) ((WC2_word (k := 11 + v) (show 11 + v < 19 by omega) (by omega) (upK_s _ _ _)).up hDm) (fun z => by cases z)
      unfold pPart
      rw [if_neg nb, if_pos (Or.inr v_ok), if_neg (lt50 c_123), if_pos ⟨rfl, Or.inr e_c⟩, if_pos ⟨p1, by rw [p2]; exact p4⟩, if_neg (by rw [e_c]; decide), p2, nI_cl (by omega)])⟩
              · refine Vw.goto_ (n := 199) (de_goto_ (B 182 _ rfl) (B 183 _ rfl) (B 184 _ rfl)) rfl ?_
                exact Vw.zret (de_ireturn (B 199 _ rfl)) rfl rfl ⟨_, rfl, (by
      have i1 := ilt (by rw [e_c]; decide)
      refine h0 (i + 1) _ _ _ _ ?_ (by omega)
      unfold pPart
      rw [if_neg nb, if_pos (Or.inr v_ok), if_neg (lt50 c_123), if_pos ⟨rfl, Or.inr e_c⟩, if_neg p0])⟩
            exact absurd c_153 (by decide)
          refine Vw.aload_n (de_aload_0 (B 126 _ rfl)) 0 rfl (n := 127) rfl ?_
          refine Vw.ivi0 (mi' := mX5_fail) (de_invokevirtual (B 127 _ rfl) (B 128 _ rfl) (B 129 _ rfl)) ml_X5_67 mv_X5_fail hx.rd.k (Nat.le_of_ble_eq_true rfl) (n := 130) rfl (k_fail hx hi ?_)
          exact Vw.zret (de_ireturn (B 130 _ rfl)) rfl rfl ⟨_, rfl, (by first
      | (have q50 := ge50 c_123
         refine h0 i _ _ _ _ ?_ hi
         unfold pPart
         rw [if_neg nb, if_pos (Or.inr v_ok), if_pos q50])
      | (refine h0 i _ _ _ _ ?_ hi
         unfold pPart
         rw [if_neg nb, if_neg ?_]
         rintro (q | q)
         · first | exact n1 q.1 | exact absurd (i32_le.mp q.2) (by show ¬ _ ≤ (1000 : Int); omega)
         · rw [v_no] at q; cases q))⟩
        exact absurd c_91 (by decide)
      · rcases hx.num hi with ⟨n1, n2⟩ | ⟨n1, v, v1, v2, n2⟩ | ⟨n1, n3, n2⟩
        · skip
          refine Vw.aload_n (de_aload_0 (B 60 _ rfl)) 0 rfl (n := 61) rfl ?_
          refine Vw.getR (de_getfield (B 61 _ rfl) (B 62 _ rfl) (B 63 _ rfl)) fl_X5_30 rfl hx.rd.k hx.rd.f4 (n := 64) rfl ?_
          refine Vw.aload_n (de_aload_0 (B 64 _ rfl)) 0 rfl (n := 65) rfl ?_
          refine Vw.getI (de_getfield (B 65 _ rfl) (B 66 _ rfl) (B 67 _ rfl)) fl_X5_48 rfl hx.rd.k (n := 68) rfl ?_
          rw [rm_8]
          refine Vw.iald (de_iaload (B 68 _ rfl)) hx.rd.r4 (vIx_n (k := i) rfl (by omega)) (n := 69) rfl ?_
          rw [rm_nm, n2]
          refine Vw.istore_n (lv2 := [(0, _), (1, _), (2, _)]) (de_istore_2 (B 69 _ rfl)) rfl (by decide) [1, 2, 0] rfl (n := 70) rfl ?_
          refine Vw.aload_n (de_aload_0 (B 70 _ rfl)) 0 rfl (n := 71) rfl ?_
          refine Vw.aload_n (de_aload_0 (B 71 _ rfl)) 0 rfl (n := 72) rfl ?_
          refine Vw.getI (de_getfield (B 72 _ rfl) (B 73 _ rfl) (B 74 _ rfl)) fl_X5_40 rfl hx.rd.k (n := 75) rfl ?_
          rw [rm_6, hx.ord]
          refine Vw.if_eq (tgt := 83) (n := 78) (de_if_eq (B 75 _ rfl) (B 76 _ rfl) (B 77 _ rfl)) rfl rfl (fun c_75 => ?_) (fun c_75 => ?_)
          · exact absurd c_75 (by decide)
          obtain ⟨z78, hz78⟩ := hx.str 2 (by decide)
          refine Vw.ldcS (i := 2) (de_ldc (B 78 _ rfl) (B 79 _ rfl)) rfl (by decide) hz78.2.1 (n := 80) rfl ?_
          refine Vw.goto_ (n := 85) (de_goto_ (B 80 _ rfl) (B 81 _ rfl) (B 82 _ rfl)) rfl ?_
          refine Vw.ivi1 (mi' := mX5_listed) (de_invokevirtual (B 85 _ rfl) (B 86 _ rfl) (B 87 _ rfl)) ml_X5_95 mv_X5_listed hx.rd.k (Nat.le_of_ble_eq_true rfl) (n := 88) rfl (k_listed hx hz78 hi ?_)
          rw [w2]
          refine Vw.istore_n (lv2 := [(0, _), (1, _), (2, _), (3, _)]) (de_istore_3 (B 88 _ rfl)) rfl (by decide) [1, 2, 3, 0] rfl (n := 89) rfl ?_
          refine Vw.iload_n (de_iload_3 (B 89 _ rfl)) 3 rfl (n := 90) rfl ?_
          refine Vw.iconst (v := -1) (de_iconst_m1 (B 90 _ rfl)) rfl (n := 91) rfl ?_
          refine Vw.icmp_ne (tgt := 105) (n := 94) (de_icmp_ne (B 91 _ rfl) (B 92 _ rfl) (B 93 _ rfl)) rfl rfl (fun c_91 => ?_) (fun c_91 => ?_)
          · exact absurd rfl c_91
          refine Vw.iload_n (de_iload_2 (B 94 _ rfl)) 2 rfl (n := 95) rfl ?_
          refine Vw.if_lt (tgt := 109) (n := 98) (de_if_lt (B 95 _ rfl) (B 96 _ rfl) (B 97 _ rfl)) rfl rfl (fun c_95 => ?_) (fun c_95 => ?_)
          · refine Vw.iconst (v := 0) (de_iconst_0 (B 109 _ rfl)) rfl (n := 110) rfl ?_
            refine Vw.istore (lv2 := [(0, _), (1, _), (2, _), (3, _), (4, _)]) (de_istore (B 110 _ rfl) (B 111 _ rfl)) (by decide) [1, 2, 3, 4, 0] rfl (n := 112) rfl ?_
            refine Vw.iload (de_iload (B 112 _ rfl) (B 113 _ rfl)) 4 rfl (n := 114) rfl ?_
            refine Vw.if_eq (tgt := 126) (n := 117) (de_if_eq (B 114 _ rfl) (B 115 _ rfl) (B 116 _ rfl)) rfl rfl (fun c_114 => ?_) (fun c_114 => ?_)
            · refine Vw.aload_n (de_aload_0 (B 126 _ rfl)) 0 rfl (n := 127) rfl ?_
              refine Vw.ivi0 (mi' := mX5_fail) (de_invokevirtual (B 127 _ rfl) (B 128 _ rfl) (B 129 _ rfl)) ml_X5_67 mv_X5_fail hx.rd.k (Nat.le_of_ble_eq_true rfl) (n := 130) rfl (k_fail hx hi ?_)
              exact Vw.zret (de_ireturn (B 130 _ rfl)) rfl rfl ⟨_, rfl, (by first
      | (have q50 := ge50 c_123
         refine h0 i _ _ _ _ ?_ hi
         unfold pPart
         rw [if_neg nb, if_pos (Or.inl ⟨n1, by rw [v2]; exact (nI_leI (a := v) (b := 1000) (by omega) (by omega)).mpr v1⟩), if_pos q50])
      | (refine h0 i _ _ _ _ ?_ hi
         unfold pPart
         rw [if_neg nb, if_neg ?_]
         rintro (q | q)
         · first | exact n1 q.1 | exact absurd (i32_le.mp q.2) (by show ¬ _ ≤ (1000 : Int); omega)
         · rw [v_no] at q; cases q))⟩
            exact absurd c_114 (by decide)
          exact absurd (by decide) c_95
        · have i1 : i < nt := ilt (by rw [n1]; decide)
          refine Vw.aload_n (de_aload_0 (B 60 _ rfl)) 0 rfl (n := 61) rfl ?_
          refine Vw.getR (de_getfield (B 61 _ rfl) (B 62 _ rfl) (B 63 _ rfl)) fl_X5_30 rfl hx.rd.k hx.rd.f4 (n := 64) rfl ?_
          refine Vw.aload_n (de_aload_0 (B 64 _ rfl)) 0 rfl (n := 65) rfl ?_
          refine Vw.getI (de_getfield (B 65 _ rfl) (B 66 _ rfl) (B 67 _ rfl)) fl_X5_48 rfl hx.rd.k (n := 68) rfl ?_
          rw [rm_8]
          refine Vw.iald (de_iaload (B 68 _ rfl)) hx.rd.r4 (vIx_n (k := i) rfl (by omega)) (n := 69) rfl ?_
          rw [rm_nm, n2]
          refine Vw.istore_n (lv2 := [(0, _), (1, _), (2, _)]) (de_istore_2 (B 69 _ rfl)) rfl (by decide) [1, 2, 0] rfl (n := 70) rfl ?_
          refine Vw.aload_n (de_aload_0 (B 70 _ rfl)) 0 rfl (n := 71) rfl ?_
          refine Vw.aload_n (de_aload_0 (B 71 _ rfl)) 0 rfl (n := 72) rfl ?_
          refine Vw.getI (de_getfield (B 72 _ rfl) (B 73 _ rfl) (B 74 _ rfl)) fl_X5_40 rfl hx.rd.k (n := 75) rfl ?_
          rw [rm_6, hx.ord]
          refine Vw.if_eq (tgt := 83) (n := 78) (de_if_eq (B 75 _ rfl) (B 76 _ rfl) (B 77 _ rfl)) rfl rfl (fun c_75 => ?_) (fun c_75 => ?_)
          · exact absurd c_75 (by decide)
          obtain ⟨z78, hz78⟩ := hx.str 2 (by decide)
          refine Vw.ldcS (i := 2) (de_ldc (B 78 _ rfl) (B 79 _ rfl)) rfl (by decide) hz78.2.1 (n := 80) rfl ?_
          refine Vw.goto_ (n := 85) (de_goto_ (B 80 _ rfl) (B 81 _ rfl) (B 82 _ rfl)) rfl ?_
          refine Vw.ivi1 (mi' := mX5_listed) (de_invokevirtual (B 85 _ rfl) (B 86 _ rfl) (B 87 _ rfl)) ml_X5_95 mv_X5_listed hx.rd.k (Nat.le_of_ble_eq_true rfl) (n := 88) rfl (k_listed hx hz78 hi ?_)
          rw [w2]
          refine Vw.istore_n (lv2 := [(0, _), (1, _), (2, _), (3, _)]) (de_istore_3 (B 88 _ rfl)) rfl (by decide) [1, 2, 3, 0] rfl (n := 89) rfl ?_
          refine Vw.iload_n (de_iload_3 (B 89 _ rfl)) 3 rfl (n := 90) rfl ?_
          refine Vw.iconst (v := -1) (de_iconst_m1 (B 90 _ rfl)) rfl (n := 91) rfl ?_
          refine Vw.icmp_ne (tgt := 105) (n := 94) (de_icmp_ne (B 91 _ rfl) (B 92 _ rfl) (B 93 _ rfl)) rfl rfl (fun c_91 => ?_) (fun c_91 => ?_)
          · exact absurd rfl c_91
          refine Vw.iload_n (de_iload_2 (B 94 _ rfl)) 2 rfl (n := 95) rfl ?_
          refine Vw.if_lt (tgt := 109) (n := 98) (de_if_lt (B 95 _ rfl) (B 96 _ rfl) (B 97 _ rfl)) rfl rfl (fun c_95 => ?_) (fun c_95 => ?_)
          · exact absurd c_95 (nn_nI (by omega))
          refine Vw.iload_n (de_iload_2 (B 98 _ rfl)) 2 rfl (n := 99) rfl ?_
          refine Vw.sipush (v := 1000) (de_sipush (B 99 _ rfl) (B 100 _ rfl) (B 101 _ rfl)) rfl (n := 102) rfl ?_
          refine Vw.icmp_gt (tgt := 109) (n := 105) (de_icmp_gt (B 102 _ rfl) (B 103 _ rfl) (B 104 _ rfl)) rfl rfl (fun c_102 => ?_) (fun c_102 => ?_)
          · exact absurd ((nI_leI (a := v) (b := 1000) (by omega) (by omega)).mpr v1) (Int32.not_le.mpr c_102)
          refine Vw.iconst (v := 1) (de_iconst_1 (B 105 _ rfl)) rfl (n := 106) rfl ?_
          refine Vw.goto_ (n := 110) (de_goto_ (B 106 _ rfl) (B 107 _ rfl) (B 108 _ rfl)) rfl ?_
          refine Vw.istore (lv2 := [(0, _), (1, _), (2, _), (3, _), (4, _)]) (de_istore (B 110 _ rfl) (B 111 _ rfl)) (by decide) [1, 2, 3, 4, 0] rfl (n := 112) rfl ?_
          refine Vw.iload (de_iload (B 112 _ rfl) (B 113 _ rfl)) 4 rfl (n := 114) rfl ?_
          refine Vw.if_eq (tgt := 126) (n := 117) (de_if_eq (B 114 _ rfl) (B 115 _ rfl) (B 116 _ rfl)) rfl rfl (fun c_114 => ?_) (fun c_114 => ?_)
          · exact absurd c_114 (by decide)
          refine Vw.aload_n (de_aload_0 (B 117 _ rfl)) 0 rfl (n := 118) rfl ?_
          refine Vw.getI (de_getfield (B 118 _ rfl) (B 119 _ rfl) (B 120 _ rfl)) fl_X5_51 rfl hx.rd.k (n := 121) rfl ?_
          rw [rm_9]
          refine Vw.bipush (v := 50) (de_bipush (B 121 _ rfl) (B 122 _ rfl)) rfl (n := 123) rfl ?_
          refine Vw.icmp_lt (tgt := 131) (n := 126) (de_icmp_lt (B 123 _ rfl) (B 124 _ rfl) (B 125 _ rfl)) rfl rfl (fun c_123 => ?_) (fun c_123 => ?_)
          · refine Vw.aload_n (de_aload_0 (B 131 _ rfl)) 0 rfl (n := 132) rfl ?_
            refine Vw.dup (de_dup (B 132 _ rfl)) rfl (n := 133) rfl ?_
            refine Vw.getI (de_getfield (B 133 _ rfl) (B 134 _ rfl) (B 135 _ rfl)) fl_X5_51 rfl hx.rd.k (n := 136) rfl ?_
            rw [rm_9]
            refine Vw.iconst (v := 1) (de_iconst_1 (B 136 _ rfl)) rfl (n := 137) rfl ?_
            refine Vw.iadd (de_iadd (B 137 _ rfl)) (n := 138) rfl ?_
            rw [nI_1]
            refine Vw.putI (de_putfield (B 138 _ rfl) (B 139 _ rfl) (B 140 _ rfl)) fl_X5_51 hx.rd.k rfl rfl (n := 141) rfl ?_
            rw [up_9]
            refine Vw.aload_n (de_aload_0 (B 141 _ rfl)) 0 rfl (n := 142) rfl ?_
            refine Vw.dup (de_dup (B 142 _ rfl)) rfl (n := 143) rfl ?_
            refine Vw.getI (de_getfield (B 143 _ rfl) (B 144 _ rfl) (B 145 _ rfl)) fl_X5_48 rfl hx.rd.k (n := 146) rfl ?_
            rw [rm_8]
            refine Vw.iconst (v := 1) (de_iconst_1 (B 146 _ rfl)) rfl (n := 147) rfl ?_
            refine Vw.iadd (de_iadd (B 147 _ rfl)) (n := 148) rfl ?_
            rw [nI_1]
            refine Vw.putI (de_putfield (B 148 _ rfl) (B 149 _ rfl) (B 150 _ rfl)) fl_X5_48 hx.rd.k rfl rfl (n := 151) rfl ?_
            rw [up_8]
            refine Vw.iload_n (de_iload_3 (B 151 _ rfl)) 3 rfl (n := 152) rfl ?_
            refine Vw.iconst (v := -1) (de_iconst_m1 (B 152 _ rfl)) rfl (n := 153) rfl ?_
            refine Vw.icmp_ne (tgt := 165) (n := 156) (de_icmp_ne (B 153 _ rfl) (B 154 _ rfl) (B 155 _ rfl)) rfl rfl (fun c_153 => ?_) (fun c_153 => ?_)
            · exact absurd rfl c_153
            refine Vw.aload_n (de_aload_0 (B 156 _ rfl)) 0 rfl (n := 157) rfl ?_
            refine Vw.iconst (v := 0) (de_iconst_0 (B 157 _ rfl)) rfl (n := 158) rfl ?_
            refine Vw.iload_n (de_iload_2 (B 158 _ rfl)) 2 rfl (n := 159) rfl ?_
            refine Vw.ivi2 (mi' := mX5_emit) (de_invokevirtual (B 159 _ rfl) (B 160 _ rfl) (B 161 _ rfl)) ml_X5_143 mv_X5_emit hx.rd.k (Nat.le_of_ble_eq_true rfl) (n := 162) rfl (k_emit (op := 0) (k := v) hx (by decide) (by omega) (show c < 400 by omega) ?_)
            refine Vw.pop (de_pop (B 162 _ rfl)) rfl (n := 163) rfl ?_
            refine Vw.iconst (v := 1) (de_iconst_1 (B 163 _ rfl)) rfl (n := 164) rfl ?_
            exact Vw.zret (de_ireturn (B 164 _ rfl)) rfl rfl ⟨_, rfl, (by
      refine h1 (i + 1) (l + 1) _ (c + 1) _ ?_ (by omega) (by omega) (by have := lt50 c_123; omega) (by omega) (fun x hx2 => upK_lt hx2) ((WC2_num (by omega) (upK_s _ _ _)).up hDm) (fun z => by cases z)
      unfold pPart
      rw [if_neg nb, if_pos (Or.inl ⟨n1, by rw [v2]; exact (nI_leI (a := v) (b := 1000) (by omega) (by omega)).mpr v1⟩), if_neg (lt50 c_123), if_neg (fun q => by have := q.2; rw [n1] at this; rcases this with z | z <;> exact absurd z (by decide)), if_pos n1, v2])⟩
          refine Vw.aload_n (de_aload_0 (B 126 _ rfl)) 0 rfl (n := 127) rfl ?_
          refine Vw.ivi0 (mi' := mX5_fail) (de_invokevirtual (B 127 _ rfl) (B 128 _ rfl) (B 129 _ rfl)) ml_X5_67 mv_X5_fail hx.rd.k (Nat.le_of_ble_eq_true rfl) (n := 130) rfl (k_fail hx hi ?_)
          exact Vw.zret (de_ireturn (B 130 _ rfl)) rfl rfl ⟨_, rfl, (by first
      | (have q50 := ge50 c_123
         refine h0 i _ _ _ _ ?_ hi
         unfold pPart
         rw [if_neg nb, if_pos (Or.inl ⟨n1, by rw [v2]; exact (nI_leI (a := v) (b := 1000) (by omega) (by omega)).mpr v1⟩), if_pos q50])
      | (refine h0 i _ _ _ _ ?_ hi
         unfold pPart
         rw [if_neg nb, if_neg ?_]
         rintro (q | q)
         · first | exact n1 q.1 | exact absurd (i32_le.mp q.2) (by show ¬ _ ≤ (1000 : Int); omega)
         · rw [v_no] at q; cases q))⟩
        · have i1 : i < nt := ilt (by rw [n1]; decide)
          refine Vw.aload_n (de_aload_0 (B 60 _ rfl)) 0 rfl (n := 61) rfl ?_
          refine Vw.getR (de_getfield (B 61 _ rfl) (B 62 _ rfl) (B 63 _ rfl)) fl_X5_30 rfl hx.rd.k hx.rd.f4 (n := 64) rfl ?_
          refine Vw.aload_n (de_aload_0 (B 64 _ rfl)) 0 rfl (n := 65) rfl ?_
          refine Vw.getI (de_getfield (B 65 _ rfl) (B 66 _ rfl) (B 67 _ rfl)) fl_X5_48 rfl hx.rd.k (n := 68) rfl ?_
          rw [rm_8]
          refine Vw.iald (de_iaload (B 68 _ rfl)) hx.rd.r4 (vIx_n (k := i) rfl (by omega)) (n := 69) rfl ?_
          rw [rm_nm, n2]
          refine Vw.istore_n (lv2 := [(0, _), (1, _), (2, _)]) (de_istore_2 (B 69 _ rfl)) rfl (by decide) [1, 2, 0] rfl (n := 70) rfl ?_
          refine Vw.aload_n (de_aload_0 (B 70 _ rfl)) 0 rfl (n := 71) rfl ?_
          refine Vw.aload_n (de_aload_0 (B 71 _ rfl)) 0 rfl (n := 72) rfl ?_
          refine Vw.getI (de_getfield (B 72 _ rfl) (B 73 _ rfl) (B 74 _ rfl)) fl_X5_40 rfl hx.rd.k (n := 75) rfl ?_
          rw [rm_6, hx.ord]
          refine Vw.if_eq (tgt := 83) (n := 78) (de_if_eq (B 75 _ rfl) (B 76 _ rfl) (B 77 _ rfl)) rfl rfl (fun c_75 => ?_) (fun c_75 => ?_)
          · exact absurd c_75 (by decide)
          obtain ⟨z78, hz78⟩ := hx.str 2 (by decide)
          refine Vw.ldcS (i := 2) (de_ldc (B 78 _ rfl) (B 79 _ rfl)) rfl (by decide) hz78.2.1 (n := 80) rfl ?_
          refine Vw.goto_ (n := 85) (de_goto_ (B 80 _ rfl) (B 81 _ rfl) (B 82 _ rfl)) rfl ?_
          refine Vw.ivi1 (mi' := mX5_listed) (de_invokevirtual (B 85 _ rfl) (B 86 _ rfl) (B 87 _ rfl)) ml_X5_95 mv_X5_listed hx.rd.k (Nat.le_of_ble_eq_true rfl) (n := 88) rfl (k_listed hx hz78 hi ?_)
          rw [w2]
          refine Vw.istore_n (lv2 := [(0, _), (1, _), (2, _), (3, _)]) (de_istore_3 (B 88 _ rfl)) rfl (by decide) [1, 2, 3, 0] rfl (n := 89) rfl ?_
          refine Vw.iload_n (de_iload_3 (B 89 _ rfl)) 3 rfl (n := 90) rfl ?_
          refine Vw.iconst (v := -1) (de_iconst_m1 (B 90 _ rfl)) rfl (n := 91) rfl ?_
          refine Vw.icmp_ne (tgt := 105) (n := 94) (de_icmp_ne (B 91 _ rfl) (B 92 _ rfl) (B 93 _ rfl)) rfl rfl (fun c_91 => ?_) (fun c_91 => ?_)
          · exact absurd rfl c_91
          refine Vw.iload_n (de_iload_2 (B 94 _ rfl)) 2 rfl (n := 95) rfl ?_
          refine Vw.if_lt (tgt := 109) (n := 98) (de_if_lt (B 95 _ rfl) (B 96 _ rfl) (B 97 _ rfl)) rfl rfl (fun c_95 => ?_) (fun c_95 => ?_)
          · exact absurd c_95 (by decide)
          refine Vw.iload_n (de_iload_2 (B 98 _ rfl)) 2 rfl (n := 99) rfl ?_
          refine Vw.sipush (v := 1000) (de_sipush (B 99 _ rfl) (B 100 _ rfl) (B 101 _ rfl)) rfl (n := 102) rfl ?_
          refine Vw.icmp_gt (tgt := 109) (n := 105) (de_icmp_gt (B 102 _ rfl) (B 103 _ rfl) (B 104 _ rfl)) rfl rfl (fun c_102 => ?_) (fun c_102 => ?_)
          · refine Vw.iconst (v := 0) (de_iconst_0 (B 109 _ rfl)) rfl (n := 110) rfl ?_
            refine Vw.istore (lv2 := [(0, _), (1, _), (2, _), (3, _), (4, _)]) (de_istore (B 110 _ rfl) (B 111 _ rfl)) (by decide) [1, 2, 3, 4, 0] rfl (n := 112) rfl ?_
            refine Vw.iload (de_iload (B 112 _ rfl) (B 113 _ rfl)) 4 rfl (n := 114) rfl ?_
            refine Vw.if_eq (tgt := 126) (n := 117) (de_if_eq (B 114 _ rfl) (B 115 _ rfl) (B 116 _ rfl)) rfl rfl (fun c_114 => ?_) (fun c_114 => ?_)
            · refine Vw.aload_n (de_aload_0 (B 126 _ rfl)) 0 rfl (n := 127) rfl ?_
              refine Vw.ivi0 (mi' := mX5_fail) (de_invokevirtual (B 127 _ rfl) (B 128 _ rfl) (B 129 _ rfl)) ml_X5_67 mv_X5_fail hx.rd.k (Nat.le_of_ble_eq_true rfl) (n := 130) rfl (k_fail hx hi ?_)
              exact Vw.zret (de_ireturn (B 130 _ rfl)) rfl rfl ⟨_, rfl, (by first
      | (have q50 := ge50 c_123
         refine h0 i _ _ _ _ ?_ hi
         unfold pPart
         rw [if_neg nb, if_pos (Or.inl ⟨n1, by rw [v2]; exact (nI_leI (a := v) (b := 1000) (by omega) (by omega)).mpr v1⟩), if_pos q50])
      | (refine h0 i _ _ _ _ ?_ hi
         unfold pPart
         rw [if_neg nb, if_neg ?_]
         rintro (q | q)
         · first | exact n1 q.1 | exact absurd (i32_le.mp q.2) (by show ¬ _ ≤ (1000 : Int); omega)
         · rw [v_no] at q; cases q))⟩
            exact absurd c_114 (by decide)
          exact absurd (by decide) c_102
  refine Vw.aload_n (de_aload_0 (B 0 _ rfl)) 0 rfl (n := 1) rfl ?_
  refine Vw.getR (de_getfield (B 1 _ rfl) (B 2 _ rfl) (B 3 _ rfl)) fl_X5_20 rfl hx.rd.k hx.rd.f1 (n := 4) rfl ?_
  refine Vw.aload_n (de_aload_0 (B 4 _ rfl)) 0 rfl (n := 5) rfl ?_
  refine Vw.getI (de_getfield (B 5 _ rfl) (B 6 _ rfl) (B 7 _ rfl)) fl_X5_48 rfl hx.rd.k (n := 8) rfl ?_
  rw [rm_8]
  refine Vw.iald (de_iaload (B 8 _ rfl)) hx.rd.r1 (vIx_n (k := i) rfl (by omega)) (n := 9) rfl ?_
  rw [rm_kd]
  refine Vw.bipush (v := 91) (de_bipush (B 9 _ rfl) (B 10 _ rfl)) rfl (n := 11) rfl ?_
  refine Vw.icmp_ne (tgt := 60) (n := 14) (de_icmp_ne (B 11 _ rfl) (B 12 _ rfl) (B 13 _ rfl)) rfl rfl (fun c_11 => ?_) (fun c_11 => ?_)
  · exact rest (fun z => c_11 ((hx.sign hi (c := 91) (by decide)).mpr z))
  have c191 : cd i = 191 := (hx.sign hi (c := 91) (by decide)).mp c_11
  have i1 : i < nt := by
    rcases Nat.lt_or_ge i nt with z | z
    · exact z
    · rw [show i = nt by omega, hx.c0] at c191; exact absurd c191 (by decide)
  refine Vw.iload_n (de_iload_1 (B 14 _ rfl)) 1 rfl (n := 15) rfl ?_
  refine Vw.bipush (v := 8) (de_bipush (B 15 _ rfl) (B 16 _ rfl)) rfl (n := 17) rfl ?_
  rw [hdp]
  refine Vw.icmp_lt (tgt := 25) (n := 20) (de_icmp_lt (B 17 _ rfl) (B 18 _ rfl) (B 19 _ rfl)) rfl rfl (fun c_17 => ?_) (fun c_17 => ?_)
  · refine Vw.aload_n (de_aload_0 (B 25 _ rfl)) 0 rfl (n := 26) rfl ?_
    refine Vw.dup (de_dup (B 26 _ rfl)) rfl (n := 27) rfl ?_
    refine Vw.getI (de_getfield (B 27 _ rfl) (B 28 _ rfl) (B 29 _ rfl)) fl_X5_48 rfl hx.rd.k (n := 30) rfl ?_
    rw [rm_8]
    refine Vw.iconst (v := 1) (de_iconst_1 (B 30 _ rfl)) rfl (n := 31) rfl ?_
    refine Vw.iadd (de_iadd (B 31 _ rfl)) (n := 32) rfl ?_
    rw [nI_1]
    refine Vw.putI (de_putfield (B 32 _ rfl) (B 33 _ rfl) (B 34 _ rfl)) fl_X5_48 hx.rd.k rfl rfl (n := 35) rfl ?_
    rw [up_8]
    refine Vw.aload_n (de_aload_0 (B 35 _ rfl)) 0 rfl (n := 36) rfl ?_
    refine Vw.iload_n (de_iload_1 (B 36 _ rfl)) 1 rfl (n := 37) rfl ?_
    refine Vw.iconst (v := 1) (de_iconst_1 (B 37 _ rfl)) rfl (n := 38) rfl ?_
    refine Vw.iadd (de_iadd (B 38 _ rfl)) (n := 39) rfl ?_
    rw [nI_1]
    refine Vw.ivi1 (mi' := mX5_readSum) (de_invokevirtual (B 39 _ rfl) (B 40 _ rfl) (B 41 _ rfl)) ml_X5_106 mv_X5_readSum hx.rd.k (Nat.le_of_ble_eq_true rfl) (n := 42) rfl (hS d S I L _ s tp u cd vl nt o (i + 1) l c f w hx (by omega) hl (by omega) (fun j l2 d2 c2 w2 e2 a1 a2 a3 a4 a5 a6 a7 => ?_) (fun e t2 l2 c2 w2 e2 a1 => ?_))
    · refine Vw.if_eq (tgt := 58) (n := 45) (de_if_eq (B 42 _ rfl) (B 43 _ rfl) (B 44 _ rfl)) rfl rfl (fun c_42 => ?_) (fun c_42 => ?_)
      · exact absurd c_42 (by decide)
      refine Vw.aload_n (de_aload_0 (B 45 _ rfl)) 0 rfl (n := 46) rfl ?_
      refine Vw.bipush (v := 93) (de_bipush (B 46 _ rfl) (B 47 _ rfl)) rfl (n := 48) rfl ?_
      refine Vw.ivi1 (mi' := mX5_goOnBehind) (de_invokevirtual (B 48 _ rfl) (B 49 _ rfl) (B 50 _ rfl)) ml_X5_64 mv_X5_goOnBehind hx.rd.k (Nat.le_of_ble_eq_true rfl) (n := 51) rfl (k_goOnBehind (sg := 93) (i := j) hx a2 (by decide) (fun g1 => ?_) (fun g0 => ?_))
      · refine Vw.if_eq (tgt := 58) (n := 54) (de_if_eq (B 51 _ rfl) (B 52 _ rfl) (B 53 _ rfl)) rfl rfl (fun c_51 => ?_) (fun c_51 => ?_)
        · exact absurd c_51 (by decide)
        refine Vw.iconst (v := 1) (de_iconst_1 (B 54 _ rfl)) rfl (n := 55) rfl ?_
        refine Vw.goto_ (n := 59) (de_goto_ (B 55 _ rfl) (B 56 _ rfl) (B 57 _ rfl)) rfl ?_
        exact Vw.zret (de_ireturn (B 59 _ rfl)) rfl rfl ⟨_, rfl, (h1 (j + 1) l2 d2 c2 w2 (by unfold pPart; rw [if_pos c191]; dsimp only; rw [e2]; dsimp only; rw [if_pos (show cd j = 193 from g1)]) (by omega) (by rcases Nat.lt_or_ge j nt with z | z; omega; rw [show j = nt by omega, hx.c0] at g1; exact absurd g1 (by decide)) a3 (by omega) a5 a6 (fun z => by cases z))⟩
      · refine Vw.if_eq (tgt := 58) (n := 54) (de_if_eq (B 51 _ rfl) (B 52 _ rfl) (B 53 _ rfl)) rfl rfl (fun c_51 => ?_) (fun c_51 => ?_)
        · refine Vw.iconst (v := 0) (de_iconst_0 (B 58 _ rfl)) rfl (n := 59) rfl ?_
          exact Vw.zret (de_ireturn (B 59 _ rfl)) rfl rfl ⟨_, rfl, (h0 j _ _ _ _ (by unfold pPart; rw [if_pos c191]; dsimp only; rw [e2]; dsimp only; rw [if_neg (show ¬ cd j = 193 from g0)]) a2)⟩
        exact absurd c_51 (by decide)
    · refine Vw.if_eq (tgt := 58) (n := 45) (de_if_eq (B 42 _ rfl) (B 43 _ rfl) (B 44 _ rfl)) rfl rfl (fun c_42 => ?_) (fun c_42 => ?_)
      · refine Vw.iconst (v := 0) (de_iconst_0 (B 58 _ rfl)) rfl (n := 59) rfl ?_
        exact Vw.zret (de_ireturn (B 59 _ rfl)) rfl rfl ⟨_, rfl, (h0 e t2 l2 c2 w2 (by unfold pPart; rw [if_pos c191]; dsimp only; rw [e2]) a1)⟩
      exact absurd c_42 (by decide)
  exact absurd (i32_lt.mpr (by rw [nI_ti (by omega)]; show (dn0 : Int) < 8; omega)) c_17
theorem kr_sumM : ∀ m, m ≤ 8 → KR mX5_readSum (3 * m + 3 + 5) [.int (nI (8 - m))] (fun cd vl o => pSum cd vl o m) (2 * m + 3) false
  | 0, _ => kr_sum (kr_term (dp := nI 8) kr_part0)
  | m + 1, h => by
    have ih := kr_sumM m (by omega)
    rw [show 8 - m = 8 - (m + 1) + 1 by omega] at ih
    exact kr_sum (kr_term (kr_partS (E := 3 * m + 3) (by omega) ih (by omega)))
