section CMPV
variable {v w : Int64} {c : Int32}
theorem cmp_l1 (h : v < w) : (1 : Int32) = b64 (tCmpV 160 v w) := by unfold tCmpV; rw [if_pos rfl, if_pos h]; rfl
theorem cmp_l0 (h : w ≤ v) : (0 : Int32) = b64 (tCmpV 160 v w) := by unfold tCmpV; rw [if_pos rfl, if_neg (Int64.not_lt.mpr h)]; rfl
theorem cmp_g1 (h : w < v) : (1 : Int32) = b64 (tCmpV 162 v w) := by unfold tCmpV; rw [if_neg (show ¬ (162 : Int32) = 160 by decide), if_pos rfl, if_pos h]; rfl
theorem cmp_g0 (h : v ≤ w) : (0 : Int32) = b64 (tCmpV 162 v w) := by unfold tCmpV; rw [if_neg (show ¬ (162 : Int32) = 160 by decide), if_pos rfl, if_neg (Int64.not_lt.mpr h)]; rfl
theorem cmp_e1 (h1 : ¬ c = 160) (h2 : ¬ c = 162) (h : v = w) : (1 : Int32) = b64 (tCmpV c v w) := by unfold tCmpV; rw [if_neg h1, if_neg h2, if_pos h]; rfl
theorem cmp_e0 (h1 : ¬ c = 160) (h2 : ¬ c = 162) (h : ¬ v = w) : (0 : Int32) = b64 (tCmpV c v w) := by unfold tCmpV; rw [if_neg h1, if_neg h2, if_neg h]; rfl
end CMPV
theorem et_pos0 {D : Nat} {U : (Nat → Int32) → (Nat → Int32) → Bool → Nat → Nat → tR tD} (hB : ∀ cd vl o nt, cd nt = 0 → Bd nt (U cd vl o)) (hU : EC mX12_sumOf (D + 2) U) : ET mX12_positiveOf (D + 3) (fun cd vl o => pPos cd none (U cd vl o)) := by
  intro d S I L Q r bs nt np cd vl o nv i l j l2 dn lv b hM hE hN hi hP hlv hb h
  refine Vc.of rfl (Nat.le_of_ble_eq_true rfl) ?_
  have B := bs_X12_positiveOf
  show Vw mX12_positiveOf (d + (D + 3)) 0 0 0 0 (ViQ Q) 0 [(0, .ref r), (1, .int lv)] [] S (em I r (nI (bs + i)) b) L
  have hE2 := hE.2.2
  rcases pPos_inv hP with ⟨h1, f, j0, hf, h3, h4, h5⟩ | ⟨h1, j0, l0, d0, d1, h2, h3, h4, h5⟩
  · cases hf
  · have hj0 := hB cd vl o nt hE.2.1 _ _ _ _ _ hi h2
    have hlt := hE.lt hj0.2 (cmp_0 h3)
    have hj1 := hB cd vl o nt hE.2.1 _ _ _ _ _ hlt h4
    have hb0 := evB_01 (lv := lv) (dn := d0) (nv := nv) hb
    subst h5
    have fin : ∀ x : Int32, (x = 0 ∨ x = 1) → (lv = 1 → evB lv (evB lv b d0 nv) d1 nv = 0 → x = b64 (tCmpV (cd j0) (evV lv b d0 nv) (evV lv (evB lv b d0 nv) d1 nv))) → Q x S (em I r (nI (bs + j)) (evB lv (evB lv b d0 nv) d1 nv)) L := fun x hx hx2 => h x _ (evT_cmp hlv hb hx hx2)
    refine Vw.aload_n (de_aload_0 (B 0 _ rfl)) 0 rfl (n := 1) rfl ?_
    refine Vw.bipush (v := 40) (de_bipush (B 1 _ rfl) (B 2 _ rfl)) rfl (n := 3) rfl ?_
    refine Vw.isi1 (mi' := mX12_sign) (de_invokestatic (B 3 _ rfl) (B 4 _ rfl) (B 5 _ rfl)) ml_X12_239 ms_X12_sign (Nat.le_of_ble_eq_true rfl) (n := 6) rfl (c_X12_sign ?_)
    rw [show (100 + 40 : Int32) = 140 from rfl]
    refine Vw.ivi1 (mi' := mX12_passes0) (de_invokevirtual (B 6 _ rfl) (B 7 _ rfl) (B 8 _ rfl)) ml_X12_294 mv_X12_passes0 hM.k (Nat.le_of_ble_eq_true rfl) (n := 9) rfl (c_X12_passes0 hM hE hi (fun q => absurd q h1) (fun _ => ?_))
    · refine Vw.if_eq (tgt := 30) (n := 12) (de_if_eq (B 9 _ rfl) (B 10 _ rfl) (B 11 _ rfl)) rfl rfl (fun c_9 => ?_) (fun c_9 => ?_)
      · refine Vw.aload_n (de_aload_0 (B 30 _ rfl)) 0 rfl (n := 31) rfl ?_
        refine Vw.iload_n (de_iload_1 (B 31 _ rfl)) 1 rfl (n := 32) rfl ?_
        refine Vw.ivl1 (mi' := mX12_sumOf) (de_invokevirtual (B 32 _ rfl) (B 33 _ rfl) (B 34 _ rfl)) ml_X12_297 mv_X12_sumOf hM.k (Nat.le_of_ble_eq_true rfl) (n := 35) rfl (hU _ _ _ _ _ _ _ _ _ _ _ _ _ _ _ _ _ _ _ _ hM hE hN hi h2 hlv hb ?_)
        · refine Vw.lstore_n (lv2 := [(0, _), (1, _), (2, _)]) (de_lstore_2 (B 35 _ rfl)) rfl (by decide) [1, 2, 0] rfl (n := 36) rfl ?_
          refine Vw.aload_n (de_aload_0 (B 36 _ rfl)) 0 rfl (n := 37) rfl ?_
          refine Vw.aload_n (de_aload_0 (B 37 _ rfl)) 0 rfl (n := 38) rfl ?_
          refine Vw.getI (de_getfield (B 38 _ rfl) (B 39 _ rfl) (B 40 _ rfl)) fl_X12_270 rfl hM.k (n := 41) rfl ?_
          rw [em_g]
          refine Vw.ivi1 (mi' := mX12_codeAt) (de_invokevirtual (B 41 _ rfl) (B 42 _ rfl) (B 43 _ rfl)) ml_X12_273 mv_X12_codeAt hM.k (Nat.le_of_ble_eq_true rfl) (n := 44) rfl (c_X12_codeAt hM hE hj0.2 ?_)
          refine Vw.istore (lv2 := [(0, _), (1, _), (2, _), (4, _)]) (de_istore (B 44 _ rfl) (B 45 _ rfl)) (by decide) [1, 2, 3, 0] rfl (n := 46) rfl ?_
          refine Vw.aload_n (de_aload_0 (B 46 _ rfl)) 0 rfl (n := 47) rfl ?_
          refine Vw.dup (de_dup (B 47 _ rfl)) rfl (n := 48) rfl ?_
          refine Vw.getI (de_getfield (B 48 _ rfl) (B 49 _ rfl) (B 50 _ rfl)) fl_X12_270 rfl hM.k (n := 51) rfl ?_
          rw [em_g]
          refine Vw.iconst (v := 1) (de_iconst_1 (B 51 _ rfl)) rfl (n := 52) rfl ?_
          refine Vw.iadd (de_iadd (B 52 _ rfl)) (n := 53) rfl ?_
          refine Vw.putI (de_putfield (B 53 _ rfl) (B 54 _ rfl) (B 55 _ rfl)) fl_X12_270 hM.k rfl rfl (n := 56) rfl ?_
          rw [em_inc]
          refine Vw.aload_n (de_aload_0 (B 56 _ rfl)) 0 rfl (n := 57) rfl ?_
          refine Vw.iload_n (de_iload_1 (B 57 _ rfl)) 1 rfl (n := 58) rfl ?_
          refine Vw.ivl1 (mi' := mX12_sumOf) (de_invokevirtual (B 58 _ rfl) (B 59 _ rfl) (B 60 _ rfl)) ml_X12_297 mv_X12_sumOf hM.k (Nat.le_of_ble_eq_true rfl) (n := 61) rfl (hU _ _ _ _ _ _ _ _ _ _ _ _ _ _ _ _ _ _ _ _ hM hE hN hlt h4 hlv hb0 ?_)
          · refine Vw.lstore (lv2 := [(0, _), (1, _), (2, _), (4, _), (5, _)]) (de_lstore (B 61 _ rfl) (B 62 _ rfl)) (by decide) [1, 2, 3, 4, 0] rfl (n := 63) rfl ?_
            refine Vw.iload_n (de_iload_1 (B 63 _ rfl)) 1 rfl (n := 64) rfl ?_
            refine Vw.if_eq (tgt := 125) (n := 67) (de_if_eq (B 64 _ rfl) (B 65 _ rfl) (B 66 _ rfl)) rfl rfl (fun c_64 => ?_) (fun c_64 => ?_)
            · refine Vw.iconst (v := 0) (de_iconst_0 (B 125 _ rfl)) rfl (n := 126) rfl ?_
              exact Vw.zret (de_ireturn (B 126 _ rfl)) rfl rfl ⟨_, rfl, (by first
      | exact fin 0 (Or.inl rfl) (fun q => absurd (q.symm.trans c_64) (by decide))
      | exact fin 0 (Or.inl rfl) (fun _ q => absurd q c_71)
      | exact fin 0 (Or.inl rfl) (fun _ _ => by rw [c_81]; exact cmp_l0 ((lg_cmp_ge _ _).mp c_88))
      | exact fin 1 (Or.inr rfl) (fun _ _ => by rw [c_81]; exact cmp_l1 (Int64.not_le.mp (fun q => c_88 ((lg_cmp_ge _ _).mpr q))))
      | exact fin 0 (Or.inl rfl) (fun _ _ => by rw [c_101]; exact cmp_g0 ((lg_cmp_le _ _).mp c_108))
      | exact fin 1 (Or.inr rfl) (fun _ _ => by rw [c_101]; exact cmp_g1 (Int64.not_le.mp (fun q => c_108 ((lg_cmp_le _ _).mpr q))))
      | exact fin 0 (Or.inl rfl) (fun _ _ => cmp_e0 c_81 c_101 (fun q => c_118 ((lg_cmp_eq _ _).mpr q)))
      | exact fin 1 (Or.inr rfl) (fun _ _ => cmp_e1 c_81 c_101 ((lg_cmp_eq _ _).mp c_118)))⟩
            refine Vw.aload_n (de_aload_0 (B 67 _ rfl)) 0 rfl (n := 68) rfl ?_
            refine Vw.getI (de_getfield (B 68 _ rfl) (B 69 _ rfl) (B 70 _ rfl)) fl_X12_280 rfl hM.k (n := 71) rfl ?_
            rw [em_b]
            refine Vw.if_ne (tgt := 125) (n := 74) (de_if_ne (B 71 _ rfl) (B 72 _ rfl) (B 73 _ rfl)) rfl rfl (fun c_71 => ?_) (fun c_71 => ?_)
            · refine Vw.iconst (v := 0) (de_iconst_0 (B 125 _ rfl)) rfl (n := 126) rfl ?_
              exact Vw.zret (de_ireturn (B 126 _ rfl)) rfl rfl ⟨_, rfl, (by first
      | exact fin 0 (Or.inl rfl) (fun q => absurd (q.symm.trans c_64) (by decide))
      | exact fin 0 (Or.inl rfl) (fun _ q => absurd q c_71)
      | exact fin 0 (Or.inl rfl) (fun _ _ => by rw [c_81]; exact cmp_l0 ((lg_cmp_ge _ _).mp c_88))
      | exact fin 1 (Or.inr rfl) (fun _ _ => by rw [c_81]; exact cmp_l1 (Int64.not_le.mp (fun q => c_88 ((lg_cmp_ge _ _).mpr q))))
      | exact fin 0 (Or.inl rfl) (fun _ _ => by rw [c_101]; exact cmp_g0 ((lg_cmp_le _ _).mp c_108))
      | exact fin 1 (Or.inr rfl) (fun _ _ => by rw [c_101]; exact cmp_g1 (Int64.not_le.mp (fun q => c_108 ((lg_cmp_le _ _).mpr q))))
      | exact fin 0 (Or.inl rfl) (fun _ _ => cmp_e0 c_81 c_101 (fun q => c_118 ((lg_cmp_eq _ _).mpr q)))
      | exact fin 1 (Or.inr rfl) (fun _ _ => cmp_e1 c_81 c_101 ((lg_cmp_eq _ _).mp c_118)))⟩
            refine Vw.iload (de_iload (B 74 _ rfl) (B 75 _ rfl)) 3 rfl (n := 76) rfl ?_
            refine Vw.bipush (v := 60) (de_bipush (B 76 _ rfl) (B 77 _ rfl)) rfl (n := 78) rfl ?_
            refine Vw.isi1 (mi' := mX12_sign) (de_invokestatic (B 78 _ rfl) (B 79 _ rfl) (B 80 _ rfl)) ml_X12_239 ms_X12_sign (Nat.le_of_ble_eq_true rfl) (n := 81) rfl (c_X12_sign ?_)
            rw [show (100 + 60 : Int32) = 160 from rfl]
            refine Vw.icmp_ne (tgt := 94) (n := 84) (de_icmp_ne (B 81 _ rfl) (B 82 _ rfl) (B 83 _ rfl)) rfl rfl (fun c_81 => ?_) (fun c_81 => ?_)
            · refine Vw.iload (de_iload (B 94 _ rfl) (B 95 _ rfl)) 3 rfl (n := 96) rfl ?_
              refine Vw.bipush (v := 62) (de_bipush (B 96 _ rfl) (B 97 _ rfl)) rfl (n := 98) rfl ?_
              refine Vw.isi1 (mi' := mX12_sign) (de_invokestatic (B 98 _ rfl) (B 99 _ rfl) (B 100 _ rfl)) ml_X12_239 ms_X12_sign (Nat.le_of_ble_eq_true rfl) (n := 101) rfl (c_X12_sign ?_)
              rw [show (100 + 62 : Int32) = 162 from rfl]
              refine Vw.icmp_ne (tgt := 114) (n := 104) (de_icmp_ne (B 101 _ rfl) (B 102 _ rfl) (B 103 _ rfl)) rfl rfl (fun c_101 => ?_) (fun c_101 => ?_)
              · refine Vw.lload_n (de_lload_2 (B 114 _ rfl)) 2 rfl (n := 115) rfl ?_
                refine Vw.lload (de_lload (B 115 _ rfl) (B 116 _ rfl)) 4 rfl (n := 117) rfl ?_
                refine Vw.lcmp (de_lcmp (B 117 _ rfl)) (n := 118) rfl ?_
                refine Vw.if_ne (tgt := 125) (n := 121) (de_if_ne (B 118 _ rfl) (B 119 _ rfl) (B 120 _ rfl)) rfl rfl (fun c_118 => ?_) (fun c_118 => ?_)
                · refine Vw.iconst (v := 0) (de_iconst_0 (B 125 _ rfl)) rfl (n := 126) rfl ?_
                  exact Vw.zret (de_ireturn (B 126 _ rfl)) rfl rfl ⟨_, rfl, (by first
      | exact fin 0 (Or.inl rfl) (fun q => absurd (q.symm.trans c_64) (by decide))
      | exact fin 0 (Or.inl rfl) (fun _ q => absurd q c_71)
      | exact fin 0 (Or.inl rfl) (fun _ _ => by rw [c_81]; exact cmp_l0 ((lg_cmp_ge _ _).mp c_88))
      | exact fin 1 (Or.inr rfl) (fun _ _ => by rw [c_81]; exact cmp_l1 (Int64.not_le.mp (fun q => c_88 ((lg_cmp_ge _ _).mpr q))))
      | exact fin 0 (Or.inl rfl) (fun _ _ => by rw [c_101]; exact cmp_g0 ((lg_cmp_le _ _).mp c_108))
      | exact fin 1 (Or.inr rfl) (fun _ _ => by rw [c_101]; exact cmp_g1 (Int64.not_le.mp (fun q => c_108 ((lg_cmp_le _ _).mpr q))))
      | exact fin 0 (Or.inl rfl) (fun _ _ => cmp_e0 c_81 c_101 (fun q => c_118 ((lg_cmp_eq _ _).mpr q)))
      | exact fin 1 (Or.inr rfl) (fun _ _ => cmp_e1 c_81 c_101 ((lg_cmp_eq _ _).mp c_118)))⟩
                refine Vw.iconst (v := 1) (de_iconst_1 (B 121 _ rfl)) rfl (n := 122) rfl ?_
                refine Vw.goto_ (n := 126) (de_goto_ (B 122 _ rfl) (B 123 _ rfl) (B 124 _ rfl)) rfl ?_
                exact Vw.zret (de_ireturn (B 126 _ rfl)) rfl rfl ⟨_, rfl, (by first
      | exact fin 0 (Or.inl rfl) (fun q => absurd (q.symm.trans c_64) (by decide))
      | exact fin 0 (Or.inl rfl) (fun _ q => absurd q c_71)
      | exact fin 0 (Or.inl rfl) (fun _ _ => by rw [c_81]; exact cmp_l0 ((lg_cmp_ge _ _).mp c_88))
      | exact fin 1 (Or.inr rfl) (fun _ _ => by rw [c_81]; exact cmp_l1 (Int64.not_le.mp (fun q => c_88 ((lg_cmp_ge _ _).mpr q))))
      | exact fin 0 (Or.inl rfl) (fun _ _ => by rw [c_101]; exact cmp_g0 ((lg_cmp_le _ _).mp c_108))
      | exact fin 1 (Or.inr rfl) (fun _ _ => by rw [c_101]; exact cmp_g1 (Int64.not_le.mp (fun q => c_108 ((lg_cmp_le _ _).mpr q))))
      | exact fin 0 (Or.inl rfl) (fun _ _ => cmp_e0 c_81 c_101 (fun q => c_118 ((lg_cmp_eq _ _).mpr q)))
      | exact fin 1 (Or.inr rfl) (fun _ _ => cmp_e1 c_81 c_101 ((lg_cmp_eq _ _).mp c_118)))⟩
              refine Vw.lload_n (de_lload_2 (B 104 _ rfl)) 2 rfl (n := 105) rfl ?_
              refine Vw.lload (de_lload (B 105 _ rfl) (B 106 _ rfl)) 4 rfl (n := 107) rfl ?_
              refine Vw.lcmp (de_lcmp (B 107 _ rfl)) (n := 108) rfl ?_
              refine Vw.if_le (tgt := 125) (n := 111) (de_if_le (B 108 _ rfl) (B 109 _ rfl) (B 110 _ rfl)) rfl rfl (fun c_108 => ?_) (fun c_108 => ?_)
              · refine Vw.iconst (v := 0) (de_iconst_0 (B 125 _ rfl)) rfl (n := 126) rfl ?_
                exact Vw.zret (de_ireturn (B 126 _ rfl)) rfl rfl ⟨_, rfl, (by first
      | exact fin 0 (Or.inl rfl) (fun q => absurd (q.symm.trans c_64) (by decide))
      | exact fin 0 (Or.inl rfl) (fun _ q => absurd q c_71)
      | exact fin 0 (Or.inl rfl) (fun _ _ => by rw [c_81]; exact cmp_l0 ((lg_cmp_ge _ _).mp c_88))
      | exact fin 1 (Or.inr rfl) (fun _ _ => by rw [c_81]; exact cmp_l1 (Int64.not_le.mp (fun q => c_88 ((lg_cmp_ge _ _).mpr q))))
      | exact fin 0 (Or.inl rfl) (fun _ _ => by rw [c_101]; exact cmp_g0 ((lg_cmp_le _ _).mp c_108))
      | exact fin 1 (Or.inr rfl) (fun _ _ => by rw [c_101]; exact cmp_g1 (Int64.not_le.mp (fun q => c_108 ((lg_cmp_le _ _).mpr q))))
      | exact fin 0 (Or.inl rfl) (fun _ _ => cmp_e0 c_81 c_101 (fun q => c_118 ((lg_cmp_eq _ _).mpr q)))
      | exact fin 1 (Or.inr rfl) (fun _ _ => cmp_e1 c_81 c_101 ((lg_cmp_eq _ _).mp c_118)))⟩
              refine Vw.goto_ (n := 121) (de_goto_ (B 111 _ rfl) (B 112 _ rfl) (B 113 _ rfl)) rfl ?_
              refine Vw.iconst (v := 1) (de_iconst_1 (B 121 _ rfl)) rfl (n := 122) rfl ?_
              refine Vw.goto_ (n := 126) (de_goto_ (B 122 _ rfl) (B 123 _ rfl) (B 124 _ rfl)) rfl ?_
              exact Vw.zret (de_ireturn (B 126 _ rfl)) rfl rfl ⟨_, rfl, (by first
      | exact fin 0 (Or.inl rfl) (fun q => absurd (q.symm.trans c_64) (by decide))
      | exact fin 0 (Or.inl rfl) (fun _ q => absurd q c_71)
      | exact fin 0 (Or.inl rfl) (fun _ _ => by rw [c_81]; exact cmp_l0 ((lg_cmp_ge _ _).mp c_88))
      | exact fin 1 (Or.inr rfl) (fun _ _ => by rw [c_81]; exact cmp_l1 (Int64.not_le.mp (fun q => c_88 ((lg_cmp_ge _ _).mpr q))))
      | exact fin 0 (Or.inl rfl) (fun _ _ => by rw [c_101]; exact cmp_g0 ((lg_cmp_le _ _).mp c_108))
      | exact fin 1 (Or.inr rfl) (fun _ _ => by rw [c_101]; exact cmp_g1 (Int64.not_le.mp (fun q => c_108 ((lg_cmp_le _ _).mpr q))))
      | exact fin 0 (Or.inl rfl) (fun _ _ => cmp_e0 c_81 c_101 (fun q => c_118 ((lg_cmp_eq _ _).mpr q)))
      | exact fin 1 (Or.inr rfl) (fun _ _ => cmp_e1 c_81 c_101 ((lg_cmp_eq _ _).mp c_118)))⟩
            refine Vw.lload_n (de_lload_2 (B 84 _ rfl)) 2 rfl (n := 85) rfl ?_
            refine Vw.lload (de_lload (B 85 _ rfl) (B 86 _ rfl)) 4 rfl (n := 87) rfl ?_
            refine Vw.lcmp (de_lcmp (B 87 _ rfl)) (n := 88) rfl ?_
            refine Vw.if_ge (tgt := 125) (n := 91) (de_if_ge (B 88 _ rfl) (B 89 _ rfl) (B 90 _ rfl)) rfl rfl (fun c_88 => ?_) (fun c_88 => ?_)
            · refine Vw.iconst (v := 0) (de_iconst_0 (B 125 _ rfl)) rfl (n := 126) rfl ?_
              exact Vw.zret (de_ireturn (B 126 _ rfl)) rfl rfl ⟨_, rfl, (by first
      | exact fin 0 (Or.inl rfl) (fun q => absurd (q.symm.trans c_64) (by decide))
      | exact fin 0 (Or.inl rfl) (fun _ q => absurd q c_71)
      | exact fin 0 (Or.inl rfl) (fun _ _ => by rw [c_81]; exact cmp_l0 ((lg_cmp_ge _ _).mp c_88))
      | exact fin 1 (Or.inr rfl) (fun _ _ => by rw [c_81]; exact cmp_l1 (Int64.not_le.mp (fun q => c_88 ((lg_cmp_ge _ _).mpr q))))
      | exact fin 0 (Or.inl rfl) (fun _ _ => by rw [c_101]; exact cmp_g0 ((lg_cmp_le _ _).mp c_108))
      | exact fin 1 (Or.inr rfl) (fun _ _ => by rw [c_101]; exact cmp_g1 (Int64.not_le.mp (fun q => c_108 ((lg_cmp_le _ _).mpr q))))
      | exact fin 0 (Or.inl rfl) (fun _ _ => cmp_e0 c_81 c_101 (fun q => c_118 ((lg_cmp_eq _ _).mpr q)))
      | exact fin 1 (Or.inr rfl) (fun _ _ => cmp_e1 c_81 c_101 ((lg_cmp_eq _ _).mp c_118)))⟩
            refine Vw.goto_ (n := 121) (de_goto_ (B 91 _ rfl) (B 92 _ rfl) (B 93 _ rfl)) rfl ?_
            refine Vw.iconst (v := 1) (de_iconst_1 (B 121 _ rfl)) rfl (n := 122) rfl ?_
            refine Vw.goto_ (n := 126) (de_goto_ (B 122 _ rfl) (B 123 _ rfl) (B 124 _ rfl)) rfl ?_
            exact Vw.zret (de_ireturn (B 126 _ rfl)) rfl rfl ⟨_, rfl, (by first
      | exact fin 0 (Or.inl rfl) (fun q => absurd (q.symm.trans c_64) (by decide))
      | exact fin 0 (Or.inl rfl) (fun _ q => absurd q c_71)
      | exact fin 0 (Or.inl rfl) (fun _ _ => by rw [c_81]; exact cmp_l0 ((lg_cmp_ge _ _).mp c_88))
      | exact fin 1 (Or.inr rfl) (fun _ _ => by rw [c_81]; exact cmp_l1 (Int64.not_le.mp (fun q => c_88 ((lg_cmp_ge _ _).mpr q))))
      | exact fin 0 (Or.inl rfl) (fun _ _ => by rw [c_101]; exact cmp_g0 ((lg_cmp_le _ _).mp c_108))
      | exact fin 1 (Or.inr rfl) (fun _ _ => by rw [c_101]; exact cmp_g1 (Int64.not_le.mp (fun q => c_108 ((lg_cmp_le _ _).mpr q))))
      | exact fin 0 (Or.inl rfl) (fun _ _ => cmp_e0 c_81 c_101 (fun q => c_118 ((lg_cmp_eq _ _).mpr q)))
      | exact fin 1 (Or.inr rfl) (fun _ _ => cmp_e1 c_81 c_101 ((lg_cmp_eq _ _).mp c_118)))⟩
      exact absurd rfl c_9
theorem et_posS {D : Nat} {U P : (Nat → Int32) → (Nat → Int32) → Bool → Nat → Nat → tR tD} (hB : ∀ cd vl o nt, cd nt = 0 → Bd nt (U cd vl o)) (hB2 : ∀ cd vl o nt, cd nt = 0 → Bd nt (P cd vl o)) (hU : EC mX12_sumOf (D + 2) U) (hS : ET mX12_testOf (D + 2) P) : ET mX12_positiveOf (D + 3) (fun cd vl o => pPos cd (some (P cd vl o)) (U cd vl o)) := by
  intro d S I L Q r bs nt np cd vl o nv i l j l2 dn lv b hM hE hN hi hP hlv hb h
  refine Vc.of rfl (Nat.le_of_ble_eq_true rfl) ?_
  have B := bs_X12_positiveOf
  show Vw mX12_positiveOf (d + (D + 3)) 0 0 0 0 (ViQ Q) 0 [(0, .ref r), (1, .int lv)] [] S (em I r (nI (bs + i)) b) L
  have hE2 := hE.2.2
  rcases pPos_inv hP with ⟨h1, f, j0, hf, h3, h4, h5⟩ | ⟨h1, j0, l0, d0, d1, h2, h3, h4, h5⟩
  · cases hf
    subst h5
    have hlt := hE.lt hi (by rw [h1]; decide)
    have hjb := hB2 cd vl o nt hE.2.1 _ _ _ _ _ hlt h3
    refine Vw.aload_n (de_aload_0 (B 0 _ rfl)) 0 rfl (n := 1) rfl ?_
    refine Vw.bipush (v := 40) (de_bipush (B 1 _ rfl) (B 2 _ rfl)) rfl (n := 3) rfl ?_
    refine Vw.isi1 (mi' := mX12_sign) (de_invokestatic (B 3 _ rfl) (B 4 _ rfl) (B 5 _ rfl)) ml_X12_239 ms_X12_sign (Nat.le_of_ble_eq_true rfl) (n := 6) rfl (c_X12_sign ?_)
    rw [show (100 + 40 : Int32) = 140 from rfl]
    refine Vw.ivi1 (mi' := mX12_passes0) (de_invokevirtual (B 6 _ rfl) (B 7 _ rfl) (B 8 _ rfl)) ml_X12_294 mv_X12_passes0 hM.k (Nat.le_of_ble_eq_true rfl) (n := 9) rfl (c_X12_passes0 hM hE hi (fun _ => ?_) (fun q => absurd h1 q))
    · refine Vw.if_eq (tgt := 30) (n := 12) (de_if_eq (B 9 _ rfl) (B 10 _ rfl) (B 11 _ rfl)) rfl rfl (fun c_9 => ?_) (fun c_9 => ?_)
      · exact absurd c_9 (by decide)
      refine Vw.aload_n (de_aload_0 (B 12 _ rfl)) 0 rfl (n := 13) rfl ?_
      refine Vw.iload_n (de_iload_1 (B 13 _ rfl)) 1 rfl (n := 14) rfl ?_
      refine Vw.ivi1 (mi' := mX12_testOf) (de_invokevirtual (B 14 _ rfl) (B 15 _ rfl) (B 16 _ rfl)) ml_X12_315 mv_X12_testOf hM.k (Nat.le_of_ble_eq_true rfl) (n := 17) rfl (hS _ _ _ _ _ _ _ _ _ _ _ _ _ _ _ _ _ _ _ _ hM hE hN hlt h3 hlv hb (fun x b2 hx => ?_))
      · refine Vw.istore_n (lv2 := [(0, _), (1, _), (2, _)]) (de_istore_2 (B 17 _ rfl)) rfl (by decide) [1, 2, 0] rfl (n := 18) rfl ?_
        refine Vw.aload_n (de_aload_0 (B 18 _ rfl)) 0 rfl (n := 19) rfl ?_
        refine Vw.dup (de_dup (B 19 _ rfl)) rfl (n := 20) rfl ?_
        refine Vw.getI (de_getfield (B 20 _ rfl) (B 21 _ rfl) (B 22 _ rfl)) fl_X12_270 rfl hM.k (n := 23) rfl ?_
        rw [em_g]
        refine Vw.iconst (v := 1) (de_iconst_1 (B 23 _ rfl)) rfl (n := 24) rfl ?_
        refine Vw.iadd (de_iadd (B 24 _ rfl)) (n := 25) rfl ?_
        refine Vw.putI (de_putfield (B 25 _ rfl) (B 26 _ rfl) (B 27 _ rfl)) fl_X12_270 hM.k rfl rfl (n := 28) rfl ?_
        refine Vw.iload_n (de_iload_2 (B 28 _ rfl)) 2 rfl (n := 29) rfl ?_
        exact Vw.zret (de_ireturn (B 29 _ rfl)) rfl (by rcases hx.2.1 with q | q <;> rw [q] <;> rfl) ⟨_, rfl, (by rw [em_inc]; exact h x b2 hx)⟩
  · have hj0 := hB cd vl o nt hE.2.1 _ _ _ _ _ hi h2
    have hlt := hE.lt hj0.2 (cmp_0 h3)
    have hj1 := hB cd vl o nt hE.2.1 _ _ _ _ _ hlt h4
    have hb0 := evB_01 (lv := lv) (dn := d0) (nv := nv) hb
    subst h5
    have fin : ∀ x : Int32, (x = 0 ∨ x = 1) → (lv = 1 → evB lv (evB lv b d0 nv) d1 nv = 0 → x = b64 (tCmpV (cd j0) (evV lv b d0 nv) (evV lv (evB lv b d0 nv) d1 nv))) → Q x S (em I r (nI (bs + j)) (evB lv (evB lv b d0 nv) d1 nv)) L := fun x hx hx2 => h x _ (evT_cmp hlv hb hx hx2)
    refine Vw.aload_n (de_aload_0 (B 0 _ rfl)) 0 rfl (n := 1) rfl ?_
    refine Vw.bipush (v := 40) (de_bipush (B 1 _ rfl) (B 2 _ rfl)) rfl (n := 3) rfl ?_
    refine Vw.isi1 (mi' := mX12_sign) (de_invokestatic (B 3 _ rfl) (B 4 _ rfl) (B 5 _ rfl)) ml_X12_239 ms_X12_sign (Nat.le_of_ble_eq_true rfl) (n := 6) rfl (c_X12_sign ?_)
    rw [show (100 + 40 : Int32) = 140 from rfl]
    refine Vw.ivi1 (mi' := mX12_passes0) (de_invokevirtual (B 6 _ rfl) (B 7 _ rfl) (B 8 _ rfl)) ml_X12_294 mv_X12_passes0 hM.k (Nat.le_of_ble_eq_true rfl) (n := 9) rfl (c_X12_passes0 hM hE hi (fun q => absurd q h1) (fun _ => ?_))
    · refine Vw.if_eq (tgt := 30) (n := 12) (de_if_eq (B 9 _ rfl) (B 10 _ rfl) (B 11 _ rfl)) rfl rfl (fun c_9 => ?_) (fun c_9 => ?_)
      · refine Vw.aload_n (de_aload_0 (B 30 _ rfl)) 0 rfl (n := 31) rfl ?_
        refine Vw.iload_n (de_iload_1 (B 31 _ rfl)) 1 rfl (n := 32) rfl ?_
        refine Vw.ivl1 (mi' := mX12_sumOf) (de_invokevirtual (B 32 _ rfl) (B 33 _ rfl) (B 34 _ rfl)) ml_X12_297 mv_X12_sumOf hM.k (Nat.le_of_ble_eq_true rfl) (n := 35) rfl (hU _ _ _ _ _ _ _ _ _ _ _ _ _ _ _ _ _ _ _ _ hM hE hN hi h2 hlv hb ?_)
        · refine Vw.lstore_n (lv2 := [(0, _), (1, _), (2, _)]) (de_lstore_2 (B 35 _ rfl)) rfl (by decide) [1, 2, 0] rfl (n := 36) rfl ?_
          refine Vw.aload_n (de_aload_0 (B 36 _ rfl)) 0 rfl (n := 37) rfl ?_
          refine Vw.aload_n (de_aload_0 (B 37 _ rfl)) 0 rfl (n := 38) rfl ?_
          refine Vw.getI (de_getfield (B 38 _ rfl) (B 39 _ rfl) (B 40 _ rfl)) fl_X12_270 rfl hM.k (n := 41) rfl ?_
          rw [em_g]
          refine Vw.ivi1 (mi' := mX12_codeAt) (de_invokevirtual (B 41 _ rfl) (B 42 _ rfl) (B 43 _ rfl)) ml_X12_273 mv_X12_codeAt hM.k (Nat.le_of_ble_eq_true rfl) (n := 44) rfl (c_X12_codeAt hM hE hj0.2 ?_)
          refine Vw.istore (lv2 := [(0, _), (1, _), (2, _), (4, _)]) (de_istore (B 44 _ rfl) (B 45 _ rfl)) (by decide) [1, 2, 3, 0] rfl (n := 46) rfl ?_
          refine Vw.aload_n (de_aload_0 (B 46 _ rfl)) 0 rfl (n := 47) rfl ?_
          refine Vw.dup (de_dup (B 47 _ rfl)) rfl (n := 48) rfl ?_
          refine Vw.getI (de_getfield (B 48 _ rfl) (B 49 _ rfl) (B 50 _ rfl)) fl_X12_270 rfl hM.k (n := 51) rfl ?_
          rw [em_g]
          refine Vw.iconst (v := 1) (de_iconst_1 (B 51 _ rfl)) rfl (n := 52) rfl ?_
          refine Vw.iadd (de_iadd (B 52 _ rfl)) (n := 53) rfl ?_
          refine Vw.putI (de_putfield (B 53 _ rfl) (B 54 _ rfl) (B 55 _ rfl)) fl_X12_270 hM.k rfl rfl (n := 56) rfl ?_
          rw [em_inc]
          refine Vw.aload_n (de_aload_0 (B 56 _ rfl)) 0 rfl (n := 57) rfl ?_
          refine Vw.iload_n (de_iload_1 (B 57 _ rfl)) 1 rfl (n := 58) rfl ?_
          refine Vw.ivl1 (mi' := mX12_sumOf) (de_invokevirtual (B 58 _ rfl) (B 59 _ rfl) (B 60 _ rfl)) ml_X12_297 mv_X12_sumOf hM.k (Nat.le_of_ble_eq_true rfl) (n := 61) rfl (hU _ _ _ _ _ _ _ _ _ _ _ _ _ _ _ _ _ _ _ _ hM hE hN hlt h4 hlv hb0 ?_)
          · refine Vw.lstore (lv2 := [(0, _), (1, _), (2, _), (4, _), (5, _)]) (de_lstore (B 61 _ rfl) (B 62 _ rfl)) (by decide) [1, 2, 3, 4, 0] rfl (n := 63) rfl ?_
            refine Vw.iload_n (de_iload_1 (B 63 _ rfl)) 1 rfl (n := 64) rfl ?_
            refine Vw.if_eq (tgt := 125) (n := 67) (de_if_eq (B 64 _ rfl) (B 65 _ rfl) (B 66 _ rfl)) rfl rfl (fun c_64 => ?_) (fun c_64 => ?_)
            · refine Vw.iconst (v := 0) (de_iconst_0 (B 125 _ rfl)) rfl (n := 126) rfl ?_
              exact Vw.zret (de_ireturn (B 126 _ rfl)) rfl rfl ⟨_, rfl, (by first
      | exact fin 0 (Or.inl rfl) (fun q => absurd (q.symm.trans c_64) (by decide))
      | exact fin 0 (Or.inl rfl) (fun _ q => absurd q c_71)
      | exact fin 0 (Or.inl rfl) (fun _ _ => by rw [c_81]; exact cmp_l0 ((lg_cmp_ge _ _).mp c_88))
      | exact fin 1 (Or.inr rfl) (fun _ _ => by rw [c_81]; exact cmp_l1 (Int64.not_le.mp (fun q => c_88 ((lg_cmp_ge _ _).mpr q))))
      | exact fin 0 (Or.inl rfl) (fun _ _ => by rw [c_101]; exact cmp_g0 ((lg_cmp_le _ _).mp c_108))
      | exact fin 1 (Or.inr rfl) (fun _ _ => by rw [c_101]; exact cmp_g1 (Int64.not_le.mp (fun q => c_108 ((lg_cmp_le _ _).mpr q))))
      | exact fin 0 (Or.inl rfl) (fun _ _ => cmp_e0 c_81 c_101 (fun q => c_118 ((lg_cmp_eq _ _).mpr q)))
      | exact fin 1 (Or.inr rfl) (fun _ _ => cmp_e1 c_81 c_101 ((lg_cmp_eq _ _).mp c_118)))⟩
            refine Vw.aload_n (de_aload_0 (B 67 _ rfl)) 0 rfl (n := 68) rfl ?_
            refine Vw.getI (de_getfield (B 68 _ rfl) (B 69 _ rfl) (B 70 _ rfl)) fl_X12_280 rfl hM.k (n := 71) rfl ?_
            rw [em_b]
            refine Vw.if_ne (tgt := 125) (n := 74) (de_if_ne (B 71 _ rfl) (B 72 _ rfl) (B 73 _ rfl)) rfl rfl (fun c_71 => ?_) (fun c_71 => ?_)
            · refine Vw.iconst (v := 0) (de_iconst_0 (B 125 _ rfl)) rfl (n := 126) rfl ?_
              exact Vw.zret (de_ireturn (B 126 _ rfl)) rfl rfl ⟨_, rfl, (by first
      | exact fin 0 (Or.inl rfl) (fun q => absurd (q.symm.trans c_64) (by decide))
      | exact fin 0 (Or.inl rfl) (fun _ q => absurd q c_71)
      | exact fin 0 (Or.inl rfl) (fun _ _ => by rw [c_81]; exact cmp_l0 ((lg_cmp_ge _ _).mp c_88))
      | exact fin 1 (Or.inr rfl) (fun _ _ => by rw [c_81]; exact cmp_l1 (Int64.not_le.mp (fun q => c_88 ((lg_cmp_ge _ _).mpr q))))
      | exact fin 0 (Or.inl rfl) (fun _ _ => by rw [c_101]; exact cmp_g0 ((lg_cmp_le _ _).mp c_108))
      | exact fin 1 (Or.inr rfl) (fun _ _ => by rw [c_101]; exact cmp_g1 (Int64.not_le.mp (fun q => c_108 ((lg_cmp_le _ _).mpr q))))
      | exact fin 0 (Or.inl rfl) (fun _ _ => cmp_e0 c_81 c_101 (fun q => c_118 ((lg_cmp_eq _ _).mpr q)))
      | exact fin 1 (Or.inr rfl) (fun _ _ => cmp_e1 c_81 c_101 ((lg_cmp_eq _ _).mp c_118)))⟩
            refine Vw.iload (de_iload (B 74 _ rfl) (B 75 _ rfl)) 3 rfl (n := 76) rfl ?_
            refine Vw.bipush (v := 60) (de_bipush (B 76 _ rfl) (B 77 _ rfl)) rfl (n := 78) rfl ?_
            refine Vw.isi1 (mi' := mX12_sign) (de_invokestatic (B 78 _ rfl) (B 79 _ rfl) (B 80 _ rfl)) ml_X12_239 ms_X12_sign (Nat.le_of_ble_eq_true rfl) (n := 81) rfl (c_X12_sign ?_)
            rw [show (100 + 60 : Int32) = 160 from rfl]
            refine Vw.icmp_ne (tgt := 94) (n := 84) (de_icmp_ne (B 81 _ rfl) (B 82 _ rfl) (B 83 _ rfl)) rfl rfl (fun c_81 => ?_) (fun c_81 => ?_)
            · refine Vw.iload (de_iload (B 94 _ rfl) (B 95 _ rfl)) 3 rfl (n := 96) rfl ?_
              refine Vw.bipush (v := 62) (de_bipush (B 96 _ rfl) (B 97 _ rfl)) rfl (n := 98) rfl ?_
              refine Vw.isi1 (mi' := mX12_sign) (de_invokestatic (B 98 _ rfl) (B 99 _ rfl) (B 100 _ rfl)) ml_X12_239 ms_X12_sign (Nat.le_of_ble_eq_true rfl) (n := 101) rfl (c_X12_sign ?_)
              rw [show (100 + 62 : Int32) = 162 from rfl]
              refine Vw.icmp_ne (tgt := 114) (n := 104) (de_icmp_ne (B 101 _ rfl) (B 102 _ rfl) (B 103 _ rfl)) rfl rfl (fun c_101 => ?_) (fun c_101 => ?_)
              · refine Vw.lload_n (de_lload_2 (B 114 _ rfl)) 2 rfl (n := 115) rfl ?_
                refine Vw.lload (de_lload (B 115 _ rfl) (B 116 _ rfl)) 4 rfl (n := 117) rfl ?_
                refine Vw.lcmp (de_lcmp (B 117 _ rfl)) (n := 118) rfl ?_
                refine Vw.if_ne (tgt := 125) (n := 121) (de_if_ne (B 118 _ rfl) (B 119 _ rfl) (B 120 _ rfl)) rfl rfl (fun c_118 => ?_) (fun c_118 => ?_)
                · refine Vw.iconst (v := 0) (de_iconst_0 (B 125 _ rfl)) rfl (n := 126) rfl ?_
                  exact Vw.zret (de_ireturn (B 126 _ rfl)) rfl rfl ⟨_, rfl, (by first
      | exact fin 0 (Or.inl rfl) (fun q => absurd (q.symm.trans c_64) (by decide))
      | exact fin 0 (Or.inl rfl) (fun _ q => absurd q c_71)
      | exact fin 0 (Or.inl rfl) (fun _ _ => by rw [c_81]; exact cmp_l0 ((lg_cmp_ge _ _).mp c_88))
      | exact fin 1 (Or.inr rfl) (fun _ _ => by rw [c_81]; exact cmp_l1 (Int64.not_le.mp (fun q => c_88 ((lg_cmp_ge _ _).mpr q))))
      | exact fin 0 (Or.inl rfl) (fun _ _ => by rw [c_101]; exact cmp_g0 ((lg_cmp_le _ _).mp c_108))
      | exact fin 1 (Or.inr rfl) (fun _ _ => by rw [c_101]; exact cmp_g1 (Int64.not_le.mp (fun q => c_108 ((lg_cmp_le _ _).mpr q))))
      | exact fin 0 (Or.inl rfl) (fun _ _ => cmp_e0 c_81 c_101 (fun q => c_118 ((lg_cmp_eq _ _).mpr q)))
      | exact fin 1 (Or.inr rfl) (fun _ _ => cmp_e1 c_81 c_101 ((lg_cmp_eq _ _).mp c_118)))⟩
                refine Vw.iconst (v := 1) (de_iconst_1 (B 121 _ rfl)) rfl (n := 122) rfl ?_
                refine Vw.goto_ (n := 126) (de_goto_ (B 122 _ rfl) (B 123 _ rfl) (B 124 _ rfl)) rfl ?_
                exact Vw.zret (de_ireturn (B 126 _ rfl)) rfl rfl ⟨_, rfl, (by first
      | exact fin 0 (Or.inl rfl) (fun q => absurd (q.symm.trans c_64) (by decide))
      | exact fin 0 (Or.inl rfl) (fun _ q => absurd q c_71)
      | exact fin 0 (Or.inl rfl) (fun _ _ => by rw [c_81]; exact cmp_l0 ((lg_cmp_ge _ _).mp c_88))
      | exact fin 1 (Or.inr rfl) (fun _ _ => by rw [c_81]; exact cmp_l1 (Int64.not_le.mp (fun q => c_88 ((lg_cmp_ge _ _).mpr q))))
      | exact fin 0 (Or.inl rfl) (fun _ _ => by rw [c_101]; exact cmp_g0 ((lg_cmp_le _ _).mp c_108))
      | exact fin 1 (Or.inr rfl) (fun _ _ => by rw [c_101]; exact cmp_g1 (Int64.not_le.mp (fun q => c_108 ((lg_cmp_le _ _).mpr q))))
      | exact fin 0 (Or.inl rfl) (fun _ _ => cmp_e0 c_81 c_101 (fun q => c_118 ((lg_cmp_eq _ _).mpr q)))
      | exact fin 1 (Or.inr rfl) (fun _ _ => cmp_e1 c_81 c_101 ((lg_cmp_eq _ _).mp c_118)))⟩
              refine Vw.lload_n (de_lload_2 (B 104 _ rfl)) 2 rfl (n := 105) rfl ?_
              refine Vw.lload (de_lload (B 105 _ rfl) (B 106 _ rfl)) 4 rfl (n := 107) rfl ?_
              refine Vw.lcmp (de_lcmp (B 107 _ rfl)) (n := 108) rfl ?_
              refine Vw.if_le (tgt := 125) (n := 111) (de_if_le (B 108 _ rfl) (B 109 _ rfl) (B 110 _ rfl)) rfl rfl (fun c_108 => ?_) (fun c_108 => ?_)
              · refine Vw.iconst (v := 0) (de_iconst_0 (B 125 _ rfl)) rfl (n := 126) rfl ?_
                exact Vw.zret (de_ireturn (B 126 _ rfl)) rfl rfl ⟨_, rfl, (by first
      | exact fin 0 (Or.inl rfl) (fun q => absurd (q.symm.trans c_64) (by decide))
      | exact fin 0 (Or.inl rfl) (fun _ q => absurd q c_71)
      | exact fin 0 (Or.inl rfl) (fun _ _ => by rw [c_81]; exact cmp_l0 ((lg_cmp_ge _ _).mp c_88))
      | exact fin 1 (Or.inr rfl) (fun _ _ => by rw [c_81]; exact cmp_l1 (Int64.not_le.mp (fun q => c_88 ((lg_cmp_ge _ _).mpr q))))
      | exact fin 0 (Or.inl rfl) (fun _ _ => by rw [c_101]; exact cmp_g0 ((lg_cmp_le _ _).mp c_108))
      | exact fin 1 (Or.inr rfl) (fun _ _ => by rw [c_101]; exact cmp_g1 (Int64.not_le.mp (fun q => c_108 ((lg_cmp_le _ _).mpr q))))
      | exact fin 0 (Or.inl rfl) (fun _ _ => cmp_e0 c_81 c_101 (fun q => c_118 ((lg_cmp_eq _ _).mpr q)))
      | exact fin 1 (Or.inr rfl) (fun _ _ => cmp_e1 c_81 c_101 ((lg_cmp_eq _ _).mp c_118)))⟩
              refine Vw.goto_ (n := 121) (de_goto_ (B 111 _ rfl) (B 112 _ rfl) (B 113 _ rfl)) rfl ?_
              refine Vw.iconst (v := 1) (de_iconst_1 (B 121 _ rfl)) rfl (n := 122) rfl ?_
              refine Vw.goto_ (n := 126) (de_goto_ (B 122 _ rfl) (B 123 _ rfl) (B 124 _ rfl)) rfl ?_
              exact Vw.zret (de_ireturn (B 126 _ rfl)) rfl rfl ⟨_, rfl, (by first
      | exact fin 0 (Or.inl rfl) (fun q => absurd (q.symm.trans c_64) (by decide))
      | exact fin 0 (Or.inl rfl) (fun _ q => absurd q c_71)
      | exact fin 0 (Or.inl rfl) (fun _ _ => by rw [c_81]; exact cmp_l0 ((lg_cmp_ge _ _).mp c_88))
      | exact fin 1 (Or.inr rfl) (fun _ _ => by rw [c_81]; exact cmp_l1 (Int64.not_le.mp (fun q => c_88 ((lg_cmp_ge _ _).mpr q))))
      | exact fin 0 (Or.inl rfl) (fun _ _ => by rw [c_101]; exact cmp_g0 ((lg_cmp_le _ _).mp c_108))
      | exact fin 1 (Or.inr rfl) (fun _ _ => by rw [c_101]; exact cmp_g1 (Int64.not_le.mp (fun q => c_108 ((lg_cmp_le _ _).mpr q))))
      | exact fin 0 (Or.inl rfl) (fun _ _ => cmp_e0 c_81 c_101 (fun q => c_118 ((lg_cmp_eq _ _).mpr q)))
      | exact fin 1 (Or.inr rfl) (fun _ _ => cmp_e1 c_81 c_101 ((lg_cmp_eq _ _).mp c_118)))⟩
            refine Vw.lload_n (de_lload_2 (B 84 _ rfl)) 2 rfl (n := 85) rfl ?_
            refine Vw.lload (de_lload (B 85 _ rfl) (B 86 _ rfl)) 4 rfl (n := 87) rfl ?_
            refine Vw.lcmp (de_lcmp (B 87 _ rfl)) (n := 88) rfl ?_
            refine Vw.if_ge (tgt := 125) (n := 91) (de_if_ge (B 88 _ rfl) (B 89 _ rfl) (B 90 _ rfl)) rfl rfl (fun c_88 => ?_) (fun c_88 => ?_)
            · refine Vw.iconst (v := 0) (de_iconst_0 (B 125 _ rfl)) rfl (n := 126) rfl ?_
              exact Vw.zret (de_ireturn (B 126 _ rfl)) rfl rfl ⟨_, rfl, (by first
      | exact fin 0 (Or.inl rfl) (fun q => absurd (q.symm.trans c_64) (by decide))
      | exact fin 0 (Or.inl rfl) (fun _ q => absurd q c_71)
      | exact fin 0 (Or.inl rfl) (fun _ _ => by rw [c_81]; exact cmp_l0 ((lg_cmp_ge _ _).mp c_88))
      | exact fin 1 (Or.inr rfl) (fun _ _ => by rw [c_81]; exact cmp_l1 (Int64.not_le.mp (fun q => c_88 ((lg_cmp_ge _ _).mpr q))))
      | exact fin 0 (Or.inl rfl) (fun _ _ => by rw [c_101]; exact cmp_g0 ((lg_cmp_le _ _).mp c_108))
      | exact fin 1 (Or.inr rfl) (fun _ _ => by rw [c_101]; exact cmp_g1 (Int64.not_le.mp (fun q => c_108 ((lg_cmp_le _ _).mpr q))))
      | exact fin 0 (Or.inl rfl) (fun _ _ => cmp_e0 c_81 c_101 (fun q => c_118 ((lg_cmp_eq _ _).mpr q)))
      | exact fin 1 (Or.inr rfl) (fun _ _ => cmp_e1 c_81 c_101 ((lg_cmp_eq _ _).mp c_118)))⟩
            refine Vw.goto_ (n := 121) (de_goto_ (B 91 _ rfl) (B 92 _ rfl) (B 93 _ rfl)) rfl ?_
            refine Vw.iconst (v := 1) (de_iconst_1 (B 121 _ rfl)) rfl (n := 122) rfl ?_
            refine Vw.goto_ (n := 126) (de_goto_ (B 122 _ rfl) (B 123 _ rfl) (B 124 _ rfl)) rfl ?_
            exact Vw.zret (de_ireturn (B 126 _ rfl)) rfl rfl ⟨_, rfl, (by first
      | exact fin 0 (Or.inl rfl) (fun q => absurd (q.symm.trans c_64) (by decide))
      | exact fin 0 (Or.inl rfl) (fun _ q => absurd q c_71)
      | exact fin 0 (Or.inl rfl) (fun _ _ => by rw [c_81]; exact cmp_l0 ((lg_cmp_ge _ _).mp c_88))
      | exact fin 1 (Or.inr rfl) (fun _ _ => by rw [c_81]; exact cmp_l1 (Int64.not_le.mp (fun q => c_88 ((lg_cmp_ge _ _).mpr q))))
      | exact fin 0 (Or.inl rfl) (fun _ _ => by rw [c_101]; exact cmp_g0 ((lg_cmp_le _ _).mp c_108))
      | exact fin 1 (Or.inr rfl) (fun _ _ => by rw [c_101]; exact cmp_g1 (Int64.not_le.mp (fun q => c_108 ((lg_cmp_le _ _).mpr q))))
      | exact fin 0 (Or.inl rfl) (fun _ _ => cmp_e0 c_81 c_101 (fun q => c_118 ((lg_cmp_eq _ _).mpr q)))
      | exact fin 1 (Or.inr rfl) (fun _ _ => cmp_e1 c_81 c_101 ((lg_cmp_eq _ _).mp c_118)))⟩
      exact absurd rfl c_9
theorem et_plain {D : Nat} {inn : (Nat → Int32) → (Nat → Int32) → Bool → Option (Nat → Nat → tR tD)} {U : (Nat → Int32) → (Nat → Int32) → Bool → Nat → Nat → tR tD} (hS : ET mX12_positiveOf (D + 3) (fun cd vl o => pPos cd (inn cd vl o) (U cd vl o))) : ET mX12_plainOf (D + 4) (fun cd vl o => pPlain cd (inn cd vl o) (U cd vl o)) := by
  intro d S I L Q r bs nt np cd vl o nv i l j l2 dn lv b hM hE hN hi hP hlv hb h
  refine Vc.of rfl (Nat.le_of_ble_eq_true rfl) ?_
  have B := bs_X12_plainOf
  show Vw mX12_plainOf (d + (D + 4)) 0 0 0 0 (ViQ Q) 0 [(0, .ref r), (1, .int lv)] [] S (em I r (nI (bs + i)) b) L
  have hE2 := hE.2.2
  obtain ⟨i0, par, d0, hn, hp, hd⟩ := pPlain_inv hP
  have loop : ∀ f k pb, k ≤ nt → nt < k + f → pNots cd f k pb = (i0, par) → Vw mX12_plainOf (d + (D + 4)) 0 0 0 0 (ViQ Q) 2 [(0, .ref r), (1, .int lv), (2, .int (if pb = true then 1 else 0))] [] S (em I r (nI (bs + k)) b) L := by
    intro f
    induction f with
    | zero => intro k pb h1 h2; exact absurd h2 (by omega)
    | succ f ih =>
      intro k pb hk hf hq
      rw [pNots] at hq
      refine Vw.aload_n (de_aload_0 (B 2 _ rfl)) 0 rfl (n := 3) rfl ?_
      refine Vw.bipush (v := 9) (de_bipush (B 3 _ rfl) (B 4 _ rfl)) rfl (n := 5) rfl ?_
      refine Vw.ivi1 (mi' := mX12_passes0) (de_invokevirtual (B 5 _ rfl) (B 6 _ rfl) (B 7 _ rfl)) ml_X12_294 mv_X12_passes0 hM.k (Nat.le_of_ble_eq_true rfl) (n := 8) rfl (c_X12_passes0 hM hE hk (fun z => ?_) (fun z => ?_))
      · refine Vw.if_eq (tgt := 24) (n := 11) (de_if_eq (B 8 _ rfl) (B 9 _ rfl) (B 10 _ rfl)) rfl rfl (fun c_8 => ?_) (fun c_8 => ?_)
        · exact absurd c_8 (by decide)
        refine Vw.iload_n (de_iload_2 (B 11 _ rfl)) 2 rfl (n := 12) rfl ?_
        refine Vw.if_ne (tgt := 19) (n := 15) (de_if_ne (B 12 _ rfl) (B 13 _ rfl) (B 14 _ rfl)) rfl rfl (fun c_12 => ?_) (fun c_12 => ?_)
        · refine Vw.iconst (v := 0) (de_iconst_0 (B 19 _ rfl)) rfl (n := 20) rfl ?_
          refine Vw.istore_n (lv2 := [(0, _), (1, _), (2, _)]) (de_istore_2 (B 20 _ rfl)) rfl (by decide) [1, 2, 0] rfl (n := 21) rfl ?_
          refine Vw.goto_ (n := 2) (de_goto_ (B 21 _ rfl) (B 22 _ rfl) (B 23 _ rfl)) rfl ?_
          rw [if_pos z] at hq
          have z2 := ih (k + 1) (!pb) (hE.lt hk (by rw [z]; decide)) (by omega) hq
          cases pb
          · first | exact z2 | exact absurd rfl c_12
          · first | exact z2 | exact absurd c_12 (by decide)
        refine Vw.iconst (v := 1) (de_iconst_1 (B 15 _ rfl)) rfl (n := 16) rfl ?_
        refine Vw.goto_ (n := 20) (de_goto_ (B 16 _ rfl) (B 17 _ rfl) (B 18 _ rfl)) rfl ?_
        refine Vw.istore_n (lv2 := [(0, _), (1, _), (2, _)]) (de_istore_2 (B 20 _ rfl)) rfl (by decide) [1, 2, 0] rfl (n := 21) rfl ?_
        refine Vw.goto_ (n := 2) (de_goto_ (B 21 _ rfl) (B 22 _ rfl) (B 23 _ rfl)) rfl ?_
        rw [if_pos z] at hq
        have z2 := ih (k + 1) (!pb) (hE.lt hk (by rw [z]; decide)) (by omega) hq
        cases pb
        · first | exact z2 | exact absurd rfl c_12
        · first | exact z2 | exact absurd c_12 (by decide)
      · rw [if_neg z] at hq
        cases hq
        refine Vw.if_eq (tgt := 24) (n := 11) (de_if_eq (B 8 _ rfl) (B 9 _ rfl) (B 10 _ rfl)) rfl rfl (fun c_8 => ?_) (fun c_8 => ?_)
        · refine Vw.aload_n (de_aload_0 (B 24 _ rfl)) 0 rfl (n := 25) rfl ?_
          refine Vw.iload_n (de_iload_1 (B 25 _ rfl)) 1 rfl (n := 26) rfl ?_
          refine Vw.ivi1 (mi' := mX12_positiveOf) (de_invokevirtual (B 26 _ rfl) (B 27 _ rfl) (B 28 _ rfl)) ml_X12_312 mv_X12_positiveOf hM.k (Nat.le_of_ble_eq_true rfl) (n := 29) rfl (hS _ _ _ _ _ _ _ _ _ _ _ _ _ _ _ _ _ _ _ _ hM hE hN hk hp hlv hb (fun x b2 hx => ?_))
          · refine Vw.iload_n (de_iload_2 (B 29 _ rfl)) 2 rfl (n := 30) rfl ?_
            refine Vw.icmp_eq (tgt := 37) (n := 33) (de_icmp_eq (B 30 _ rfl) (B 31 _ rfl) (B 32 _ rfl)) rfl rfl (fun c_30 => ?_) (fun c_30 => ?_)
            · refine Vw.iconst (v := 0) (de_iconst_0 (B 37 _ rfl)) rfl (n := 38) rfl ?_
              exact Vw.zret (de_ireturn (B 38 _ rfl)) rfl rfl ⟨_, rfl, (by
          cases par
          · have hd : dn = d0 := hd
            subst hd
            first
            | (have e : x = 0 := c_30; rw [e] at hx; exact h 0 b2 hx)
            | (have e : x = 1 := hx.2.1.resolve_left c_30; rw [e] at hx; exact h 1 b2 hx)
          · have hd : dn = tNot d0 := hd
            subst hd
            first
            | exact h 0 b2 (evT_not hx (by have e : x = 1 := c_30; rw [if_pos e]))
            | exact h 1 b2 (evT_not hx (by have e : ¬ x = 1 := c_30; rw [if_neg e])))⟩
            refine Vw.iconst (v := 1) (de_iconst_1 (B 33 _ rfl)) rfl (n := 34) rfl ?_
            refine Vw.goto_ (n := 38) (de_goto_ (B 34 _ rfl) (B 35 _ rfl) (B 36 _ rfl)) rfl ?_
            exact Vw.zret (de_ireturn (B 38 _ rfl)) rfl rfl ⟨_, rfl, (by
          cases par
          · have hd : dn = d0 := hd
            subst hd
            first
            | (have e : x = 0 := c_30; rw [e] at hx; exact h 0 b2 hx)
            | (have e : x = 1 := hx.2.1.resolve_left c_30; rw [e] at hx; exact h 1 b2 hx)
          · have hd : dn = tNot d0 := hd
            subst hd
            first
            | exact h 0 b2 (evT_not hx (by have e : x = 1 := c_30; rw [if_pos e]))
            | exact h 1 b2 (evT_not hx (by have e : ¬ x = 1 := c_30; rw [if_neg e])))⟩
        exact absurd rfl c_8
  refine Vw.iconst (v := 0) (de_iconst_0 (B 0 _ rfl)) rfl (n := 1) rfl ?_
  refine Vw.istore_n (lv2 := [(0, _), (1, _), (2, _)]) (de_istore_2 (B 1 _ rfl)) rfl (by decide) [1, 2, 0] rfl (n := 2) rfl ?_
  exact loop 402 i false hi (by omega) hn
theorem et_both {D : Nat} {P : (Nat → Int32) → (Nat → Int32) → Bool → Nat → Nat → tR tD} (hB : ∀ cd vl o nt, cd nt = 0 → Bd nt (P cd vl o)) (hS : ET mX12_plainOf (D + 4) P) : ET mX12_bothOf (D + 5) (fun cd vl o => pMany cd opA (fun _ => tAnd) (P cd vl o)) := by
  intro d S I L Q r bs nt np cd vl o nv i l j l2 dn lv b hM hE hN hi hP hlv hb h
  refine Vc.of rfl (Nat.le_of_ble_eq_true rfl) ?_
  have B := bs_X12_bothOf
  show Vw mX12_bothOf (d + (D + 5)) 0 0 0 0 (ViQ Q) 0 [(0, .ref r), (1, .int lv)] [] S (em I r (nI (bs + i)) b) L
  have hE2 := hE.2.2
  have hX := hB cd vl o nt hE.2.1
  have loop : ∀ f j0 l0 d0 x b1, j0 ≤ nt → nt < j0 + f → pChain cd opA (fun _ => tAnd) (P cd vl o) f j0 l0 d0 = .ok (j, l2, dn) → evT lv b d0 nv x b1 → Vw mX12_bothOf (d + (D + 5)) 0 0 0 0 (ViQ Q) 6 [(0, .ref r), (1, .int lv), (2, .int x)] [] S (em I r (nI (bs + j0)) b1) L := by
    intro f
    induction f with
    | zero => intro j0 l0 d0 x b1 h1 h2; exact absurd h2 (by omega)
    | succ f ih =>
      intro j0 l0 d0 x b1 hj hf hC hx
      rcases pChain_inv hC with ⟨ho, e1, e2, e3⟩ | ⟨ho, j3, l3, d3, hx3, hc3⟩
      · subst e1; subst e3
        have n1 : ¬ cd j0 = 8 := fun q => ho (by rw [q]; decide)
        refine Vw.aload_n (de_aload_0 (B 6 _ rfl)) 0 rfl (n := 7) rfl ?_
        refine Vw.bipush (v := 8) (de_bipush (B 7 _ rfl) (B 8 _ rfl)) rfl (n := 9) rfl ?_
        refine Vw.ivi1 (mi' := mX12_passes0) (de_invokevirtual (B 9 _ rfl) (B 10 _ rfl) (B 11 _ rfl)) ml_X12_294 mv_X12_passes0 hM.k (Nat.le_of_ble_eq_true rfl) (n := 12) rfl (c_X12_passes0 hM hE hj (fun q => absurd q n1) (fun _ => ?_))
        refine Vw.if_eq (tgt := 50) (n := 15) (de_if_eq (B 12 _ rfl) (B 13 _ rfl) (B 14 _ rfl)) rfl rfl (fun c_12 => ?_) (fun c_12 => ?_)
        · refine Vw.iload_n (de_iload_2 (B 50 _ rfl)) 2 rfl (n := 51) rfl ?_
          exact Vw.zret (de_ireturn (B 51 _ rfl)) rfl (by rcases hx.2.1 with q | q <;> rw [q] <;> rfl) ⟨_, rfl, (h x b1 hx)⟩
        exact absurd rfl c_12
      · have hc : cd j0 = 8 := by simpa [opA] using ho
        have hlt := hE.lt hj (by rw [hc]; decide)
        have hj3 := hX _ _ _ _ _ hlt hx3
        have hb1 : b1 = 0 ∨ b1 = 1 := by rw [hx.1]; exact evB_01 hb
        have step : ∀ lw : Int32, (lw = 0 ∨ lw = 1) → lw = (if lv = 0 then 0 else if x = 0 then 0 else 1) → Vw mX12_bothOf (d + (D + 5)) 0 0 0 0 (ViQ Q) 29 [(0, .ref r), (1, .int lv), (2, .int x)] [.int lw, .ref r] S (em I r (nI (bs + (j0 + 1))) b1) L := by
          intro lw hlw01 hlw
          refine Vw.ivi1 (mi' := mX12_plainOf) (de_invokevirtual (B 29 _ rfl) (B 30 _ rfl) (B 31 _ rfl)) ml_X12_309 mv_X12_plainOf hM.k (Nat.le_of_ble_eq_true rfl) (n := 32) rfl (hS _ _ _ _ _ _ _ _ _ _ _ _ _ _ _ _ _ _ _ _ hM hE hN hlt hx3 hlw01 hb1 (fun y b2 hy => ?_))
          · refine Vw.istore_n (lv2 := [(0, _), (1, _), (2, _), (3, _)]) (de_istore_3 (B 32 _ rfl)) rfl (by decide) [1, 2, 3, 0] rfl (n := 33) rfl ?_
            refine Vw.iload_n (de_iload_2 (B 33 _ rfl)) 2 rfl (n := 34) rfl ?_
            refine Vw.if_eq (tgt := 45) (n := 37) (de_if_eq (B 34 _ rfl) (B 35 _ rfl) (B 36 _ rfl)) rfl rfl (fun c_34 => ?_) (fun c_34 => ?_)
            · refine Vw.iconst (v := 0) (de_iconst_0 (B 45 _ rfl)) rfl (n := 46) rfl ?_
              refine Vw.istore_n (lv2 := [(0, _), (1, _), (2, _), (3, _)]) (de_istore_2 (B 46 _ rfl)) rfl (by decide) [1, 2, 0, 3] rfl (n := 47) rfl ?_
              refine Vw.goto_ (n := 6) (de_goto_ (B 47 _ rfl) (B 48 _ rfl) (B 49 _ rfl)) rfl ?_
              refine Vw.lvs (lv2 := [(0, _), (1, _), (2, _)]) [0, 1, 2] rfl ?_
              first
              | exact ih j3 l3 _ 0 b2 hj3.2 (by omega) hc3 (evT_and hlv hb hx hlw hy (by rw [if_pos c_34]))
              | exact ih j3 l3 _ 0 b2 hj3.2 (by omega) hc3 (evT_and hlv hb hx hlw hy (by rw [if_neg c_34, if_pos c_38]))
              | exact ih j3 l3 _ 1 b2 hj3.2 (by omega) hc3 (evT_and hlv hb hx hlw hy (by rw [if_neg c_34, if_neg c_38]))
            refine Vw.iload_n (de_iload_3 (B 37 _ rfl)) 3 rfl (n := 38) rfl ?_
            refine Vw.if_eq (tgt := 45) (n := 41) (de_if_eq (B 38 _ rfl) (B 39 _ rfl) (B 40 _ rfl)) rfl rfl (fun c_38 => ?_) (fun c_38 => ?_)
            · refine Vw.iconst (v := 0) (de_iconst_0 (B 45 _ rfl)) rfl (n := 46) rfl ?_
              refine Vw.istore_n (lv2 := [(0, _), (1, _), (2, _), (3, _)]) (de_istore_2 (B 46 _ rfl)) rfl (by decide) [1, 2, 0, 3] rfl (n := 47) rfl ?_
              refine Vw.goto_ (n := 6) (de_goto_ (B 47 _ rfl) (B 48 _ rfl) (B 49 _ rfl)) rfl ?_
              refine Vw.lvs (lv2 := [(0, _), (1, _), (2, _)]) [0, 1, 2] rfl ?_
              first
              | exact ih j3 l3 _ 0 b2 hj3.2 (by omega) hc3 (evT_and hlv hb hx hlw hy (by rw [if_pos c_34]))
              | exact ih j3 l3 _ 0 b2 hj3.2 (by omega) hc3 (evT_and hlv hb hx hlw hy (by rw [if_neg c_34, if_pos c_38]))
              | exact ih j3 l3 _ 1 b2 hj3.2 (by omega) hc3 (evT_and hlv hb hx hlw hy (by rw [if_neg c_34, if_neg c_38]))
            refine Vw.iconst (v := 1) (de_iconst_1 (B 41 _ rfl)) rfl (n := 42) rfl ?_
            refine Vw.goto_ (n := 46) (de_goto_ (B 42 _ rfl) (B 43 _ rfl) (B 44 _ rfl)) rfl ?_
            refine Vw.istore_n (lv2 := [(0, _), (1, _), (2, _), (3, _)]) (de_istore_2 (B 46 _ rfl)) rfl (by decide) [1, 2, 0, 3] rfl (n := 47) rfl ?_
            refine Vw.goto_ (n := 6) (de_goto_ (B 47 _ rfl) (B 48 _ rfl) (B 49 _ rfl)) rfl ?_
            refine Vw.lvs (lv2 := [(0, _), (1, _), (2, _)]) [0, 1, 2] rfl ?_
            first
            | exact ih j3 l3 _ 0 b2 hj3.2 (by omega) hc3 (evT_and hlv hb hx hlw hy (by rw [if_pos c_34]))
            | exact ih j3 l3 _ 0 b2 hj3.2 (by omega) hc3 (evT_and hlv hb hx hlw hy (by rw [if_neg c_34, if_pos c_38]))
            | exact ih j3 l3 _ 1 b2 hj3.2 (by omega) hc3 (evT_and hlv hb hx hlw hy (by rw [if_neg c_34, if_neg c_38]))
        refine Vw.aload_n (de_aload_0 (B 6 _ rfl)) 0 rfl (n := 7) rfl ?_
        refine Vw.bipush (v := 8) (de_bipush (B 7 _ rfl) (B 8 _ rfl)) rfl (n := 9) rfl ?_
        refine Vw.ivi1 (mi' := mX12_passes0) (de_invokevirtual (B 9 _ rfl) (B 10 _ rfl) (B 11 _ rfl)) ml_X12_294 mv_X12_passes0 hM.k (Nat.le_of_ble_eq_true rfl) (n := 12) rfl (c_X12_passes0 hM hE hj (fun _ => ?_) (fun q => absurd hc q))
        refine Vw.if_eq (tgt := 50) (n := 15) (de_if_eq (B 12 _ rfl) (B 13 _ rfl) (B 14 _ rfl)) rfl rfl (fun c_12 => ?_) (fun c_12 => ?_)
        · exact absurd c_12 (by decide)
        refine Vw.aload_n (de_aload_0 (B 15 _ rfl)) 0 rfl (n := 16) rfl ?_
        refine Vw.iload_n (de_iload_1 (B 16 _ rfl)) 1 rfl (n := 17) rfl ?_
        refine Vw.if_eq (tgt := 28) (n := 20) (de_if_eq (B 17 _ rfl) (B 18 _ rfl) (B 19 _ rfl)) rfl rfl (fun c_17 => ?_) (fun c_17 => ?_)
        · refine Vw.iconst (v := 0) (de_iconst_0 (B 28 _ rfl)) rfl (n := 29) rfl ?_
          first
          | exact step 0 (Or.inl rfl) (by rw [if_pos c_17])
          | exact step 0 (Or.inl rfl) (by rw [if_neg c_17, if_pos c_21])
          | exact step 1 (Or.inr rfl) (by rw [if_neg c_17, if_neg c_21])
        refine Vw.iload_n (de_iload_2 (B 20 _ rfl)) 2 rfl (n := 21) rfl ?_
        refine Vw.if_eq (tgt := 28) (n := 24) (de_if_eq (B 21 _ rfl) (B 22 _ rfl) (B 23 _ rfl)) rfl rfl (fun c_21 => ?_) (fun c_21 => ?_)
        · refine Vw.iconst (v := 0) (de_iconst_0 (B 28 _ rfl)) rfl (n := 29) rfl ?_
          first
          | exact step 0 (Or.inl rfl) (by rw [if_pos c_17])
          | exact step 0 (Or.inl rfl) (by rw [if_neg c_17, if_pos c_21])
          | exact step 1 (Or.inr rfl) (by rw [if_neg c_17, if_neg c_21])
        refine Vw.iconst (v := 1) (de_iconst_1 (B 24 _ rfl)) rfl (n := 25) rfl ?_
        refine Vw.goto_ (n := 29) (de_goto_ (B 25 _ rfl) (B 26 _ rfl) (B 27 _ rfl)) rfl ?_
        first
        | exact step 0 (Or.inl rfl) (by rw [if_pos c_17])
        | exact step 0 (Or.inl rfl) (by rw [if_neg c_17, if_pos c_21])
        | exact step 1 (Or.inr rfl) (by rw [if_neg c_17, if_neg c_21])
  obtain ⟨j0, l0, d0, hx0, hc0⟩ := pMany_inv hP
  have hj0 := hX _ _ _ _ _ hi hx0
  refine Vw.aload_n (de_aload_0 (B 0 _ rfl)) 0 rfl (n := 1) rfl ?_
  refine Vw.iload_n (de_iload_1 (B 1 _ rfl)) 1 rfl (n := 2) rfl ?_
  refine Vw.ivi1 (mi' := mX12_plainOf) (de_invokevirtual (B 2 _ rfl) (B 3 _ rfl) (B 4 _ rfl)) ml_X12_309 mv_X12_plainOf hM.k (Nat.le_of_ble_eq_true rfl) (n := 5) rfl (hS _ _ _ _ _ _ _ _ _ _ _ _ _ _ _ _ _ _ _ _ hM hE hN hi hx0 hlv hb (fun x b2 hx => ?_))
  · refine Vw.istore_n (lv2 := [(0, _), (1, _), (2, _)]) (de_istore_2 (B 5 _ rfl)) rfl (by decide) [1, 2, 0] rfl (n := 6) rfl ?_
    exact loop 402 j0 l0 d0 x b2 hj0.2 (by omega) hc0 hx
theorem et_test {D : Nat} {P : (Nat → Int32) → (Nat → Int32) → Bool → Nat → Nat → tR tD} (hB : ∀ cd vl o nt, cd nt = 0 → Bd nt (P cd vl o)) (hS : ET mX12_bothOf (D + 5) P) : ET mX12_testOf (D + 6) (fun cd vl o => pMany cd opO (fun _ => tOr) (P cd vl o)) := by
  intro d S I L Q r bs nt np cd vl o nv i l j l2 dn lv b hM hE hN hi hP hlv hb h
  refine Vc.of rfl (Nat.le_of_ble_eq_true rfl) ?_
  have B := bs_X12_testOf
  show Vw mX12_testOf (d + (D + 6)) 0 0 0 0 (ViQ Q) 0 [(0, .ref r), (1, .int lv)] [] S (em I r (nI (bs + i)) b) L
  have hE2 := hE.2.2
  have hX := hB cd vl o nt hE.2.1
  have loop : ∀ f j0 l0 d0 x b1, j0 ≤ nt → nt < j0 + f → pChain cd opO (fun _ => tOr) (P cd vl o) f j0 l0 d0 = .ok (j, l2, dn) → evT lv b d0 nv x b1 → Vw mX12_testOf (d + (D + 6)) 0 0 0 0 (ViQ Q) 6 [(0, .ref r), (1, .int lv), (2, .int x)] [] S (em I r (nI (bs + j0)) b1) L := by
    intro f
    induction f with
    | zero => intro j0 l0 d0 x b1 h1 h2; exact absurd h2 (by omega)
    | succ f ih =>
      intro j0 l0 d0 x b1 hj hf hC hx
      rcases pChain_inv hC with ⟨ho, e1, e2, e3⟩ | ⟨ho, j3, l3, d3, hx3, hc3⟩
      · subst e1; subst e3
        have n1 : ¬ cd j0 = 7 := fun q => ho (by rw [q]; decide)
        refine Vw.aload_n (de_aload_0 (B 6 _ rfl)) 0 rfl (n := 7) rfl ?_
        refine Vw.bipush (v := 7) (de_bipush (B 7 _ rfl) (B 8 _ rfl)) rfl (n := 9) rfl ?_
        refine Vw.ivi1 (mi' := mX12_passes0) (de_invokevirtual (B 9 _ rfl) (B 10 _ rfl) (B 11 _ rfl)) ml_X12_294 mv_X12_passes0 hM.k (Nat.le_of_ble_eq_true rfl) (n := 12) rfl (c_X12_passes0 hM hE hj (fun q => absurd q n1) (fun _ => ?_))
        refine Vw.if_eq (tgt := 50) (n := 15) (de_if_eq (B 12 _ rfl) (B 13 _ rfl) (B 14 _ rfl)) rfl rfl (fun c_12 => ?_) (fun c_12 => ?_)
        · refine Vw.iload_n (de_iload_2 (B 50 _ rfl)) 2 rfl (n := 51) rfl ?_
          exact Vw.zret (de_ireturn (B 51 _ rfl)) rfl (by rcases hx.2.1 with q | q <;> rw [q] <;> rfl) ⟨_, rfl, (h x b1 hx)⟩
        exact absurd rfl c_12
      · have hc : cd j0 = 7 := by simpa [opO] using ho
        have hlt := hE.lt hj (by rw [hc]; decide)
        have hj3 := hX _ _ _ _ _ hlt hx3
        have hb1 : b1 = 0 ∨ b1 = 1 := by rw [hx.1]; exact evB_01 hb
        have step : ∀ lw : Int32, (lw = 0 ∨ lw = 1) → lw = (if lv = 0 then 0 else if x = 0 then 1 else 0) → Vw mX12_testOf (d + (D + 6)) 0 0 0 0 (ViQ Q) 29 [(0, .ref r), (1, .int lv), (2, .int x)] [.int lw, .ref r] S (em I r (nI (bs + (j0 + 1))) b1) L := by
          intro lw hlw01 hlw
          refine Vw.ivi1 (mi' := mX12_bothOf) (de_invokevirtual (B 29 _ rfl) (B 30 _ rfl) (B 31 _ rfl)) ml_X12_305 mv_X12_bothOf hM.k (Nat.le_of_ble_eq_true rfl) (n := 32) rfl (hS _ _ _ _ _ _ _ _ _ _ _ _ _ _ _ _ _ _ _ _ hM hE hN hlt hx3 hlw01 hb1 (fun y b2 hy => ?_))
          · refine Vw.istore_n (lv2 := [(0, _), (1, _), (2, _), (3, _)]) (de_istore_3 (B 32 _ rfl)) rfl (by decide) [1, 2, 3, 0] rfl (n := 33) rfl ?_
            refine Vw.iload_n (de_iload_2 (B 33 _ rfl)) 2 rfl (n := 34) rfl ?_
            refine Vw.if_ne (tgt := 41) (n := 37) (de_if_ne (B 34 _ rfl) (B 35 _ rfl) (B 36 _ rfl)) rfl rfl (fun c_34 => ?_) (fun c_34 => ?_)
            · refine Vw.iconst (v := 1) (de_iconst_1 (B 41 _ rfl)) rfl (n := 42) rfl ?_
              refine Vw.goto_ (n := 46) (de_goto_ (B 42 _ rfl) (B 43 _ rfl) (B 44 _ rfl)) rfl ?_
              refine Vw.istore_n (lv2 := [(0, _), (1, _), (2, _), (3, _)]) (de_istore_2 (B 46 _ rfl)) rfl (by decide) [1, 2, 0, 3] rfl (n := 47) rfl ?_
              refine Vw.goto_ (n := 6) (de_goto_ (B 47 _ rfl) (B 48 _ rfl) (B 49 _ rfl)) rfl ?_
              refine Vw.lvs (lv2 := [(0, _), (1, _), (2, _)]) [0, 1, 2] rfl ?_
              first
              | exact ih j3 l3 _ 1 b2 hj3.2 (by omega) hc3 (evT_or hlv hb hx hlw hy (by rw [if_neg c_34]))
              | exact ih j3 l3 _ 0 b2 hj3.2 (by omega) hc3 (evT_or hlv hb hx hlw hy (by rw [if_pos c_34, if_pos c_38]))
              | exact ih j3 l3 _ 1 b2 hj3.2 (by omega) hc3 (evT_or hlv hb hx hlw hy (by rw [if_pos c_34, if_neg c_38]))
            refine Vw.iload_n (de_iload_3 (B 37 _ rfl)) 3 rfl (n := 38) rfl ?_
            refine Vw.if_eq (tgt := 45) (n := 41) (de_if_eq (B 38 _ rfl) (B 39 _ rfl) (B 40 _ rfl)) rfl rfl (fun c_38 => ?_) (fun c_38 => ?_)
            · refine Vw.iconst (v := 0) (de_iconst_0 (B 45 _ rfl)) rfl (n := 46) rfl ?_
              refine Vw.istore_n (lv2 := [(0, _), (1, _), (2, _), (3, _)]) (de_istore_2 (B 46 _ rfl)) rfl (by decide) [1, 2, 0, 3] rfl (n := 47) rfl ?_
              refine Vw.goto_ (n := 6) (de_goto_ (B 47 _ rfl) (B 48 _ rfl) (B 49 _ rfl)) rfl ?_
              refine Vw.lvs (lv2 := [(0, _), (1, _), (2, _)]) [0, 1, 2] rfl ?_
              first
              | exact ih j3 l3 _ 1 b2 hj3.2 (by omega) hc3 (evT_or hlv hb hx hlw hy (by rw [if_neg c_34]))
              | exact ih j3 l3 _ 0 b2 hj3.2 (by omega) hc3 (evT_or hlv hb hx hlw hy (by rw [if_pos c_34, if_pos c_38]))
              | exact ih j3 l3 _ 1 b2 hj3.2 (by omega) hc3 (evT_or hlv hb hx hlw hy (by rw [if_pos c_34, if_neg c_38]))
            refine Vw.iconst (v := 1) (de_iconst_1 (B 41 _ rfl)) rfl (n := 42) rfl ?_
            refine Vw.goto_ (n := 46) (de_goto_ (B 42 _ rfl) (B 43 _ rfl) (B 44 _ rfl)) rfl ?_
            refine Vw.istore_n (lv2 := [(0, _), (1, _), (2, _), (3, _)]) (de_istore_2 (B 46 _ rfl)) rfl (by decide) [1, 2, 0, 3] rfl (n := 47) rfl ?_
            refine Vw.goto_ (n := 6) (de_goto_ (B 47 _ rfl) (B 48 _ rfl) (B 49 _ rfl)) rfl ?_
            refine Vw.lvs (lv2 := [(0, _), (1, _), (2, _)]) [0, 1, 2] rfl ?_
            first
            | exact ih j3 l3 _ 1 b2 hj3.2 (by omega) hc3 (evT_or hlv hb hx hlw hy (by rw [if_neg c_34]))
            | exact ih j3 l3 _ 0 b2 hj3.2 (by omega) hc3 (evT_or hlv hb hx hlw hy (by rw [if_pos c_34, if_pos c_38]))
            | exact ih j3 l3 _ 1 b2 hj3.2 (by omega) hc3 (evT_or hlv hb hx hlw hy (by rw [if_pos c_34, if_neg c_38]))
        refine Vw.aload_n (de_aload_0 (B 6 _ rfl)) 0 rfl (n := 7) rfl ?_
        refine Vw.bipush (v := 7) (de_bipush (B 7 _ rfl) (B 8 _ rfl)) rfl (n := 9) rfl ?_
        refine Vw.ivi1 (mi' := mX12_passes0) (de_invokevirtual (B 9 _ rfl) (B 10 _ rfl) (B 11 _ rfl)) ml_X12_294 mv_X12_passes0 hM.k (Nat.le_of_ble_eq_true rfl) (n := 12) rfl (c_X12_passes0 hM hE hj (fun _ => ?_) (fun q => absurd hc q))
        refine Vw.if_eq (tgt := 50) (n := 15) (de_if_eq (B 12 _ rfl) (B 13 _ rfl) (B 14 _ rfl)) rfl rfl (fun c_12 => ?_) (fun c_12 => ?_)
        · exact absurd c_12 (by decide)
        refine Vw.aload_n (de_aload_0 (B 15 _ rfl)) 0 rfl (n := 16) rfl ?_
        refine Vw.iload_n (de_iload_1 (B 16 _ rfl)) 1 rfl (n := 17) rfl ?_
        refine Vw.if_eq (tgt := 28) (n := 20) (de_if_eq (B 17 _ rfl) (B 18 _ rfl) (B 19 _ rfl)) rfl rfl (fun c_17 => ?_) (fun c_17 => ?_)
        · refine Vw.iconst (v := 0) (de_iconst_0 (B 28 _ rfl)) rfl (n := 29) rfl ?_
          first
          | exact step 0 (Or.inl rfl) (by rw [if_pos c_17])
          | exact step 0 (Or.inl rfl) (by rw [if_neg c_17, if_neg c_21])
          | exact step 1 (Or.inr rfl) (by rw [if_neg c_17, if_pos c_21])
        refine Vw.iload_n (de_iload_2 (B 20 _ rfl)) 2 rfl (n := 21) rfl ?_
        refine Vw.if_ne (tgt := 28) (n := 24) (de_if_ne (B 21 _ rfl) (B 22 _ rfl) (B 23 _ rfl)) rfl rfl (fun c_21 => ?_) (fun c_21 => ?_)
        · refine Vw.iconst (v := 0) (de_iconst_0 (B 28 _ rfl)) rfl (n := 29) rfl ?_
          first
          | exact step 0 (Or.inl rfl) (by rw [if_pos c_17])
          | exact step 0 (Or.inl rfl) (by rw [if_neg c_17, if_neg c_21])
          | exact step 1 (Or.inr rfl) (by rw [if_neg c_17, if_pos c_21])
        refine Vw.iconst (v := 1) (de_iconst_1 (B 24 _ rfl)) rfl (n := 25) rfl ?_
        refine Vw.goto_ (n := 29) (de_goto_ (B 25 _ rfl) (B 26 _ rfl) (B 27 _ rfl)) rfl ?_
        first
        | exact step 0 (Or.inl rfl) (by rw [if_pos c_17])
        | exact step 0 (Or.inl rfl) (by rw [if_neg c_17, if_neg c_21])
        | exact step 1 (Or.inr rfl) (by rw [if_neg c_17, if_pos c_21])
  obtain ⟨j0, l0, d0, hx0, hc0⟩ := pMany_inv hP
  have hj0 := hX _ _ _ _ _ hi hx0
  refine Vw.aload_n (de_aload_0 (B 0 _ rfl)) 0 rfl (n := 1) rfl ?_
  refine Vw.iload_n (de_iload_1 (B 1 _ rfl)) 1 rfl (n := 2) rfl ?_
  refine Vw.ivi1 (mi' := mX12_bothOf) (de_invokevirtual (B 2 _ rfl) (B 3 _ rfl) (B 4 _ rfl)) ml_X12_305 mv_X12_bothOf hM.k (Nat.le_of_ble_eq_true rfl) (n := 5) rfl (hS _ _ _ _ _ _ _ _ _ _ _ _ _ _ _ _ _ _ _ _ hM hE hN hi hx0 hlv hb (fun x b2 hx => ?_))
  · refine Vw.istore_n (lv2 := [(0, _), (1, _), (2, _)]) (de_istore_2 (B 5 _ rfl)) rfl (by decide) [1, 2, 0] rfl (n := 6) rfl ?_
    exact loop 402 j0 l0 d0 x b2 hj0.2 (by omega) hc0 hx
theorem et_tests : ∀ m, ET mX12_testOf (4 * m + 9) (fun cd vl o => pTest cd vl o m) := by
  intro m
  induction m with
  | zero =>
    have h1 := et_pos0 (D := 3) (fun cd vl o nt h => Bd_sum h 0) (ec_sums 0)
    exact et_test (D := 3) (fun cd vl o nt h => Bd_many h (by decide) (Bd_plain h (fun f e => by cases e) (Bd_sum h 0))) (et_both (D := 3) (fun cd vl o nt h => Bd_plain h (fun f e => by cases e) (Bd_sum h 0)) (et_plain (D := 3) (inn := fun _ _ _ => none) h1))
  | succ m ih =>
    have hs : EC mX12_sumOf (4 * m + 7 + 2) (fun cd vl o => pSum cd vl o (m + 1)) := by
      have := (ec_sums (m + 1)).up (m + 1)
      rw [show 3 * (m + 1) + 5 + (m + 1) = 4 * m + 7 + 2 by omega] at this
      exact this
    have h1 := et_posS (D := 4 * m + 7) (fun cd vl o nt h => Bd_sum h (m + 1)) (fun cd vl o nt h => Bd_test h m) hs ih
    have h2 := et_test (D := 4 * m + 7) (fun cd vl o nt h => Bd_many h (by decide) (Bd_plain h (fun f e => by cases e; exact Bd_test h m) (Bd_sum h (m + 1)))) (et_both (D := 4 * m + 7) (fun cd vl o nt h => Bd_plain h (fun f e => by cases e; exact Bd_test h m) (Bd_sum h (m + 1))) (et_plain (D := 4 * m + 7) (inn := fun cd vl o => some (pTest cd vl o m)) h1))
    rw [show 4 * (m + 1) + 9 = 4 * m + 7 + 6 by omega]
    exact h2
