section PQ
variable {cd : Nat → Int32} {inn : Option (Nat → Nat → tR tD)} {sum f : Nat → Nat → tR tD} {i l j l2 e j2 l3 : Nat} {dn d2 : tD}
theorem pPos_b0 (h1 : cd i = 140) : pPos cd none sum i l = .error i := by unfold pPos; rw [if_pos h1]
theorem pPos_b (h1 : cd i = 140) (h2 : f (i + 1) l = .ok (j, l2, dn)) (h3 : cd j = 141) : pPos cd (some f) sum i l = .ok (j + 1, l2, dn) := by unfold pPos; rw [if_pos h1]; simp only [h2]; rw [if_pos h3]
theorem pPos_be (h1 : cd i = 140) (h2 : f (i + 1) l = .ok (j, l2, dn)) (h3 : ¬ cd j = 141) : pPos cd (some f) sum i l = .error j := by unfold pPos; rw [if_pos h1]; simp only [h2]; rw [if_neg h3]
theorem pPos_bf (h1 : cd i = 140) (h2 : f (i + 1) l = .error e) : pPos cd (some f) sum i l = .error e := by unfold pPos; rw [if_pos h1]; simp only [h2]
theorem pPos_s0 (h1 : ¬ cd i = 140) (h2 : sum i l = .error e) : pPos cd inn sum i l = .error e := by unfold pPos; rw [if_neg h1]; simp only [h2]
theorem pPos_s1 (h1 : ¬ cd i = 140) (h2 : sum i l = .ok (j, l2, dn)) (h3 : ¬ isCmp (cd j) = true) : pPos cd inn sum i l = .error j := by unfold pPos; rw [if_neg h1]; simp only [h2]; rw [if_neg h3]
theorem pPos_s2 (h1 : ¬ cd i = 140) (h2 : sum i l = .ok (j, l2, dn)) (h3 : isCmp (cd j) = true) (h4 : sum (j + 1) l2 = .error e) : pPos cd inn sum i l = .error e := by unfold pPos; rw [if_neg h1]; simp only [h2]; rw [if_pos h3]; simp only [h4]
theorem pPos_s3 (h1 : ¬ cd i = 140) (h2 : sum i l = .ok (j, l2, dn)) (h3 : isCmp (cd j) = true) (h4 : sum (j + 1) l2 = .ok (j2, l3, d2)) : pPos cd inn sum i l = .ok (j2, l3, tCmp (cd j) dn d2) := by unfold pPos; rw [if_neg h1]; simp only [h2]; rw [if_pos h3]; simp only [h4]
theorem pPlain_e {j0 : Nat} {b0 : Bool} (hn : pNots cd 402 i false = (j0, b0)) (h : pPos cd inn sum j0 l = .error e) : pPlain cd inn sum i l = .error e := by unfold pPlain; rw [hn]; simp only [h]
theorem pPlain_o {j0 : Nat} {b0 : Bool} (hn : pNots cd 402 i false = (j0, b0)) (h : pPos cd inn sum j0 l = .ok (j, l2, dn)) : pPlain cd inn sum i l = .ok (j, l2, if b0 = true then tNot dn else dn) := by unfold pPlain; rw [hn]; simp only [h]
end PQ
theorem rn_X12_readPlain : RN mX12_readPlain 2 := by
  intro d S I L Q r t l b x hM hb h
  refine Vc.of rfl (Nat.le_of_ble_eq_true rfl) ?_
  have B := bs_X12_readPlain
  show Vw mX12_readPlain (d + 2) 0 0 0 0 (VvQ Q) 0 [(0, .ref r), (1, .int x)] [] S (pm I r t l b) L
  refine Vw.iconst (v := 1) (de_iconst_1 (B 0 _ rfl)) rfl (n := 1) rfl ?_
  refine Vw.istore_n (lv2 := [(0, _), (1, _), (2, _)]) (de_istore_2 (B 1 _ rfl)) rfl (by decide) [1, 2, 0] rfl (n := 2) rfl ?_
  refine Vw.iload_n (de_iload_2 (B 2 _ rfl)) 2 rfl (n := 3) rfl ?_
  refine Vw.if_eq (tgt := 16) (n := 6) (de_if_eq (B 3 _ rfl) (B 4 _ rfl) (B 5 _ rfl)) rfl rfl (fun c_3 => ?_) (fun c_3 => ?_)
  · exact absurd c_3 (by decide)
  refine Vw.aload_n (de_aload_0 (B 6 _ rfl)) 0 rfl (n := 7) rfl ?_
  refine Vw.bipush (v := 9) (de_bipush (B 7 _ rfl) (B 8 _ rfl)) rfl (n := 9) rfl ?_
  refine Vw.ivi1 (mi' := mX12_takes0) (de_invokevirtual (B 9 _ rfl) (B 10 _ rfl) (B 11 _ rfl)) ml_X12_198 mv_X12_takes0 hM.k (Nat.le_of_ble_eq_true rfl) (n := 12) rfl (c_X12_takes0_nf hM hb ?_)
  · refine Vw.istore_n (lv2 := [(0, _), (1, _), (2, _)]) (de_istore_2 (B 12 _ rfl)) rfl (by decide) [1, 2, 0] rfl (n := 13) rfl ?_
    refine Vw.goto_ (n := 2) (de_goto_ (B 13 _ rfl) (B 14 _ rfl) (B 15 _ rfl)) rfl ?_
    refine Vw.iload_n (de_iload_2 (B 2 _ rfl)) 2 rfl (n := 3) rfl ?_
    refine Vw.if_eq (tgt := 16) (n := 6) (de_if_eq (B 3 _ rfl) (B 4 _ rfl) (B 5 _ rfl)) rfl rfl (fun c_3 => ?_) (fun c_3 => ?_)
    · refine Vw.aload_n (de_aload_0 (B 16 _ rfl)) 0 rfl (n := 17) rfl ?_
      refine Vw.ivi0 (mi' := mX12_fine) (de_invokevirtual (B 17 _ rfl) (B 18 _ rfl) (B 19 _ rfl)) ml_X12_191 mv_X12_fine hM.k (Nat.le_of_ble_eq_true rfl) (n := 20) rfl (c_X12_fine hM ?_)
      refine Vw.if_ne (tgt := 24) (n := 23) (de_if_ne (B 20 _ rfl) (B 21 _ rfl) (B 22 _ rfl)) rfl rfl (fun c_20 => ?_) (fun c_20 => ?_)
      · exact absurd (zF0 hb) c_20
      exact Vw.vret (de_return_ (B 23 _ rfl)) rfl ⟨rfl, h⟩
    exact absurd rfl c_3
theorem rn_X12_readBoth : RN mX12_readBoth 3 := by
  intro d S I L Q r t l b x hM hb h
  refine Vc.of rfl (Nat.le_of_ble_eq_true rfl) ?_
  have B := bs_X12_readBoth
  show Vw mX12_readBoth (d + 3) 0 0 0 0 (VvQ Q) 0 [(0, .ref r), (1, .int x)] [] S (pm I r t l b) L
  refine Vw.aload_n (de_aload_0 (B 0 _ rfl)) 0 rfl (n := 1) rfl ?_
  refine Vw.iload_n (de_iload_1 (B 1 _ rfl)) 1 rfl (n := 2) rfl ?_
  refine Vw.ivv1 (mi' := mX12_readPlain) (de_invokevirtual (B 2 _ rfl) (B 3 _ rfl) (B 4 _ rfl)) ml_X12_236 mv_X12_readPlain hM.k (Nat.le_of_ble_eq_true rfl) (n := 5) rfl (rn_X12_readPlain _ _ _ _ _ _ _ _ _ _ hM hb ?_)
  refine Vw.aload_n (de_aload_0 (B 5 _ rfl)) 0 rfl (n := 6) rfl ?_
  refine Vw.bipush (v := 8) (de_bipush (B 6 _ rfl) (B 7 _ rfl)) rfl (n := 8) rfl ?_
  refine Vw.ivi1 (mi' := mX12_takes0) (de_invokevirtual (B 8 _ rfl) (B 9 _ rfl) (B 10 _ rfl)) ml_X12_198 mv_X12_takes0 hM.k (Nat.le_of_ble_eq_true rfl) (n := 11) rfl (c_X12_takes0_nf hM hb ?_)
  refine Vw.if_eq (tgt := 22) (n := 14) (de_if_eq (B 11 _ rfl) (B 12 _ rfl) (B 13 _ rfl)) rfl rfl (fun c_11 => ?_) (fun c_11 => ?_)
  · exact Vw.vret (de_return_ (B 22 _ rfl)) rfl ⟨rfl, h⟩
  exact absurd rfl c_11
theorem rn_X12_readTest : RN mX12_readTest 4 := by
  intro d S I L Q r t l b x hM hb h
  refine Vc.of rfl (Nat.le_of_ble_eq_true rfl) ?_
  have B := bs_X12_readTest
  show Vw mX12_readTest (d + 4) 0 0 0 0 (VvQ Q) 0 [(0, .ref r), (1, .int x)] [] S (pm I r t l b) L
  refine Vw.aload_n (de_aload_0 (B 0 _ rfl)) 0 rfl (n := 1) rfl ?_
  refine Vw.iload_n (de_iload_1 (B 1 _ rfl)) 1 rfl (n := 2) rfl ?_
  refine Vw.ivv1 (mi' := mX12_readBoth) (de_invokevirtual (B 2 _ rfl) (B 3 _ rfl) (B 4 _ rfl)) ml_X12_233 mv_X12_readBoth hM.k (Nat.le_of_ble_eq_true rfl) (n := 5) rfl (rn_X12_readBoth _ _ _ _ _ _ _ _ _ _ hM hb ?_)
  refine Vw.aload_n (de_aload_0 (B 5 _ rfl)) 0 rfl (n := 6) rfl ?_
  refine Vw.bipush (v := 7) (de_bipush (B 6 _ rfl) (B 7 _ rfl)) rfl (n := 8) rfl ?_
  refine Vw.ivi1 (mi' := mX12_takes0) (de_invokevirtual (B 8 _ rfl) (B 9 _ rfl) (B 10 _ rfl)) ml_X12_198 mv_X12_takes0 hM.k (Nat.le_of_ble_eq_true rfl) (n := 11) rfl (c_X12_takes0_nf hM hb ?_)
  refine Vw.if_eq (tgt := 22) (n := 14) (de_if_eq (B 11 _ rfl) (B 12 _ rfl) (B 13 _ rfl)) rfl rfl (fun c_11 => ?_) (fun c_11 => ?_)
  · exact Vw.vret (de_return_ (B 22 _ rfl)) rfl ⟨rfl, h⟩
  exact absurd rfl c_11
theorem rc_plain0 {D : Nat} {U : (Nat → Int32) → (Nat → Int32) → Bool → Nat → Nat → tR tD} (hU : RC mX12_readSum (D + 5) 8 U) : RC mX12_readPlain (D + 6) 8 (fun cd vl o => pPlain cd none (U cd vl o)) := by
  intro d S I L Q r nt i l hM hp hi hl hok her
  refine Vc.of rfl (Nat.le_of_ble_eq_true rfl) ?_
  have B := bs_X12_readPlain
  show Vw mX12_readPlain (d + (D + 6)) 0 0 0 0 (VvQ Q) 0 [(0, .ref r), (1, .int (nI 8))] [] S (pm I r (nI i) (nI l) (-1)) L
  have pos : ∀ j, j ≤ nt → (∀ j2 l2 d2, pPos (I (r + 9)) none (U (I (r + 9)) (I (r + 10)) (decide (¬ I r 8 = 0))) j l = .ok (j2, l2, d2) → j ≤ j2 → j2 ≤ nt → l2 ≤ 50 → Q S (pm I r (nI j2) (nI l2) (-1)) L) → (∀ e t l2, pPos (I (r + 9)) none (U (I (r + 9)) (I (r + 10)) (decide (¬ I r 8 = 0))) j l = .error e → e ≤ nt → Q S (pm I r t l2 (I (r + 11) e)) L) → Vw mX12_readPlain (d + (D + 6)) 0 0 0 0 (VvQ Q) 16 [(0, .ref r), (1, .int (nI 8)), (2, .int 0)] [] S (pm I r (nI j) (nI l) (-1)) L := by
    intro j hj ho he
    refine Vw.aload_n (de_aload_0 (B 16 _ rfl)) 0 rfl (n := 17) rfl ?_
    refine Vw.ivi0 (mi' := mX12_fine) (de_invokevirtual (B 17 _ rfl) (B 18 _ rfl) (B 19 _ rfl)) ml_X12_191 mv_X12_fine hM.k (Nat.le_of_ble_eq_true rfl) (n := 20) rfl (c_X12_fine hM ?_)
    refine Vw.if_ne (tgt := 24) (n := 23) (de_if_ne (B 20 _ rfl) (B 21 _ rfl) (B 22 _ rfl)) rfl rfl (fun c_20 => ?_) (fun c_20 => ?_)
    · refine Vw.aload_n (de_aload_0 (B 24 _ rfl)) 0 rfl (n := 25) rfl ?_
      refine Vw.getR (de_getfield (B 25 _ rfl) (B 26 _ rfl) (B 27 _ rfl)) fl_X12_50 rfl hM.k (MS_code hM).1 (n := 28) rfl ?_
      refine Vw.aload_n (de_aload_0 (B 28 _ rfl)) 0 rfl (n := 29) rfl ?_
      refine Vw.getI (de_getfield (B 29 _ rfl) (B 30 _ rfl) (B 31 _ rfl)) fl_X12_195 rfl hM.k (n := 32) rfl ?_
      rw [pm_t]
      refine Vw.iald (de_iaload (B 32 _ rfl)) (MS_code hM).2 (vIx_nI (j := j) (by have := hp.1; omega) (by decide)) (n := 33) rfl ?_
      rw [pm_o (by omega)]
      refine Vw.istore_n (lv2 := [(0, _), (1, _), (2, _), (3, _)]) (de_istore_3 (B 33 _ rfl)) rfl (by decide) [1, 2, 3, 0] rfl (n := 34) rfl ?_
      refine Vw.iload_n (de_iload_3 (B 34 _ rfl)) 3 rfl (n := 35) rfl ?_
      refine Vw.bipush (v := 40) (de_bipush (B 35 _ rfl) (B 36 _ rfl)) rfl (n := 37) rfl ?_
      refine Vw.isi1 (mi' := mX12_sign) (de_invokestatic (B 37 _ rfl) (B 38 _ rfl) (B 39 _ rfl)) ml_X12_239 ms_X12_sign (Nat.le_of_ble_eq_true rfl) (n := 40) rfl (c_X12_sign ?_)
      rw [show (100 + 40 : Int32) = 140 from rfl]
      refine Vw.icmp_ne (tgt := 90) (n := 43) (de_icmp_ne (B 40 _ rfl) (B 41 _ rfl) (B 42 _ rfl)) rfl rfl (fun c_40 => ?_) (fun c_40 => ?_)
      · refine Vw.aload_n (de_aload_0 (B 90 _ rfl)) 0 rfl (n := 91) rfl ?_
        refine Vw.iload_n (de_iload_1 (B 91 _ rfl)) 1 rfl (n := 92) rfl ?_
        refine Vw.ivv1 (mi' := mX12_readSum) (de_invokevirtual (B 92 _ rfl) (B 93 _ rfl) (B 94 _ rfl)) ml_X12_211 mv_X12_readSum hM.k (Nat.le_of_ble_eq_true rfl) (n := 95) rfl (hU _ _ _ _ _ _ _ _ _ hM hp hj hl (fun j2 l2 d2 z1 z0 z2 z3 => ?_) (fun e t l2 z1 z2 => ?_))
        · refine Vw.aload_n (de_aload_0 (B 95 _ rfl)) 0 rfl (n := 96) rfl ?_
          refine Vw.bipush (v := 60) (de_bipush (B 96 _ rfl) (B 97 _ rfl)) rfl (n := 98) rfl ?_
          refine Vw.isi1 (mi' := mX12_sign) (de_invokestatic (B 98 _ rfl) (B 99 _ rfl) (B 100 _ rfl)) ml_X12_239 ms_X12_sign (Nat.le_of_ble_eq_true rfl) (n := 101) rfl (c_X12_sign ?_)
          rw [show (100 + 60 : Int32) = 160 from rfl]
          refine Vw.ivi1 (mi' := mX12_takes0) (de_invokevirtual (B 101 _ rfl) (B 102 _ rfl) (B 103 _ rfl)) ml_X12_198 mv_X12_takes0 hM.k (Nat.le_of_ble_eq_true rfl) (n := 104) rfl (c_X12_takes0 hM hp z2 (fun _ w1 => ?_) (fun w1 => ?_))
          · refine Vw.if_ne (tgt := 128) (n := 107) (de_if_ne (B 104 _ rfl) (B 105 _ rfl) (B 106 _ rfl)) rfl rfl (fun c_104 => ?_) (fun c_104 => ?_)
            · refine Vw.aload_n (de_aload_0 (B 128 _ rfl)) 0 rfl (n := 129) rfl ?_
              refine Vw.iload_n (de_iload_1 (B 129 _ rfl)) 1 rfl (n := 130) rfl ?_
              refine Vw.ivv1 (mi' := mX12_readSum) (de_invokevirtual (B 130 _ rfl) (B 131 _ rfl) (B 132 _ rfl)) ml_X12_211 mv_X12_readSum hM.k (Nat.le_of_ble_eq_true rfl) (n := 133) rfl (hU _ _ _ _ _ _ _ _ _ hM hp (lt_nt hp z2 w1 (by decide)) z3 (fun j3 l3 d3 y1 y0 y2 y3 => ?_) (fun e t l3 y1 y2 => ?_))
              · exact Vw.vret (de_return_ (B 133 _ rfl)) rfl ⟨rfl, (ho j3 l3 _ (pPos_s3 c_40 z1 (by rw [w1]; decide) y1) (by omega) y2 y3)⟩
              · exact Vw.vret (de_return_ (B 133 _ rfl)) rfl ⟨rfl, (he e _ _ (pPos_s2 c_40 z1 (by rw [w1]; decide) y1) y2)⟩
            exact absurd c_104 (by decide)
          · refine Vw.if_ne (tgt := 128) (n := 107) (de_if_ne (B 104 _ rfl) (B 105 _ rfl) (B 106 _ rfl)) rfl rfl (fun c_104 => ?_) (fun c_104 => ?_)
            · exact absurd rfl c_104
            refine Vw.aload_n (de_aload_0 (B 107 _ rfl)) 0 rfl (n := 108) rfl ?_
            refine Vw.bipush (v := 62) (de_bipush (B 108 _ rfl) (B 109 _ rfl)) rfl (n := 110) rfl ?_
            refine Vw.isi1 (mi' := mX12_sign) (de_invokestatic (B 110 _ rfl) (B 111 _ rfl) (B 112 _ rfl)) ml_X12_239 ms_X12_sign (Nat.le_of_ble_eq_true rfl) (n := 113) rfl (c_X12_sign ?_)
            rw [show (100 + 62 : Int32) = 162 from rfl]
            refine Vw.ivi1 (mi' := mX12_takes0) (de_invokevirtual (B 113 _ rfl) (B 114 _ rfl) (B 115 _ rfl)) ml_X12_198 mv_X12_takes0 hM.k (Nat.le_of_ble_eq_true rfl) (n := 116) rfl (c_X12_takes0 hM hp z2 (fun _ w2 => ?_) (fun w2 => ?_))
            · refine Vw.if_ne (tgt := 128) (n := 119) (de_if_ne (B 116 _ rfl) (B 117 _ rfl) (B 118 _ rfl)) rfl rfl (fun c_116 => ?_) (fun c_116 => ?_)
              · refine Vw.aload_n (de_aload_0 (B 128 _ rfl)) 0 rfl (n := 129) rfl ?_
                refine Vw.iload_n (de_iload_1 (B 129 _ rfl)) 1 rfl (n := 130) rfl ?_
                refine Vw.ivv1 (mi' := mX12_readSum) (de_invokevirtual (B 130 _ rfl) (B 131 _ rfl) (B 132 _ rfl)) ml_X12_211 mv_X12_readSum hM.k (Nat.le_of_ble_eq_true rfl) (n := 133) rfl (hU _ _ _ _ _ _ _ _ _ hM hp (lt_nt hp z2 w2 (by decide)) z3 (fun j3 l3 d3 y1 y0 y2 y3 => ?_) (fun e t l3 y1 y2 => ?_))
                · exact Vw.vret (de_return_ (B 133 _ rfl)) rfl ⟨rfl, (ho j3 l3 _ (pPos_s3 c_40 z1 (by rw [w2]; decide) y1) (by omega) y2 y3)⟩
                · exact Vw.vret (de_return_ (B 133 _ rfl)) rfl ⟨rfl, (he e _ _ (pPos_s2 c_40 z1 (by rw [w2]; decide) y1) y2)⟩
              exact absurd c_116 (by decide)
            · refine Vw.if_ne (tgt := 128) (n := 119) (de_if_ne (B 116 _ rfl) (B 117 _ rfl) (B 118 _ rfl)) rfl rfl (fun c_116 => ?_) (fun c_116 => ?_)
              · exact absurd rfl c_116
              refine Vw.aload_n (de_aload_0 (B 119 _ rfl)) 0 rfl (n := 120) rfl ?_
              refine Vw.bipush (v := 61) (de_bipush (B 120 _ rfl) (B 121 _ rfl)) rfl (n := 122) rfl ?_
              refine Vw.isi1 (mi' := mX12_sign) (de_invokestatic (B 122 _ rfl) (B 123 _ rfl) (B 124 _ rfl)) ml_X12_239 ms_X12_sign (Nat.le_of_ble_eq_true rfl) (n := 125) rfl (c_X12_sign ?_)
              rw [show (100 + 61 : Int32) = 161 from rfl]
              refine Vw.ivv1 (mi' := mX12_must) (de_invokevirtual (B 125 _ rfl) (B 126 _ rfl) (B 127 _ rfl)) ml_X12_214 mv_X12_must hM.k (Nat.le_of_ble_eq_true rfl) (n := 128) rfl (c_X12_must hM hp z2 (fun _ w3 => ?_) (fun _ w3 => ?_) (fun q => absurd rfl q))
              · refine Vw.aload_n (de_aload_0 (B 128 _ rfl)) 0 rfl (n := 129) rfl ?_
                refine Vw.iload_n (de_iload_1 (B 129 _ rfl)) 1 rfl (n := 130) rfl ?_
                refine Vw.ivv1 (mi' := mX12_readSum) (de_invokevirtual (B 130 _ rfl) (B 131 _ rfl) (B 132 _ rfl)) ml_X12_211 mv_X12_readSum hM.k (Nat.le_of_ble_eq_true rfl) (n := 133) rfl (hU _ _ _ _ _ _ _ _ _ hM hp (lt_nt hp z2 w3 (by decide)) z3 (fun j3 l3 d3 y1 y0 y2 y3 => ?_) (fun e t l3 y1 y2 => ?_))
                · exact Vw.vret (de_return_ (B 133 _ rfl)) rfl ⟨rfl, (ho j3 l3 _ (pPos_s3 c_40 z1 (by rw [w3]; decide) y1) (by omega) y2 y3)⟩
                · exact Vw.vret (de_return_ (B 133 _ rfl)) rfl ⟨rfl, (he e _ _ (pPos_s2 c_40 z1 (by rw [w3]; decide) y1) y2)⟩
              · refine Vw.aload_n (de_aload_0 (B 128 _ rfl)) 0 rfl (n := 129) rfl ?_
                refine Vw.iload_n (de_iload_1 (B 129 _ rfl)) 1 rfl (n := 130) rfl ?_
                refine Vw.ivv1 (mi' := mX12_readSum) (de_invokevirtual (B 130 _ rfl) (B 131 _ rfl) (B 132 _ rfl)) ml_X12_211 mv_X12_readSum hM.k (Nat.le_of_ble_eq_true rfl) (n := 133) rfl (rn_X12_readSum _ _ _ _ _ _ _ _ _ _ hM (hp.2.2 j2 z2) ?_)
                exact Vw.vret (de_return_ (B 133 _ rfl)) rfl ⟨rfl, (he j2 _ _ (pPos_s1 c_40 z1 (by simp [isCmp, w1 rfl, w2 rfl, w3])) z2)⟩
        · refine Vw.aload_n (de_aload_0 (B 95 _ rfl)) 0 rfl (n := 96) rfl ?_
          refine Vw.bipush (v := 60) (de_bipush (B 96 _ rfl) (B 97 _ rfl)) rfl (n := 98) rfl ?_
          refine Vw.isi1 (mi' := mX12_sign) (de_invokestatic (B 98 _ rfl) (B 99 _ rfl) (B 100 _ rfl)) ml_X12_239 ms_X12_sign (Nat.le_of_ble_eq_true rfl) (n := 101) rfl (c_X12_sign ?_)
          rw [show (100 + 60 : Int32) = 160 from rfl]
          refine Vw.ivi1 (mi' := mX12_takes0) (de_invokevirtual (B 101 _ rfl) (B 102 _ rfl) (B 103 _ rfl)) ml_X12_198 mv_X12_takes0 hM.k (Nat.le_of_ble_eq_true rfl) (n := 104) rfl (c_X12_takes0_nf hM (hp.2.2 e z2) ?_)
          refine Vw.if_ne (tgt := 128) (n := 107) (de_if_ne (B 104 _ rfl) (B 105 _ rfl) (B 106 _ rfl)) rfl rfl (fun c_104 => ?_) (fun c_104 => ?_)
          · exact absurd rfl c_104
          refine Vw.aload_n (de_aload_0 (B 107 _ rfl)) 0 rfl (n := 108) rfl ?_
          refine Vw.bipush (v := 62) (de_bipush (B 108 _ rfl) (B 109 _ rfl)) rfl (n := 110) rfl ?_
          refine Vw.isi1 (mi' := mX12_sign) (de_invokestatic (B 110 _ rfl) (B 111 _ rfl) (B 112 _ rfl)) ml_X12_239 ms_X12_sign (Nat.le_of_ble_eq_true rfl) (n := 113) rfl (c_X12_sign ?_)
          rw [show (100 + 62 : Int32) = 162 from rfl]
          refine Vw.ivi1 (mi' := mX12_takes0) (de_invokevirtual (B 113 _ rfl) (B 114 _ rfl) (B 115 _ rfl)) ml_X12_198 mv_X12_takes0 hM.k (Nat.le_of_ble_eq_true rfl) (n := 116) rfl (c_X12_takes0_nf hM (hp.2.2 e z2) ?_)
          refine Vw.if_ne (tgt := 128) (n := 119) (de_if_ne (B 116 _ rfl) (B 117 _ rfl) (B 118 _ rfl)) rfl rfl (fun c_116 => ?_) (fun c_116 => ?_)
          · exact absurd rfl c_116
          refine Vw.aload_n (de_aload_0 (B 119 _ rfl)) 0 rfl (n := 120) rfl ?_
          refine Vw.bipush (v := 61) (de_bipush (B 120 _ rfl) (B 121 _ rfl)) rfl (n := 122) rfl ?_
          refine Vw.isi1 (mi' := mX12_sign) (de_invokestatic (B 122 _ rfl) (B 123 _ rfl) (B 124 _ rfl)) ml_X12_239 ms_X12_sign (Nat.le_of_ble_eq_true rfl) (n := 125) rfl (c_X12_sign ?_)
          rw [show (100 + 61 : Int32) = 161 from rfl]
          refine Vw.ivv1 (mi' := mX12_must) (de_invokevirtual (B 125 _ rfl) (B 126 _ rfl) (B 127 _ rfl)) ml_X12_214 mv_X12_must hM.k (Nat.le_of_ble_eq_true rfl) (n := 128) rfl (c_X12_must_nf hM (hp.2.2 e z2) ?_)
          refine Vw.aload_n (de_aload_0 (B 128 _ rfl)) 0 rfl (n := 129) rfl ?_
          refine Vw.iload_n (de_iload_1 (B 129 _ rfl)) 1 rfl (n := 130) rfl ?_
          refine Vw.ivv1 (mi' := mX12_readSum) (de_invokevirtual (B 130 _ rfl) (B 131 _ rfl) (B 132 _ rfl)) ml_X12_211 mv_X12_readSum hM.k (Nat.le_of_ble_eq_true rfl) (n := 133) rfl (rn_X12_readSum _ _ _ _ _ _ _ _ _ _ hM (hp.2.2 e z2) ?_)
          exact Vw.vret (de_return_ (B 133 _ rfl)) rfl ⟨rfl, (he e _ _ (pPos_s0 c_40 z1) z2)⟩
      refine Vw.iload_n (de_iload_1 (B 43 _ rfl)) 1 rfl (n := 44) rfl ?_
      refine Vw.bipush (v := 8) (de_bipush (B 44 _ rfl) (B 45 _ rfl)) rfl (n := 46) rfl ?_
      refine Vw.icmp_ne (tgt := 53) (n := 49) (de_icmp_ne (B 46 _ rfl) (B 47 _ rfl) (B 48 _ rfl)) rfl rfl (fun c_46 => ?_) (fun c_46 => ?_)
      · exact absurd rfl c_46
      refine Vw.aload_n (de_aload_0 (B 49 _ rfl)) 0 rfl (n := 50) rfl ?_
      refine Vw.ivv0 (mi' := mX12_faults) (de_invokevirtual (B 50 _ rfl) (B 51 _ rfl) (B 52 _ rfl)) ml_X12_201 mv_X12_faults hM.k (Nat.le_of_ble_eq_true rfl) (n := 53) rfl (c_X12_faults hM hp hj (fun _ => ?_) (fun q => absurd rfl q))
      refine Vw.aload_n (de_aload_0 (B 53 _ rfl)) 0 rfl (n := 54) rfl ?_
      refine Vw.ivi0 (mi' := mX12_fine) (de_invokevirtual (B 54 _ rfl) (B 55 _ rfl) (B 56 _ rfl)) ml_X12_191 mv_X12_fine hM.k (Nat.le_of_ble_eq_true rfl) (n := 57) rfl (c_X12_fine hM ?_)
      refine Vw.if_ne (tgt := 61) (n := 60) (de_if_ne (B 57 _ rfl) (B 58 _ rfl) (B 59 _ rfl)) rfl rfl (fun c_57 => ?_) (fun c_57 => ?_)
      · exact absurd (zF0 (hp.2.2 j hj)) c_57
      exact Vw.vret (de_return_ (B 60 _ rfl)) rfl ⟨rfl, (he j _ _ (pPos_b0 c_40) hj)⟩
    exact absurd c_20 (by decide)
  have loop : ∀ f j b, i ≤ j → j ≤ nt → nt < j + f → (∀ j2 b2, pNots (I (r + 9)) f j b = (j2, b2) → i ≤ j2 → j2 ≤ nt → Vw mX12_readPlain (d + (D + 6)) 0 0 0 0 (VvQ Q) 16 [(0, .ref r), (1, .int (nI 8)), (2, .int 0)] [] S (pm I r (nI j2) (nI l) (-1)) L) → Vw mX12_readPlain (d + (D + 6)) 0 0 0 0 (VvQ Q) 2 [(0, .ref r), (1, .int (nI 8)), (2, .int 1)] [] S (pm I r (nI j) (nI l) (-1)) L := by
    intro f
    induction f with
    | zero => intro j b h0 h1 h2; exact absurd h2 (by omega)
    | succ f ih =>
      intro j b hij hj hf hk
      refine Vw.iload_n (de_iload_2 (B 2 _ rfl)) 2 rfl (n := 3) rfl ?_
      refine Vw.if_eq (tgt := 16) (n := 6) (de_if_eq (B 3 _ rfl) (B 4 _ rfl) (B 5 _ rfl)) rfl rfl (fun c_3 => ?_) (fun c_3 => ?_)
      · exact absurd c_3 (by decide)
      refine Vw.aload_n (de_aload_0 (B 6 _ rfl)) 0 rfl (n := 7) rfl ?_
      refine Vw.bipush (v := 9) (de_bipush (B 7 _ rfl) (B 8 _ rfl)) rfl (n := 9) rfl ?_
      refine Vw.ivi1 (mi' := mX12_takes0) (de_invokevirtual (B 9 _ rfl) (B 10 _ rfl) (B 11 _ rfl)) ml_X12_198 mv_X12_takes0 hM.k (Nat.le_of_ble_eq_true rfl) (n := 12) rfl (c_X12_takes0 hM hp hj (fun _ z => ?_) (fun z => ?_))
      · refine Vw.istore_n (lv2 := [(0, _), (1, _), (2, _)]) (de_istore_2 (B 12 _ rfl)) rfl (by decide) [1, 2, 0] rfl (n := 13) rfl ?_
        refine Vw.goto_ (n := 2) (de_goto_ (B 13 _ rfl) (B 14 _ rfl) (B 15 _ rfl)) rfl ?_
        exact ih (j + 1) (!b) (by omega) (lt_nt hp hj z (by decide)) (by omega) (fun j2 b2 y => hk j2 b2 (by rw [pNots, if_pos z]; exact y))
      · refine Vw.istore_n (lv2 := [(0, _), (1, _), (2, _)]) (de_istore_2 (B 12 _ rfl)) rfl (by decide) [1, 2, 0] rfl (n := 13) rfl ?_
        refine Vw.goto_ (n := 2) (de_goto_ (B 13 _ rfl) (B 14 _ rfl) (B 15 _ rfl)) rfl ?_
        refine Vw.iload_n (de_iload_2 (B 2 _ rfl)) 2 rfl (n := 3) rfl ?_
        refine Vw.if_eq (tgt := 16) (n := 6) (de_if_eq (B 3 _ rfl) (B 4 _ rfl) (B 5 _ rfl)) rfl rfl (fun c_3 => ?_) (fun c_3 => ?_)
        · exact hk j b (by rw [pNots, if_neg (z rfl)]) hij hj
        exact absurd rfl c_3
  refine Vw.iconst (v := 1) (de_iconst_1 (B 0 _ rfl)) rfl (n := 1) rfl ?_
  refine Vw.istore_n (lv2 := [(0, _), (1, _), (2, _)]) (de_istore_2 (B 1 _ rfl)) rfl (by decide) [1, 2, 0] rfl (n := 2) rfl ?_
  refine loop 402 i false (Nat.le_refl i) hi (by have := hp.1; omega) (fun j2 b2 y1 y2 y3 => ?_)
  exact pos j2 y3 (fun j3 l3 d3 x1 x2 x3 x4 => hok j3 l3 _ (pPlain_o y1 x1) (by omega) x3 x4) (fun e t l3 x1 x2 => her e t l3 (pPlain_e y1 x1) x2)
theorem rc_plainS {D dp : Nat} {U P : (Nat → Int32) → (Nat → Int32) → Bool → Nat → Nat → tR tD} (hdp : dp < 8) (hU : RC mX12_readSum (D + 5) dp U) (hS : RC mX12_readTest (D + 5) (dp + 1) P) : RC mX12_readPlain (D + 6) dp (fun cd vl o => pPlain cd (some (P cd vl o)) (U cd vl o)) := by
  intro d S I L Q r nt i l hM hp hi hl hok her
  refine Vc.of rfl (Nat.le_of_ble_eq_true rfl) ?_
  have B := bs_X12_readPlain
  show Vw mX12_readPlain (d + (D + 6)) 0 0 0 0 (VvQ Q) 0 [(0, .ref r), (1, .int (nI dp))] [] S (pm I r (nI i) (nI l) (-1)) L
  have pos : ∀ j, j ≤ nt → (∀ j2 l2 d2, pPos (I (r + 9)) (some (P (I (r + 9)) (I (r + 10)) (decide (¬ I r 8 = 0)))) (U (I (r + 9)) (I (r + 10)) (decide (¬ I r 8 = 0))) j l = .ok (j2, l2, d2) → j ≤ j2 → j2 ≤ nt → l2 ≤ 50 → Q S (pm I r (nI j2) (nI l2) (-1)) L) → (∀ e t l2, pPos (I (r + 9)) (some (P (I (r + 9)) (I (r + 10)) (decide (¬ I r 8 = 0)))) (U (I (r + 9)) (I (r + 10)) (decide (¬ I r 8 = 0))) j l = .error e → e ≤ nt → Q S (pm I r t l2 (I (r + 11) e)) L) → Vw mX12_readPlain (d + (D + 6)) 0 0 0 0 (VvQ Q) 16 [(0, .ref r), (1, .int (nI dp)), (2, .int 0)] [] S (pm I r (nI j) (nI l) (-1)) L := by
    intro j hj ho he
    refine Vw.aload_n (de_aload_0 (B 16 _ rfl)) 0 rfl (n := 17) rfl ?_
    refine Vw.ivi0 (mi' := mX12_fine) (de_invokevirtual (B 17 _ rfl) (B 18 _ rfl) (B 19 _ rfl)) ml_X12_191 mv_X12_fine hM.k (Nat.le_of_ble_eq_true rfl) (n := 20) rfl (c_X12_fine hM ?_)
    refine Vw.if_ne (tgt := 24) (n := 23) (de_if_ne (B 20 _ rfl) (B 21 _ rfl) (B 22 _ rfl)) rfl rfl (fun c_20 => ?_) (fun c_20 => ?_)
    · refine Vw.aload_n (de_aload_0 (B 24 _ rfl)) 0 rfl (n := 25) rfl ?_
      refine Vw.getR (de_getfield (B 25 _ rfl) (B 26 _ rfl) (B 27 _ rfl)) fl_X12_50 rfl hM.k (MS_code hM).1 (n := 28) rfl ?_
      refine Vw.aload_n (de_aload_0 (B 28 _ rfl)) 0 rfl (n := 29) rfl ?_
      refine Vw.getI (de_getfield (B 29 _ rfl) (B 30 _ rfl) (B 31 _ rfl)) fl_X12_195 rfl hM.k (n := 32) rfl ?_
      rw [pm_t]
      refine Vw.iald (de_iaload (B 32 _ rfl)) (MS_code hM).2 (vIx_nI (j := j) (by have := hp.1; omega) (by decide)) (n := 33) rfl ?_
      rw [pm_o (by omega)]
      refine Vw.istore_n (lv2 := [(0, _), (1, _), (2, _), (3, _)]) (de_istore_3 (B 33 _ rfl)) rfl (by decide) [1, 2, 3, 0] rfl (n := 34) rfl ?_
      refine Vw.iload_n (de_iload_3 (B 34 _ rfl)) 3 rfl (n := 35) rfl ?_
      refine Vw.bipush (v := 40) (de_bipush (B 35 _ rfl) (B 36 _ rfl)) rfl (n := 37) rfl ?_
      refine Vw.isi1 (mi' := mX12_sign) (de_invokestatic (B 37 _ rfl) (B 38 _ rfl) (B 39 _ rfl)) ml_X12_239 ms_X12_sign (Nat.le_of_ble_eq_true rfl) (n := 40) rfl (c_X12_sign ?_)
      rw [show (100 + 40 : Int32) = 140 from rfl]
      refine Vw.icmp_ne (tgt := 90) (n := 43) (de_icmp_ne (B 40 _ rfl) (B 41 _ rfl) (B 42 _ rfl)) rfl rfl (fun c_40 => ?_) (fun c_40 => ?_)
      · refine Vw.aload_n (de_aload_0 (B 90 _ rfl)) 0 rfl (n := 91) rfl ?_
        refine Vw.iload_n (de_iload_1 (B 91 _ rfl)) 1 rfl (n := 92) rfl ?_
        refine Vw.ivv1 (mi' := mX12_readSum) (de_invokevirtual (B 92 _ rfl) (B 93 _ rfl) (B 94 _ rfl)) ml_X12_211 mv_X12_readSum hM.k (Nat.le_of_ble_eq_true rfl) (n := 95) rfl (hU _ _ _ _ _ _ _ _ _ hM hp hj hl (fun j2 l2 d2 z1 z0 z2 z3 => ?_) (fun e t l2 z1 z2 => ?_))
        · refine Vw.aload_n (de_aload_0 (B 95 _ rfl)) 0 rfl (n := 96) rfl ?_
          refine Vw.bipush (v := 60) (de_bipush (B 96 _ rfl) (B 97 _ rfl)) rfl (n := 98) rfl ?_
          refine Vw.isi1 (mi' := mX12_sign) (de_invokestatic (B 98 _ rfl) (B 99 _ rfl) (B 100 _ rfl)) ml_X12_239 ms_X12_sign (Nat.le_of_ble_eq_true rfl) (n := 101) rfl (c_X12_sign ?_)
          rw [show (100 + 60 : Int32) = 160 from rfl]
          refine Vw.ivi1 (mi' := mX12_takes0) (de_invokevirtual (B 101 _ rfl) (B 102 _ rfl) (B 103 _ rfl)) ml_X12_198 mv_X12_takes0 hM.k (Nat.le_of_ble_eq_true rfl) (n := 104) rfl (c_X12_takes0 hM hp z2 (fun _ w1 => ?_) (fun w1 => ?_))
          · refine Vw.if_ne (tgt := 128) (n := 107) (de_if_ne (B 104 _ rfl) (B 105 _ rfl) (B 106 _ rfl)) rfl rfl (fun c_104 => ?_) (fun c_104 => ?_)
            · refine Vw.aload_n (de_aload_0 (B 128 _ rfl)) 0 rfl (n := 129) rfl ?_
              refine Vw.iload_n (de_iload_1 (B 129 _ rfl)) 1 rfl (n := 130) rfl ?_
              refine Vw.ivv1 (mi' := mX12_readSum) (de_invokevirtual (B 130 _ rfl) (B 131 _ rfl) (B 132 _ rfl)) ml_X12_211 mv_X12_readSum hM.k (Nat.le_of_ble_eq_true rfl) (n := 133) rfl (hU _ _ _ _ _ _ _ _ _ hM hp (lt_nt hp z2 w1 (by decide)) z3 (fun j3 l3 d3 y1 y0 y2 y3 => ?_) (fun e t l3 y1 y2 => ?_))
              · exact Vw.vret (de_return_ (B 133 _ rfl)) rfl ⟨rfl, (ho j3 l3 _ (pPos_s3 c_40 z1 (by rw [w1]; decide) y1) (by omega) y2 y3)⟩
              · exact Vw.vret (de_return_ (B 133 _ rfl)) rfl ⟨rfl, (he e _ _ (pPos_s2 c_40 z1 (by rw [w1]; decide) y1) y2)⟩
            exact absurd c_104 (by decide)
          · refine Vw.if_ne (tgt := 128) (n := 107) (de_if_ne (B 104 _ rfl) (B 105 _ rfl) (B 106 _ rfl)) rfl rfl (fun c_104 => ?_) (fun c_104 => ?_)
            · exact absurd rfl c_104
            refine Vw.aload_n (de_aload_0 (B 107 _ rfl)) 0 rfl (n := 108) rfl ?_
            refine Vw.bipush (v := 62) (de_bipush (B 108 _ rfl) (B 109 _ rfl)) rfl (n := 110) rfl ?_
            refine Vw.isi1 (mi' := mX12_sign) (de_invokestatic (B 110 _ rfl) (B 111 _ rfl) (B 112 _ rfl)) ml_X12_239 ms_X12_sign (Nat.le_of_ble_eq_true rfl) (n := 113) rfl (c_X12_sign ?_)
            rw [show (100 + 62 : Int32) = 162 from rfl]
            refine Vw.ivi1 (mi' := mX12_takes0) (de_invokevirtual (B 113 _ rfl) (B 114 _ rfl) (B 115 _ rfl)) ml_X12_198 mv_X12_takes0 hM.k (Nat.le_of_ble_eq_true rfl) (n := 116) rfl (c_X12_takes0 hM hp z2 (fun _ w2 => ?_) (fun w2 => ?_))
            · refine Vw.if_ne (tgt := 128) (n := 119) (de_if_ne (B 116 _ rfl) (B 117 _ rfl) (B 118 _ rfl)) rfl rfl (fun c_116 => ?_) (fun c_116 => ?_)
              · refine Vw.aload_n (de_aload_0 (B 128 _ rfl)) 0 rfl (n := 129) rfl ?_
                refine Vw.iload_n (de_iload_1 (B 129 _ rfl)) 1 rfl (n := 130) rfl ?_
                refine Vw.ivv1 (mi' := mX12_readSum) (de_invokevirtual (B 130 _ rfl) (B 131 _ rfl) (B 132 _ rfl)) ml_X12_211 mv_X12_readSum hM.k (Nat.le_of_ble_eq_true rfl) (n := 133) rfl (hU _ _ _ _ _ _ _ _ _ hM hp (lt_nt hp z2 w2 (by decide)) z3 (fun j3 l3 d3 y1 y0 y2 y3 => ?_) (fun e t l3 y1 y2 => ?_))
                · exact Vw.vret (de_return_ (B 133 _ rfl)) rfl ⟨rfl, (ho j3 l3 _ (pPos_s3 c_40 z1 (by rw [w2]; decide) y1) (by omega) y2 y3)⟩
                · exact Vw.vret (de_return_ (B 133 _ rfl)) rfl ⟨rfl, (he e _ _ (pPos_s2 c_40 z1 (by rw [w2]; decide) y1) y2)⟩
              exact absurd c_116 (by decide)
            · refine Vw.if_ne (tgt := 128) (n := 119) (de_if_ne (B 116 _ rfl) (B 117 _ rfl) (B 118 _ rfl)) rfl rfl (fun c_116 => ?_) (fun c_116 => ?_)
              · exact absurd rfl c_116
              refine Vw.aload_n (de_aload_0 (B 119 _ rfl)) 0 rfl (n := 120) rfl ?_
              refine Vw.bipush (v := 61) (de_bipush (B 120 _ rfl) (B 121 _ rfl)) rfl (n := 122) rfl ?_
              refine Vw.isi1 (mi' := mX12_sign) (de_invokestatic (B 122 _ rfl) (B 123 _ rfl) (B 124 _ rfl)) ml_X12_239 ms_X12_sign (Nat.le_of_ble_eq_true rfl) (n := 125) rfl (c_X12_sign ?_)
              rw [show (100 + 61 : Int32) = 161 from rfl]
              refine Vw.ivv1 (mi' := mX12_must) (de_invokevirtual (B 125 _ rfl) (B 126 _ rfl) (B 127 _ rfl)) ml_X12_214 mv_X12_must hM.k (Nat.le_of_ble_eq_true rfl) (n := 128) rfl (c_X12_must hM hp z2 (fun _ w3 => ?_) (fun _ w3 => ?_) (fun q => absurd rfl q))
              · refine Vw.aload_n (de_aload_0 (B 128 _ rfl)) 0 rfl (n := 129) rfl ?_
                refine Vw.iload_n (de_iload_1 (B 129 _ rfl)) 1 rfl (n := 130) rfl ?_
                refine Vw.ivv1 (mi' := mX12_readSum) (de_invokevirtual (B 130 _ rfl) (B 131 _ rfl) (B 132 _ rfl)) ml_X12_211 mv_X12_readSum hM.k (Nat.le_of_ble_eq_true rfl) (n := 133) rfl (hU _ _ _ _ _ _ _ _ _ hM hp (lt_nt hp z2 w3 (by decide)) z3 (fun j3 l3 d3 y1 y0 y2 y3 => ?_) (fun e t l3 y1 y2 => ?_))
                · exact Vw.vret (de_return_ (B 133 _ rfl)) rfl ⟨rfl, (ho j3 l3 _ (pPos_s3 c_40 z1 (by rw [w3]; decide) y1) (by omega) y2 y3)⟩
                · exact Vw.vret (de_return_ (B 133 _ rfl)) rfl ⟨rfl, (he e _ _ (pPos_s2 c_40 z1 (by rw [w3]; decide) y1) y2)⟩
              · refine Vw.aload_n (de_aload_0 (B 128 _ rfl)) 0 rfl (n := 129) rfl ?_
                refine Vw.iload_n (de_iload_1 (B 129 _ rfl)) 1 rfl (n := 130) rfl ?_
                refine Vw.ivv1 (mi' := mX12_readSum) (de_invokevirtual (B 130 _ rfl) (B 131 _ rfl) (B 132 _ rfl)) ml_X12_211 mv_X12_readSum hM.k (Nat.le_of_ble_eq_true rfl) (n := 133) rfl (rn_X12_readSum _ _ _ _ _ _ _ _ _ _ hM (hp.2.2 j2 z2) ?_)
                exact Vw.vret (de_return_ (B 133 _ rfl)) rfl ⟨rfl, (he j2 _ _ (pPos_s1 c_40 z1 (by simp [isCmp, w1 rfl, w2 rfl, w3])) z2)⟩
        · refine Vw.aload_n (de_aload_0 (B 95 _ rfl)) 0 rfl (n := 96) rfl ?_
          refine Vw.bipush (v := 60) (de_bipush (B 96 _ rfl) (B 97 _ rfl)) rfl (n := 98) rfl ?_
          refine Vw.isi1 (mi' := mX12_sign) (de_invokestatic (B 98 _ rfl) (B 99 _ rfl) (B 100 _ rfl)) ml_X12_239 ms_X12_sign (Nat.le_of_ble_eq_true rfl) (n := 101) rfl (c_X12_sign ?_)
          rw [show (100 + 60 : Int32) = 160 from rfl]
          refine Vw.ivi1 (mi' := mX12_takes0) (de_invokevirtual (B 101 _ rfl) (B 102 _ rfl) (B 103 _ rfl)) ml_X12_198 mv_X12_takes0 hM.k (Nat.le_of_ble_eq_true rfl) (n := 104) rfl (c_X12_takes0_nf hM (hp.2.2 e z2) ?_)
          refine Vw.if_ne (tgt := 128) (n := 107) (de_if_ne (B 104 _ rfl) (B 105 _ rfl) (B 106 _ rfl)) rfl rfl (fun c_104 => ?_) (fun c_104 => ?_)
          · exact absurd rfl c_104
          refine Vw.aload_n (de_aload_0 (B 107 _ rfl)) 0 rfl (n := 108) rfl ?_
          refine Vw.bipush (v := 62) (de_bipush (B 108 _ rfl) (B 109 _ rfl)) rfl (n := 110) rfl ?_
          refine Vw.isi1 (mi' := mX12_sign) (de_invokestatic (B 110 _ rfl) (B 111 _ rfl) (B 112 _ rfl)) ml_X12_239 ms_X12_sign (Nat.le_of_ble_eq_true rfl) (n := 113) rfl (c_X12_sign ?_)
          rw [show (100 + 62 : Int32) = 162 from rfl]
          refine Vw.ivi1 (mi' := mX12_takes0) (de_invokevirtual (B 113 _ rfl) (B 114 _ rfl) (B 115 _ rfl)) ml_X12_198 mv_X12_takes0 hM.k (Nat.le_of_ble_eq_true rfl) (n := 116) rfl (c_X12_takes0_nf hM (hp.2.2 e z2) ?_)
          refine Vw.if_ne (tgt := 128) (n := 119) (de_if_ne (B 116 _ rfl) (B 117 _ rfl) (B 118 _ rfl)) rfl rfl (fun c_116 => ?_) (fun c_116 => ?_)
          · exact absurd rfl c_116
          refine Vw.aload_n (de_aload_0 (B 119 _ rfl)) 0 rfl (n := 120) rfl ?_
          refine Vw.bipush (v := 61) (de_bipush (B 120 _ rfl) (B 121 _ rfl)) rfl (n := 122) rfl ?_
          refine Vw.isi1 (mi' := mX12_sign) (de_invokestatic (B 122 _ rfl) (B 123 _ rfl) (B 124 _ rfl)) ml_X12_239 ms_X12_sign (Nat.le_of_ble_eq_true rfl) (n := 125) rfl (c_X12_sign ?_)
          rw [show (100 + 61 : Int32) = 161 from rfl]
          refine Vw.ivv1 (mi' := mX12_must) (de_invokevirtual (B 125 _ rfl) (B 126 _ rfl) (B 127 _ rfl)) ml_X12_214 mv_X12_must hM.k (Nat.le_of_ble_eq_true rfl) (n := 128) rfl (c_X12_must_nf hM (hp.2.2 e z2) ?_)
          refine Vw.aload_n (de_aload_0 (B 128 _ rfl)) 0 rfl (n := 129) rfl ?_
          refine Vw.iload_n (de_iload_1 (B 129 _ rfl)) 1 rfl (n := 130) rfl ?_
          refine Vw.ivv1 (mi' := mX12_readSum) (de_invokevirtual (B 130 _ rfl) (B 131 _ rfl) (B 132 _ rfl)) ml_X12_211 mv_X12_readSum hM.k (Nat.le_of_ble_eq_true rfl) (n := 133) rfl (rn_X12_readSum _ _ _ _ _ _ _ _ _ _ hM (hp.2.2 e z2) ?_)
          exact Vw.vret (de_return_ (B 133 _ rfl)) rfl ⟨rfl, (he e _ _ (pPos_s0 c_40 z1) z2)⟩
      refine Vw.iload_n (de_iload_1 (B 43 _ rfl)) 1 rfl (n := 44) rfl ?_
      refine Vw.bipush (v := 8) (de_bipush (B 44 _ rfl) (B 45 _ rfl)) rfl (n := 46) rfl ?_
      refine Vw.icmp_ne (tgt := 53) (n := 49) (de_icmp_ne (B 46 _ rfl) (B 47 _ rfl) (B 48 _ rfl)) rfl rfl (fun c_46 => ?_) (fun c_46 => ?_)
      · refine Vw.aload_n (de_aload_0 (B 53 _ rfl)) 0 rfl (n := 54) rfl ?_
        refine Vw.ivi0 (mi' := mX12_fine) (de_invokevirtual (B 54 _ rfl) (B 55 _ rfl) (B 56 _ rfl)) ml_X12_191 mv_X12_fine hM.k (Nat.le_of_ble_eq_true rfl) (n := 57) rfl (c_X12_fine hM ?_)
        refine Vw.if_ne (tgt := 61) (n := 60) (de_if_ne (B 57 _ rfl) (B 58 _ rfl) (B 59 _ rfl)) rfl rfl (fun c_57 => ?_) (fun c_57 => ?_)
        · refine Vw.aload_n (de_aload_0 (B 61 _ rfl)) 0 rfl (n := 62) rfl ?_
          refine Vw.dup (de_dup (B 62 _ rfl)) rfl (n := 63) rfl ?_
          refine Vw.getI (de_getfield (B 63 _ rfl) (B 64 _ rfl) (B 65 _ rfl)) fl_X12_195 rfl hM.k (n := 66) rfl ?_
          rw [pm_t]
          refine Vw.iconst (v := 1) (de_iconst_1 (B 66 _ rfl)) rfl (n := 67) rfl ?_
          refine Vw.iadd (de_iadd (B 67 _ rfl)) (n := 68) rfl ?_
          rw [nI_1]
          refine Vw.putI (de_putfield (B 68 _ rfl) (B 69 _ rfl) (B 70 _ rfl)) fl_X12_195 hM.k rfl rfl (n := 71) rfl ?_
          rw [pm_ut]
          refine Vw.aload_n (de_aload_0 (B 71 _ rfl)) 0 rfl (n := 72) rfl ?_
          refine Vw.iload_n (de_iload_1 (B 72 _ rfl)) 1 rfl (n := 73) rfl ?_
          refine Vw.iconst (v := 1) (de_iconst_1 (B 73 _ rfl)) rfl (n := 74) rfl ?_
          refine Vw.iadd (de_iadd (B 74 _ rfl)) (n := 75) rfl ?_
          rw [nI_1 dp]
          refine Vw.ivv1 (mi' := mX12_readTest) (de_invokevirtual (B 75 _ rfl) (B 76 _ rfl) (B 77 _ rfl)) ml_X12_217 mv_X12_readTest hM.k (Nat.le_of_ble_eq_true rfl) (n := 78) rfl (hS _ _ _ _ _ _ _ _ _ hM hp (lt_nt hp hj c_40 (by decide)) hl (fun j2 l2 d2 z1 z0 z2 z3 => ?_) (fun e t l2 z1 z2 => ?_))
          · refine Vw.aload_n (de_aload_0 (B 78 _ rfl)) 0 rfl (n := 79) rfl ?_
            refine Vw.bipush (v := 41) (de_bipush (B 79 _ rfl) (B 80 _ rfl)) rfl (n := 81) rfl ?_
            refine Vw.isi1 (mi' := mX12_sign) (de_invokestatic (B 81 _ rfl) (B 82 _ rfl) (B 83 _ rfl)) ml_X12_239 ms_X12_sign (Nat.le_of_ble_eq_true rfl) (n := 84) rfl (c_X12_sign ?_)
            rw [show (100 + 41 : Int32) = 141 from rfl]
            refine Vw.ivv1 (mi' := mX12_must) (de_invokevirtual (B 84 _ rfl) (B 85 _ rfl) (B 86 _ rfl)) ml_X12_214 mv_X12_must hM.k (Nat.le_of_ble_eq_true rfl) (n := 87) rfl (c_X12_must hM hp z2 (fun _ z => ?_) (fun _ z => ?_) (fun q => absurd rfl q))
            · refine Vw.goto_ (n := 133) (de_goto_ (B 87 _ rfl) (B 88 _ rfl) (B 89 _ rfl)) rfl ?_
              exact Vw.vret (de_return_ (B 133 _ rfl)) rfl ⟨rfl, (ho (j2 + 1) l2 d2 (pPos_b c_40 z1 z) (by omega) (lt_nt hp z2 z (by decide)) z3)⟩
            · refine Vw.goto_ (n := 133) (de_goto_ (B 87 _ rfl) (B 88 _ rfl) (B 89 _ rfl)) rfl ?_
              exact Vw.vret (de_return_ (B 133 _ rfl)) rfl ⟨rfl, (he j2 _ _ (pPos_be c_40 z1 z) z2)⟩
          · refine Vw.aload_n (de_aload_0 (B 78 _ rfl)) 0 rfl (n := 79) rfl ?_
            refine Vw.bipush (v := 41) (de_bipush (B 79 _ rfl) (B 80 _ rfl)) rfl (n := 81) rfl ?_
            refine Vw.isi1 (mi' := mX12_sign) (de_invokestatic (B 81 _ rfl) (B 82 _ rfl) (B 83 _ rfl)) ml_X12_239 ms_X12_sign (Nat.le_of_ble_eq_true rfl) (n := 84) rfl (c_X12_sign ?_)
            rw [show (100 + 41 : Int32) = 141 from rfl]
            refine Vw.ivv1 (mi' := mX12_must) (de_invokevirtual (B 84 _ rfl) (B 85 _ rfl) (B 86 _ rfl)) ml_X12_214 mv_X12_must hM.k (Nat.le_of_ble_eq_true rfl) (n := 87) rfl (c_X12_must_nf hM (hp.2.2 e z2) ?_)
            refine Vw.goto_ (n := 133) (de_goto_ (B 87 _ rfl) (B 88 _ rfl) (B 89 _ rfl)) rfl ?_
            exact Vw.vret (de_return_ (B 133 _ rfl)) rfl ⟨rfl, (he e _ _ (pPos_bf c_40 z1) z2)⟩
        exact absurd c_57 (by decide)
      exact absurd (nI_inj (b := 8) (by omega) (by decide) c_46) (by omega)
    exact absurd c_20 (by decide)
  have loop : ∀ f j b, i ≤ j → j ≤ nt → nt < j + f → (∀ j2 b2, pNots (I (r + 9)) f j b = (j2, b2) → i ≤ j2 → j2 ≤ nt → Vw mX12_readPlain (d + (D + 6)) 0 0 0 0 (VvQ Q) 16 [(0, .ref r), (1, .int (nI dp)), (2, .int 0)] [] S (pm I r (nI j2) (nI l) (-1)) L) → Vw mX12_readPlain (d + (D + 6)) 0 0 0 0 (VvQ Q) 2 [(0, .ref r), (1, .int (nI dp)), (2, .int 1)] [] S (pm I r (nI j) (nI l) (-1)) L := by
    intro f
    induction f with
    | zero => intro j b h0 h1 h2; exact absurd h2 (by omega)
    | succ f ih =>
      intro j b hij hj hf hk
      refine Vw.iload_n (de_iload_2 (B 2 _ rfl)) 2 rfl (n := 3) rfl ?_
      refine Vw.if_eq (tgt := 16) (n := 6) (de_if_eq (B 3 _ rfl) (B 4 _ rfl) (B 5 _ rfl)) rfl rfl (fun c_3 => ?_) (fun c_3 => ?_)
      · exact absurd c_3 (by decide)
      refine Vw.aload_n (de_aload_0 (B 6 _ rfl)) 0 rfl (n := 7) rfl ?_
      refine Vw.bipush (v := 9) (de_bipush (B 7 _ rfl) (B 8 _ rfl)) rfl (n := 9) rfl ?_
      refine Vw.ivi1 (mi' := mX12_takes0) (de_invokevirtual (B 9 _ rfl) (B 10 _ rfl) (B 11 _ rfl)) ml_X12_198 mv_X12_takes0 hM.k (Nat.le_of_ble_eq_true rfl) (n := 12) rfl (c_X12_takes0 hM hp hj (fun _ z => ?_) (fun z => ?_))
      · refine Vw.istore_n (lv2 := [(0, _), (1, _), (2, _)]) (de_istore_2 (B 12 _ rfl)) rfl (by decide) [1, 2, 0] rfl (n := 13) rfl ?_
        refine Vw.goto_ (n := 2) (de_goto_ (B 13 _ rfl) (B 14 _ rfl) (B 15 _ rfl)) rfl ?_
        exact ih (j + 1) (!b) (by omega) (lt_nt hp hj z (by decide)) (by omega) (fun j2 b2 y => hk j2 b2 (by rw [pNots, if_pos z]; exact y))
      · refine Vw.istore_n (lv2 := [(0, _), (1, _), (2, _)]) (de_istore_2 (B 12 _ rfl)) rfl (by decide) [1, 2, 0] rfl (n := 13) rfl ?_
        refine Vw.goto_ (n := 2) (de_goto_ (B 13 _ rfl) (B 14 _ rfl) (B 15 _ rfl)) rfl ?_
        refine Vw.iload_n (de_iload_2 (B 2 _ rfl)) 2 rfl (n := 3) rfl ?_
        refine Vw.if_eq (tgt := 16) (n := 6) (de_if_eq (B 3 _ rfl) (B 4 _ rfl) (B 5 _ rfl)) rfl rfl (fun c_3 => ?_) (fun c_3 => ?_)
        · exact hk j b (by rw [pNots, if_neg (z rfl)]) hij hj
        exact absurd rfl c_3
  refine Vw.iconst (v := 1) (de_iconst_1 (B 0 _ rfl)) rfl (n := 1) rfl ?_
  refine Vw.istore_n (lv2 := [(0, _), (1, _), (2, _)]) (de_istore_2 (B 1 _ rfl)) rfl (by decide) [1, 2, 0] rfl (n := 2) rfl ?_
  refine loop 402 i false (Nat.le_refl i) hi (by have := hp.1; omega) (fun j2 b2 y1 y2 y3 => ?_)
  exact pos j2 y3 (fun j3 l3 d3 x1 x2 x3 x4 => hok j3 l3 _ (pPlain_o y1 x1) (by omega) x3 x4) (fun e t l3 x1 x2 => her e t l3 (pPlain_e y1 x1) x2)
theorem rc_both {D dp : Nat} {P : (Nat → Int32) → (Nat → Int32) → Bool → Nat → Nat → tR tD} (hS : RC mX12_readPlain (D + 6) dp P) : RC mX12_readBoth (D + 7) dp (fun cd vl o => pMany cd opA (fun _ => tAnd) (P cd vl o)) := by
  intro d S I L Q r nt i l hM hp hi hl hok her
  refine Vc.of rfl (Nat.le_of_ble_eq_true rfl) ?_
  have B := bs_X12_readBoth
  show Vw mX12_readBoth (d + (D + 7)) 0 0 0 0 (VvQ Q) 0 [(0, .ref r), (1, .int (nI dp))] [] S (pm I r (nI i) (nI l) (-1)) L
  have nf : ∀ e t l2, e ≤ nt → Q S (pm I r t l2 (I (r + 11) e)) L → Vw mX12_readBoth (d + (D + 7)) 0 0 0 0 (VvQ Q) 5 [(0, .ref r), (1, .int (nI dp))] [] S (pm I r t l2 (I (r + 11) e)) L := by
    intro e t l2 he hq
    have hb := hp.2.2 e he
    refine Vw.aload_n (de_aload_0 (B 5 _ rfl)) 0 rfl (n := 6) rfl ?_
    refine Vw.bipush (v := 8) (de_bipush (B 6 _ rfl) (B 7 _ rfl)) rfl (n := 8) rfl ?_
    refine Vw.ivi1 (mi' := mX12_takes0) (de_invokevirtual (B 8 _ rfl) (B 9 _ rfl) (B 10 _ rfl)) ml_X12_198 mv_X12_takes0 hM.k (Nat.le_of_ble_eq_true rfl) (n := 11) rfl (c_X12_takes0_nf hM hb ?_)
    refine Vw.if_eq (tgt := 22) (n := 14) (de_if_eq (B 11 _ rfl) (B 12 _ rfl) (B 13 _ rfl)) rfl rfl (fun c_11 => ?_) (fun c_11 => ?_)
    · exact Vw.vret (de_return_ (B 22 _ rfl)) rfl ⟨rfl, hq⟩
    exact absurd rfl c_11
  have loop : ∀ f j l dn, i ≤ j → j ≤ nt → nt < j + f → l ≤ 50 → (∀ j2 l2 d2, pChain (I (r + 9)) opA (fun _ => tAnd) (P (I (r + 9)) (I (r + 10)) (decide (¬ I r 8 = 0))) f j l dn = .ok (j2, l2, d2) → i ≤ j2 → j2 ≤ nt → l2 ≤ 50 → Q S (pm I r (nI j2) (nI l2) (-1)) L) → (∀ e t l2, pChain (I (r + 9)) opA (fun _ => tAnd) (P (I (r + 9)) (I (r + 10)) (decide (¬ I r 8 = 0))) f j l dn = .error e → e ≤ nt → Q S (pm I r t l2 (I (r + 11) e)) L) → Vw mX12_readBoth (d + (D + 7)) 0 0 0 0 (VvQ Q) 5 [(0, .ref r), (1, .int (nI dp))] [] S (pm I r (nI j) (nI l) (-1)) L := by
    intro f
    induction f with
    | zero => intro j l dn h0 h1 h2; exact absurd h2 (by omega)
    | succ f ih =>
      intro j l dn hij hj hf hl ho he
      have body : opA (I (r + 9) j) = true → j < nt → Vw mX12_readBoth (d + (D + 7)) 0 0 0 0 (VvQ Q) 14 [(0, .ref r), (1, .int (nI dp))] [] S (pm I r (nI (j + 1)) (nI l) (-1)) L := by
        intro zo hlt
        refine Vw.aload_n (de_aload_0 (B 14 _ rfl)) 0 rfl (n := 15) rfl ?_
        refine Vw.iload_n (de_iload_1 (B 15 _ rfl)) 1 rfl (n := 16) rfl ?_
        refine Vw.ivv1 (mi' := mX12_readPlain) (de_invokevirtual (B 16 _ rfl) (B 17 _ rfl) (B 18 _ rfl)) ml_X12_236 mv_X12_readPlain hM.k (Nat.le_of_ble_eq_true rfl) (n := 19) rfl (hS _ _ _ _ _ _ _ _ _ hM hp hlt hl (fun j2 l2 d2 z1 z0 z2 z3 => ?_) (fun e t l2 z1 z2 => ?_))
        · refine Vw.goto_ (n := 5) (de_goto_ (B 19 _ rfl) (B 20 _ rfl) (B 21 _ rfl)) rfl ?_
          exact ih j2 l2 _ (by omega) z2 (by omega) z3 (fun j3 l3 d3 y1 y0 y2 y3 => ho j3 l3 d3 (by rw [pChain_o zo z1]; exact y1) y0 y2 y3) (fun e t l3 y1 y2 => he e t l3 (by rw [pChain_o zo z1]; exact y1) y2)
        · refine Vw.goto_ (n := 5) (de_goto_ (B 19 _ rfl) (B 20 _ rfl) (B 21 _ rfl)) rfl ?_
          exact nf e t l2 z2 (he e t l2 (pChain_e zo z1) z2)
      refine Vw.aload_n (de_aload_0 (B 5 _ rfl)) 0 rfl (n := 6) rfl ?_
      refine Vw.bipush (v := 8) (de_bipush (B 6 _ rfl) (B 7 _ rfl)) rfl (n := 8) rfl ?_
      refine Vw.ivi1 (mi' := mX12_takes0) (de_invokevirtual (B 8 _ rfl) (B 9 _ rfl) (B 10 _ rfl)) ml_X12_198 mv_X12_takes0 hM.k (Nat.le_of_ble_eq_true rfl) (n := 11) rfl (c_X12_takes0 hM hp hj (fun _ z_8 => ?_) (fun z_8 => ?_))
      · refine Vw.if_eq (tgt := 22) (n := 14) (de_if_eq (B 11 _ rfl) (B 12 _ rfl) (B 13 _ rfl)) rfl rfl (fun c_11 => ?_) (fun c_11 => ?_)
        · exact absurd c_11 (by decide)
        exact body (by rw [z_8]; decide) (lt_nt hp hj z_8 (by decide))
      · refine Vw.if_eq (tgt := 22) (n := 14) (de_if_eq (B 11 _ rfl) (B 12 _ rfl) (B 13 _ rfl)) rfl rfl (fun c_11 => ?_) (fun c_11 => ?_)
        · exact Vw.vret (de_return_ (B 22 _ rfl)) rfl ⟨rfl, (ho j l dn (pChain_0 (by simpa [opA] using z_8 rfl)) hij hj hl)⟩
        exact absurd rfl c_11
  refine Vw.aload_n (de_aload_0 (B 0 _ rfl)) 0 rfl (n := 1) rfl ?_
  refine Vw.iload_n (de_iload_1 (B 1 _ rfl)) 1 rfl (n := 2) rfl ?_
  refine Vw.ivv1 (mi' := mX12_readPlain) (de_invokevirtual (B 2 _ rfl) (B 3 _ rfl) (B 4 _ rfl)) ml_X12_236 mv_X12_readPlain hM.k (Nat.le_of_ble_eq_true rfl) (n := 5) rfl (hS _ _ _ _ _ _ _ _ _ hM hp hi hl (fun j2 l2 d2 z1 z0 z2 z3 => ?_) (fun e t l2 z1 z2 => ?_))
  · exact loop 402 j2 l2 d2 z0 z2 (by have := hp.1; omega) z3 (fun j3 l3 d3 y1 y0 y2 y3 => hok j3 l3 d3 (by show pMany _ _ _ _ _ _ = _; rw [pMany_o z1]; exact y1) y0 y2 y3) (fun e t l3 y1 y2 => her e t l3 (by show pMany _ _ _ _ _ _ = _; rw [pMany_o z1]; exact y1) y2)
  · exact nf e t l2 z2 (her e t l2 (pMany_e z1) z2)
theorem rc_test {D dp : Nat} {P : (Nat → Int32) → (Nat → Int32) → Bool → Nat → Nat → tR tD} (hS : RC mX12_readBoth (D + 7) dp P) : RC mX12_readTest (D + 8) dp (fun cd vl o => pMany cd opO (fun _ => tOr) (P cd vl o)) := by
  intro d S I L Q r nt i l hM hp hi hl hok her
  refine Vc.of rfl (Nat.le_of_ble_eq_true rfl) ?_
  have B := bs_X12_readTest
  show Vw mX12_readTest (d + (D + 8)) 0 0 0 0 (VvQ Q) 0 [(0, .ref r), (1, .int (nI dp))] [] S (pm I r (nI i) (nI l) (-1)) L
  have nf : ∀ e t l2, e ≤ nt → Q S (pm I r t l2 (I (r + 11) e)) L → Vw mX12_readTest (d + (D + 8)) 0 0 0 0 (VvQ Q) 5 [(0, .ref r), (1, .int (nI dp))] [] S (pm I r t l2 (I (r + 11) e)) L := by
    intro e t l2 he hq
    have hb := hp.2.2 e he
    refine Vw.aload_n (de_aload_0 (B 5 _ rfl)) 0 rfl (n := 6) rfl ?_
    refine Vw.bipush (v := 7) (de_bipush (B 6 _ rfl) (B 7 _ rfl)) rfl (n := 8) rfl ?_
    refine Vw.ivi1 (mi' := mX12_takes0) (de_invokevirtual (B 8 _ rfl) (B 9 _ rfl) (B 10 _ rfl)) ml_X12_198 mv_X12_takes0 hM.k (Nat.le_of_ble_eq_true rfl) (n := 11) rfl (c_X12_takes0_nf hM hb ?_)
    refine Vw.if_eq (tgt := 22) (n := 14) (de_if_eq (B 11 _ rfl) (B 12 _ rfl) (B 13 _ rfl)) rfl rfl (fun c_11 => ?_) (fun c_11 => ?_)
    · exact Vw.vret (de_return_ (B 22 _ rfl)) rfl ⟨rfl, hq⟩
    exact absurd rfl c_11
  have loop : ∀ f j l dn, i ≤ j → j ≤ nt → nt < j + f → l ≤ 50 → (∀ j2 l2 d2, pChain (I (r + 9)) opO (fun _ => tOr) (P (I (r + 9)) (I (r + 10)) (decide (¬ I r 8 = 0))) f j l dn = .ok (j2, l2, d2) → i ≤ j2 → j2 ≤ nt → l2 ≤ 50 → Q S (pm I r (nI j2) (nI l2) (-1)) L) → (∀ e t l2, pChain (I (r + 9)) opO (fun _ => tOr) (P (I (r + 9)) (I (r + 10)) (decide (¬ I r 8 = 0))) f j l dn = .error e → e ≤ nt → Q S (pm I r t l2 (I (r + 11) e)) L) → Vw mX12_readTest (d + (D + 8)) 0 0 0 0 (VvQ Q) 5 [(0, .ref r), (1, .int (nI dp))] [] S (pm I r (nI j) (nI l) (-1)) L := by
    intro f
    induction f with
    | zero => intro j l dn h0 h1 h2; exact absurd h2 (by omega)
    | succ f ih =>
      intro j l dn hij hj hf hl ho he
      have body : opO (I (r + 9) j) = true → j < nt → Vw mX12_readTest (d + (D + 8)) 0 0 0 0 (VvQ Q) 14 [(0, .ref r), (1, .int (nI dp))] [] S (pm I r (nI (j + 1)) (nI l) (-1)) L := by
        intro zo hlt
        refine Vw.aload_n (de_aload_0 (B 14 _ rfl)) 0 rfl (n := 15) rfl ?_
        refine Vw.iload_n (de_iload_1 (B 15 _ rfl)) 1 rfl (n := 16) rfl ?_
        refine Vw.ivv1 (mi' := mX12_readBoth) (de_invokevirtual (B 16 _ rfl) (B 17 _ rfl) (B 18 _ rfl)) ml_X12_233 mv_X12_readBoth hM.k (Nat.le_of_ble_eq_true rfl) (n := 19) rfl (hS _ _ _ _ _ _ _ _ _ hM hp hlt hl (fun j2 l2 d2 z1 z0 z2 z3 => ?_) (fun e t l2 z1 z2 => ?_))
        · refine Vw.goto_ (n := 5) (de_goto_ (B 19 _ rfl) (B 20 _ rfl) (B 21 _ rfl)) rfl ?_
          exact ih j2 l2 _ (by omega) z2 (by omega) z3 (fun j3 l3 d3 y1 y0 y2 y3 => ho j3 l3 d3 (by rw [pChain_o zo z1]; exact y1) y0 y2 y3) (fun e t l3 y1 y2 => he e t l3 (by rw [pChain_o zo z1]; exact y1) y2)
        · refine Vw.goto_ (n := 5) (de_goto_ (B 19 _ rfl) (B 20 _ rfl) (B 21 _ rfl)) rfl ?_
          exact nf e t l2 z2 (he e t l2 (pChain_e zo z1) z2)
      refine Vw.aload_n (de_aload_0 (B 5 _ rfl)) 0 rfl (n := 6) rfl ?_
      refine Vw.bipush (v := 7) (de_bipush (B 6 _ rfl) (B 7 _ rfl)) rfl (n := 8) rfl ?_
      refine Vw.ivi1 (mi' := mX12_takes0) (de_invokevirtual (B 8 _ rfl) (B 9 _ rfl) (B 10 _ rfl)) ml_X12_198 mv_X12_takes0 hM.k (Nat.le_of_ble_eq_true rfl) (n := 11) rfl (c_X12_takes0 hM hp hj (fun _ z_8 => ?_) (fun z_8 => ?_))
      · refine Vw.if_eq (tgt := 22) (n := 14) (de_if_eq (B 11 _ rfl) (B 12 _ rfl) (B 13 _ rfl)) rfl rfl (fun c_11 => ?_) (fun c_11 => ?_)
        · exact absurd c_11 (by decide)
        exact body (by rw [z_8]; decide) (lt_nt hp hj z_8 (by decide))
      · refine Vw.if_eq (tgt := 22) (n := 14) (de_if_eq (B 11 _ rfl) (B 12 _ rfl) (B 13 _ rfl)) rfl rfl (fun c_11 => ?_) (fun c_11 => ?_)
        · exact Vw.vret (de_return_ (B 22 _ rfl)) rfl ⟨rfl, (ho j l dn (pChain_0 (by simpa [opO] using z_8 rfl)) hij hj hl)⟩
        exact absurd rfl c_11
  refine Vw.aload_n (de_aload_0 (B 0 _ rfl)) 0 rfl (n := 1) rfl ?_
  refine Vw.iload_n (de_iload_1 (B 1 _ rfl)) 1 rfl (n := 2) rfl ?_
  refine Vw.ivv1 (mi' := mX12_readBoth) (de_invokevirtual (B 2 _ rfl) (B 3 _ rfl) (B 4 _ rfl)) ml_X12_233 mv_X12_readBoth hM.k (Nat.le_of_ble_eq_true rfl) (n := 5) rfl (hS _ _ _ _ _ _ _ _ _ hM hp hi hl (fun j2 l2 d2 z1 z0 z2 z3 => ?_) (fun e t l2 z1 z2 => ?_))
  · exact loop 402 j2 l2 d2 z0 z2 (by have := hp.1; omega) z3 (fun j3 l3 d3 y1 y0 y2 y3 => hok j3 l3 d3 (by show pMany _ _ _ _ _ _ = _; rw [pMany_o z1]; exact y1) y0 y2 y3) (fun e t l3 y1 y2 => her e t l3 (by show pMany _ _ _ _ _ _ = _; rw [pMany_o z1]; exact y1) y2)
  · exact nf e t l2 z2 (her e t l2 (pMany_e z1) z2)
theorem rc_tests : ∀ m, m ≤ 8 → RC mX12_readTest (3 * m + 8) (8 - m) (fun cd vl o => pTest cd vl o m) := by
  intro m
  induction m with
  | zero => intro _; exact rc_test (D := 0) (rc_both (D := 0) (rc_plain0 (D := 0) (rc_sums 0 (by omega))))
  | succ m ih =>
    intro hm
    have h0 := rc_sums (m + 1) hm
    have h1 := rc_plainS (D := 3 * m + 3) (dp := 8 - (m + 1)) (by omega) h0 (by rw [show 8 - (m + 1) + 1 = 8 - m by omega]; exact ih (by omega))
    have h2 := rc_test (D := 3 * m + 3) (rc_both (D := 3 * m + 3) h1)
    rw [show 3 * (m + 1) + 8 = 3 * m + 3 + 8 by omega]
    exact h2
