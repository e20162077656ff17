section PP
variable {cd vl : Nat → Int32} {o : Bool} {inn : Option (Nat → Nat → tR tD)} {i l : Nat}
theorem pPart_e0 (h1 : ¬ cd i = 191) (h2 : ¬ ((cd i = 50 ∧ vl i ≤ 1000) ∨ isVal o (cd i) = true)) : pPart cd vl o inn i l = .error i := by unfold pPart; rw [if_neg h1, if_neg h2]
theorem pPart_e1 (h1 : ¬ cd i = 191) (h2 : (cd i = 50 ∧ vl i ≤ 1000) ∨ isVal o (cd i) = true) (h3 : l = 50) : pPart cd vl o inn i l = .error i := by unfold pPart; rw [if_neg h1, if_pos h2, if_pos h3]
theorem pPart_w (h1 : ¬ cd i = 191) (h2 : (cd i = 50 ∧ vl i ≤ 1000) ∨ isVal o (cd i) = true) (h3 : ¬ l = 50) (h4 : o = true ∧ (cd i = 13 ∨ cd i = 14)) (h5 : cd (i + 1) = 50 ∧ ¬ zLie (vl (i + 1)) 0 7 = 0) : pPart cd vl o inn i l = .ok (i + 2, l + 1, fun n => some (n ((if cd i = 13 then 3 else 11) + (vl (i + 1)).toNatClampNeg)).toInt64) := by unfold pPart; rw [if_neg h1, if_pos h2, if_neg h3, if_pos h4, if_pos h5]
theorem pPart_we (h1 : ¬ cd i = 191) (h2 : (cd i = 50 ∧ vl i ≤ 1000) ∨ isVal o (cd i) = true) (h3 : ¬ l = 50) (h4 : o = true ∧ (cd i = 13 ∨ cd i = 14)) (h5 : ¬ (cd (i + 1) = 50 ∧ ¬ zLie (vl (i + 1)) 0 7 = 0)) : pPart cd vl o inn i l = .error (i + 1) := by unfold pPart; rw [if_neg h1, if_pos h2, if_neg h3, if_pos h4, if_neg h5]
theorem pPart_n (h1 : ¬ cd i = 191) (h2 : (cd i = 50 ∧ vl i ≤ 1000) ∨ isVal o (cd i) = true) (h3 : ¬ l = 50) (h4 : ¬ (o = true ∧ (cd i = 13 ∨ cd i = 14))) : pPart cd vl o inn i l = .ok (i + 1, l + 1, if cd i = 50 then (fun _ => some (vl i).toInt64) else fun n => some (n (wIx o (cd i))).toInt64) := by
  unfold pPart; rw [if_neg h1, if_pos h2, if_neg h3, if_neg h4]; split <;> rfl
theorem pPart_b0 (h1 : cd i = 191) : pPart cd vl o none i l = .error i := by unfold pPart; rw [if_pos h1]
theorem pPart_b {f : Nat → Nat → tR tD} {j l2 : Nat} {d : tD} (h1 : cd i = 191) (h2 : f (i + 1) l = .ok (j, l2, d)) (h3 : cd j = 193) : pPart cd vl o (some f) i l = .ok (j + 1, l2, d) := by unfold pPart; rw [if_pos h1]; simp only [h2]; rw [if_pos h3]
theorem pPart_be {f : Nat → Nat → tR tD} {j l2 : Nat} {d : tD} (h1 : cd i = 191) (h2 : f (i + 1) l = .ok (j, l2, d)) (h3 : ¬ cd j = 193) : pPart cd vl o (some f) i l = .error j := by unfold pPart; rw [if_pos h1]; simp only [h2]; rw [if_neg h3]
theorem pPart_bf {f : Nat → Nat → tR tD} {e : Nat} (h1 : cd i = 191) (h2 : f (i + 1) l = .error e) : pPart cd vl o (some f) i l = .error e := by unfold pPart; rw [if_pos h1]; simp only [h2]
end PP
theorem ord_n {x c : Int32} (h : x = 0 ∨ (¬ c = 13 ∧ ¬ c = 14)) : ¬ (decide (¬ x = 0) = true ∧ (c = 13 ∨ c = 14)) := by
  rintro ⟨q1, q2⟩
  rcases h with h | h
  · simp [h] at q1
  · rcases q2 with q | q
    · exact h.1 q
    · exact h.2 q
theorem ord_y {x : Int32} (h : ¬ x = 0) : decide (¬ x = 0) = true := by simp [h]
theorem val_y {I : vI} {r : Nat} {t l b : Int32} {c : Int32} (h : ¬ zVal (pm I r t l b) r c = 0) : isVal (decide (¬ I r 8 = 0)) c = true := by
  rcases hq : isVal (decide (¬ I r 8 = 0)) c with _ | _
  · exact absurd (by unfold zVal; rw [pm_k (by decide) (by decide) (by decide), hq]; rfl) h
  · rfl
theorem val_n {I : vI} {r : Nat} {t l b : Int32} {c : Int32} (h : zVal (pm I r t l b) r c = 0) : ¬ isVal (decide (¬ I r 8 = 0)) c = true := by
  intro q
  unfold zVal at h
  rw [pm_k (by decide) (by decide) (by decide), q] at h
  exact absurd h (by decide)
theorem pm_k8 {I : vI} {r : Nat} {t l b : Int32} : pm I r t l b r 8 = I r 8 := pm_k (by decide) (by decide) (by decide)
theorem rc_part0 : RC mX12_readPart 3 8 (fun cd vl o => pPart cd vl o none) := by
  intro d S I L Q r nt i l hM hp hi hl hok her
  refine Vc.of rfl (Nat.le_of_ble_eq_true rfl) ?_
  have B := bs_X12_readPart
  show Vw mX12_readPart (d + 3) 0 0 0 0 (VvQ Q) 0 [(0, .ref r), (1, .int (nI 8))] [] S (pm I r (nI i) (nI l) (-1)) L
  have val : ¬ I (r + 9) i = 191 → ((I (r + 9) i = 50 ∧ I (r + 10) i ≤ 1000) ∨ isVal (decide (¬ I r 8 = 0)) (I (r + 9) i) = true) → Vw mX12_readPart (d + 3) 0 0 0 0 (VvQ Q) 103 [(0, .ref r), (1, .int (nI 8)), (2, .int (I (r + 9) i))] [] S (pm I r (nI i) (nI l) (-1)) L := by
    intro hne hv
    have hlt : i < nt := by
      rcases Nat.lt_or_ge i nt with q | q
      · exact q
      · have e0 : I (r + 9) i = 0 := by rw [show i = nt by omega]; exact hp.2.1
        rw [e0] at hv
        rcases hv with hv | hv
        · exact absurd hv.1 (by decide)
        · exact absurd hv (by cases decide (¬ I r 8 = 0) <;> decide)
    refine Vw.aload_n (de_aload_0 (B 103 _ rfl)) 0 rfl (n := 104) rfl ?_
    refine Vw.ivv0 (mi' := mX12_leaf) (de_invokevirtual (B 104 _ rfl) (B 105 _ rfl) (B 106 _ rfl)) ml_X12_252 mv_X12_leaf hM.k (Nat.le_of_ble_eq_true rfl) (n := 107) rfl (c_X12_leaf hM hp hi hl (fun z => ?_) (fun z => ?_))
    · refine Vw.aload_n (de_aload_0 (B 107 _ rfl)) 0 rfl (n := 108) rfl ?_
      refine Vw.getI (de_getfield (B 108 _ rfl) (B 109 _ rfl) (B 110 _ rfl)) fl_X12_207 rfl hM.k (n := 111) rfl ?_
      rw [pm_k (by decide) (by decide) (by decide)]
      refine Vw.if_eq (tgt := 140) (n := 114) (de_if_eq (B 111 _ rfl) (B 112 _ rfl) (B 113 _ rfl)) rfl rfl (fun c_111 => ?_) (fun c_111 => ?_)
      · exact Vw.vret (de_return_ (B 140 _ rfl)) rfl ⟨rfl, (her i _ _ (pPart_e1 hne hv z) hi)⟩
      refine Vw.iload_n (de_iload_2 (B 114 _ rfl)) 2 rfl (n := 115) rfl ?_
      refine Vw.bipush (v := 13) (de_bipush (B 115 _ rfl) (B 116 _ rfl)) rfl (n := 117) rfl ?_
      refine Vw.icmp_eq (tgt := 126) (n := 120) (de_icmp_eq (B 117 _ rfl) (B 118 _ rfl) (B 119 _ rfl)) rfl rfl (fun c_117 => ?_) (fun c_117 => ?_)
      · refine Vw.aload_n (de_aload_0 (B 126 _ rfl)) 0 rfl (n := 127) rfl ?_
        refine Vw.iconst (v := 0) (de_iconst_0 (B 127 _ rfl)) rfl (n := 128) rfl ?_
        refine Vw.bipush (v := 7) (de_bipush (B 128 _ rfl) (B 129 _ rfl)) rfl (n := 130) rfl ?_
        refine Vw.ivv2 (mi' := mX12_mustNumber) (de_invokevirtual (B 130 _ rfl) (B 131 _ rfl) (B 132 _ rfl)) ml_X12_223 mv_X12_mustNumber hM.k (Nat.le_of_ble_eq_true rfl) (n := 133) rfl (c_X12_mustNumber hM hp hi (fun q => absurd q (hp.2.2 i hi)) (fun q => absurd q (hp.2.2 i hi)) (fun _ => ?_))
        refine Vw.goto_ (n := 140) (de_goto_ (B 133 _ rfl) (B 134 _ rfl) (B 135 _ rfl)) rfl ?_
        exact Vw.vret (de_return_ (B 140 _ rfl)) rfl ⟨rfl, (her i _ _ (pPart_e1 hne hv z) hi)⟩
      refine Vw.iload_n (de_iload_2 (B 120 _ rfl)) 2 rfl (n := 121) rfl ?_
      refine Vw.bipush (v := 14) (de_bipush (B 121 _ rfl) (B 122 _ rfl)) rfl (n := 123) rfl ?_
      refine Vw.icmp_ne (tgt := 140) (n := 126) (de_icmp_ne (B 123 _ rfl) (B 124 _ rfl) (B 125 _ rfl)) rfl rfl (fun c_123 => ?_) (fun c_123 => ?_)
      · exact Vw.vret (de_return_ (B 140 _ rfl)) rfl ⟨rfl, (her i _ _ (pPart_e1 hne hv z) hi)⟩
      refine Vw.aload_n (de_aload_0 (B 126 _ rfl)) 0 rfl (n := 127) rfl ?_
      refine Vw.iconst (v := 0) (de_iconst_0 (B 127 _ rfl)) rfl (n := 128) rfl ?_
      refine Vw.bipush (v := 7) (de_bipush (B 128 _ rfl) (B 129 _ rfl)) rfl (n := 130) rfl ?_
      refine Vw.ivv2 (mi' := mX12_mustNumber) (de_invokevirtual (B 130 _ rfl) (B 131 _ rfl) (B 132 _ rfl)) ml_X12_223 mv_X12_mustNumber hM.k (Nat.le_of_ble_eq_true rfl) (n := 133) rfl (c_X12_mustNumber hM hp hi (fun q => absurd q (hp.2.2 i hi)) (fun q => absurd q (hp.2.2 i hi)) (fun _ => ?_))
      refine Vw.goto_ (n := 140) (de_goto_ (B 133 _ rfl) (B 134 _ rfl) (B 135 _ rfl)) rfl ?_
      exact Vw.vret (de_return_ (B 140 _ rfl)) rfl ⟨rfl, (her i _ _ (pPart_e1 hne hv z) hi)⟩
    · refine Vw.aload_n (de_aload_0 (B 107 _ rfl)) 0 rfl (n := 108) rfl ?_
      refine Vw.getI (de_getfield (B 108 _ rfl) (B 109 _ rfl) (B 110 _ rfl)) fl_X12_207 rfl hM.k (n := 111) rfl ?_
      rw [pm_k (by decide) (by decide) (by decide)]
      refine Vw.if_eq (tgt := 140) (n := 114) (de_if_eq (B 111 _ rfl) (B 112 _ rfl) (B 113 _ rfl)) rfl rfl (fun c_111 => ?_) (fun c_111 => ?_)
      · exact Vw.vret (de_return_ (B 140 _ rfl)) rfl ⟨rfl, (hok (i + 1) (l + 1) _ (pPart_n hne hv z (ord_n (by first | exact Or.inl c_111 | exact Or.inr ⟨c_117, c_123⟩))) (by omega) hlt (by omega))⟩
      refine Vw.iload_n (de_iload_2 (B 114 _ rfl)) 2 rfl (n := 115) rfl ?_
      refine Vw.bipush (v := 13) (de_bipush (B 115 _ rfl) (B 116 _ rfl)) rfl (n := 117) rfl ?_
      refine Vw.icmp_eq (tgt := 126) (n := 120) (de_icmp_eq (B 117 _ rfl) (B 118 _ rfl) (B 119 _ rfl)) rfl rfl (fun c_117 => ?_) (fun c_117 => ?_)
      · refine Vw.aload_n (de_aload_0 (B 126 _ rfl)) 0 rfl (n := 127) rfl ?_
        refine Vw.iconst (v := 0) (de_iconst_0 (B 127 _ rfl)) rfl (n := 128) rfl ?_
        refine Vw.bipush (v := 7) (de_bipush (B 128 _ rfl) (B 129 _ rfl)) rfl (n := 130) rfl ?_
        refine Vw.ivv2 (mi' := mX12_mustNumber) (de_invokevirtual (B 130 _ rfl) (B 131 _ rfl) (B 132 _ rfl)) ml_X12_223 mv_X12_mustNumber hM.k (Nat.le_of_ble_eq_true rfl) (n := 133) rfl (c_X12_mustNumber hM hp hlt (fun _ z1 z2 => ?_) (fun _ z1 => ?_) (fun q => absurd rfl q))
        · refine Vw.goto_ (n := 140) (de_goto_ (B 133 _ rfl) (B 134 _ rfl) (B 135 _ rfl)) rfl ?_
          exact Vw.vret (de_return_ (B 140 _ rfl)) rfl ⟨rfl, (hok (i + 2) (l + 1) _ (pPart_w hne hv z ⟨ord_y c_111, by first | exact Or.inl c_117 | exact Or.inr c_123⟩ ⟨z1, z2⟩) (by omega) (lt_nt hp hlt z1 (by decide)) (by omega))⟩
        · refine Vw.goto_ (n := 140) (de_goto_ (B 133 _ rfl) (B 134 _ rfl) (B 135 _ rfl)) rfl ?_
          exact Vw.vret (de_return_ (B 140 _ rfl)) rfl ⟨rfl, (her (i + 1) _ _ (pPart_we hne hv z ⟨ord_y c_111, by first | exact Or.inl c_117 | exact Or.inr c_123⟩ z1) hlt)⟩
      refine Vw.iload_n (de_iload_2 (B 120 _ rfl)) 2 rfl (n := 121) rfl ?_
      refine Vw.bipush (v := 14) (de_bipush (B 121 _ rfl) (B 122 _ rfl)) rfl (n := 123) rfl ?_
      refine Vw.icmp_ne (tgt := 140) (n := 126) (de_icmp_ne (B 123 _ rfl) (B 124 _ rfl) (B 125 _ rfl)) rfl rfl (fun c_123 => ?_) (fun c_123 => ?_)
      · exact Vw.vret (de_return_ (B 140 _ rfl)) rfl ⟨rfl, (hok (i + 1) (l + 1) _ (pPart_n hne hv z (ord_n (by first | exact Or.inl c_111 | exact Or.inr ⟨c_117, c_123⟩))) (by omega) hlt (by omega))⟩
      refine Vw.aload_n (de_aload_0 (B 126 _ rfl)) 0 rfl (n := 127) rfl ?_
      refine Vw.iconst (v := 0) (de_iconst_0 (B 127 _ rfl)) rfl (n := 128) rfl ?_
      refine Vw.bipush (v := 7) (de_bipush (B 128 _ rfl) (B 129 _ rfl)) rfl (n := 130) rfl ?_
      refine Vw.ivv2 (mi' := mX12_mustNumber) (de_invokevirtual (B 130 _ rfl) (B 131 _ rfl) (B 132 _ rfl)) ml_X12_223 mv_X12_mustNumber hM.k (Nat.le_of_ble_eq_true rfl) (n := 133) rfl (c_X12_mustNumber hM hp hlt (fun _ z1 z2 => ?_) (fun _ z1 => ?_) (fun q => absurd rfl q))
      · refine Vw.goto_ (n := 140) (de_goto_ (B 133 _ rfl) (B 134 _ rfl) (B 135 _ rfl)) rfl ?_
        exact Vw.vret (de_return_ (B 140 _ rfl)) rfl ⟨rfl, (hok (i + 2) (l + 1) _ (pPart_w hne hv z ⟨ord_y c_111, by first | exact Or.inl c_117 | exact Or.inr c_123⟩ ⟨z1, z2⟩) (by omega) (lt_nt hp hlt z1 (by decide)) (by omega))⟩
      · refine Vw.goto_ (n := 140) (de_goto_ (B 133 _ rfl) (B 134 _ rfl) (B 135 _ rfl)) rfl ?_
        exact Vw.vret (de_return_ (B 140 _ rfl)) rfl ⟨rfl, (her (i + 1) _ _ (pPart_we hne hv z ⟨ord_y c_111, by first | exact Or.inl c_117 | exact Or.inr c_123⟩ z1) hlt)⟩
  refine Vw.aload_n (de_aload_0 (B 0 _ rfl)) 0 rfl (n := 1) rfl ?_
  refine Vw.ivi0 (mi' := mX12_fine) (de_invokevirtual (B 1 _ rfl) (B 2 _ rfl) (B 3 _ rfl)) ml_X12_191 mv_X12_fine hM.k (Nat.le_of_ble_eq_true rfl) (n := 4) rfl (c_X12_fine hM ?_)
  skip
  refine Vw.if_ne (tgt := 8) (n := 7) (de_if_ne (B 4 _ rfl) (B 5 _ rfl) (B 6 _ rfl)) rfl rfl (fun c_4 => ?_) (fun c_4 => ?_)
  · refine Vw.aload_n (de_aload_0 (B 8 _ rfl)) 0 rfl (n := 9) rfl ?_
    refine Vw.getR (de_getfield (B 9 _ rfl) (B 10 _ rfl) (B 11 _ rfl)) fl_X12_50 rfl hM.k (MS_code hM).1 (n := 12) rfl ?_
    refine Vw.aload_n (de_aload_0 (B 12 _ rfl)) 0 rfl (n := 13) rfl ?_
    refine Vw.getI (de_getfield (B 13 _ rfl) (B 14 _ rfl) (B 15 _ rfl)) fl_X12_195 rfl hM.k (n := 16) rfl ?_
    rw [pm_t]
    refine Vw.iald (de_iaload (B 16 _ rfl)) (MS_code hM).2 (vIx_nI (j := i) (by have := hp.1; omega) (by decide)) (n := 17) rfl ?_
    rw [pm_o (by omega)]
    refine Vw.istore_n (lv2 := [(0, _), (1, _), (2, _)]) (de_istore_2 (B 17 _ rfl)) rfl (by decide) [1, 2, 0] rfl (n := 18) rfl ?_
    refine Vw.iload_n (de_iload_2 (B 18 _ rfl)) 2 rfl (n := 19) rfl ?_
    refine Vw.bipush (v := 91) (de_bipush (B 19 _ rfl) (B 20 _ rfl)) rfl (n := 21) rfl ?_
    refine Vw.isi1 (mi' := mX12_sign) (de_invokestatic (B 21 _ rfl) (B 22 _ rfl) (B 23 _ rfl)) ml_X12_239 ms_X12_sign (Nat.le_of_ble_eq_true rfl) (n := 24) rfl (c_X12_sign ?_)
    rw [show (100 + 91 : Int32) = 191 from rfl]
    refine Vw.icmp_ne (tgt := 74) (n := 27) (de_icmp_ne (B 24 _ rfl) (B 25 _ rfl) (B 26 _ rfl)) rfl rfl (fun c_24 => ?_) (fun c_24 => ?_)
    · refine Vw.iload_n (de_iload_2 (B 74 _ rfl)) 2 rfl (n := 75) rfl ?_
      refine Vw.bipush (v := 50) (de_bipush (B 75 _ rfl) (B 76 _ rfl)) rfl (n := 77) rfl ?_
      refine Vw.icmp_ne (tgt := 95) (n := 80) (de_icmp_ne (B 77 _ rfl) (B 78 _ rfl) (B 79 _ rfl)) rfl rfl (fun c_77 => ?_) (fun c_77 => ?_)
      · refine Vw.aload_n (de_aload_0 (B 95 _ rfl)) 0 rfl (n := 96) rfl ?_
        refine Vw.iload_n (de_iload_2 (B 96 _ rfl)) 2 rfl (n := 97) rfl ?_
        refine Vw.ivi1 (mi' := mX12_isValue) (de_invokevirtual (B 97 _ rfl) (B 98 _ rfl) (B 99 _ rfl)) ml_X12_249 mv_X12_isValue hM.k (Nat.le_of_ble_eq_true rfl) (n := 100) rfl (c_X12_isValue hM ?_)
        skip
        refine Vw.if_eq (tgt := 136) (n := 103) (de_if_eq (B 100 _ rfl) (B 101 _ rfl) (B 102 _ rfl)) rfl rfl (fun c_100 => ?_) (fun c_100 => ?_)
        · refine Vw.aload_n (de_aload_0 (B 136 _ rfl)) 0 rfl (n := 137) rfl ?_
          refine Vw.ivv0 (mi' := mX12_faults) (de_invokevirtual (B 137 _ rfl) (B 138 _ rfl) (B 139 _ rfl)) ml_X12_201 mv_X12_faults hM.k (Nat.le_of_ble_eq_true rfl) (n := 140) rfl (c_X12_faults hM hp hi (fun _ => ?_) (fun q => absurd rfl q))
          exact Vw.vret (de_return_ (B 140 _ rfl)) rfl ⟨rfl, (her i _ _ (pPart_e0 c_24 (by rintro (q | q); (first | exact c_77 q.1 | exact c_92 q.2); exact val_n c_100 q)) hi)⟩
        refine val c_24 ?_
        first
        | exact Or.inl ⟨c_77, c_92⟩
        | exact Or.inr (val_y c_100)
      refine Vw.aload_n (de_aload_0 (B 80 _ rfl)) 0 rfl (n := 81) rfl ?_
      refine Vw.getR (de_getfield (B 81 _ rfl) (B 82 _ rfl) (B 83 _ rfl)) fl_X12_53 rfl hM.k (MS_value hM).1 (n := 84) rfl ?_
      refine Vw.aload_n (de_aload_0 (B 84 _ rfl)) 0 rfl (n := 85) rfl ?_
      refine Vw.getI (de_getfield (B 85 _ rfl) (B 86 _ rfl) (B 87 _ rfl)) fl_X12_195 rfl hM.k (n := 88) rfl ?_
      rw [pm_t]
      refine Vw.iald (de_iaload (B 88 _ rfl)) (MS_value hM).2 (vIx_nI (j := i) (by have := hp.1; omega) (by decide)) (n := 89) rfl ?_
      rw [pm_o (by omega)]
      refine Vw.sipush (v := 1000) (de_sipush (B 89 _ rfl) (B 90 _ rfl) (B 91 _ rfl)) rfl (n := 92) rfl ?_
      refine Vw.icmp_le (tgt := 103) (n := 95) (de_icmp_le (B 92 _ rfl) (B 93 _ rfl) (B 94 _ rfl)) rfl rfl (fun c_92 => ?_) (fun c_92 => ?_)
      · refine val c_24 ?_
        first
        | exact Or.inl ⟨c_77, c_92⟩
        | exact Or.inr (val_y c_100)
      refine Vw.aload_n (de_aload_0 (B 95 _ rfl)) 0 rfl (n := 96) rfl ?_
      refine Vw.iload_n (de_iload_2 (B 96 _ rfl)) 2 rfl (n := 97) rfl ?_
      refine Vw.ivi1 (mi' := mX12_isValue) (de_invokevirtual (B 97 _ rfl) (B 98 _ rfl) (B 99 _ rfl)) ml_X12_249 mv_X12_isValue hM.k (Nat.le_of_ble_eq_true rfl) (n := 100) rfl (c_X12_isValue hM ?_)
      skip
      refine Vw.if_eq (tgt := 136) (n := 103) (de_if_eq (B 100 _ rfl) (B 101 _ rfl) (B 102 _ rfl)) rfl rfl (fun c_100 => ?_) (fun c_100 => ?_)
      · refine Vw.aload_n (de_aload_0 (B 136 _ rfl)) 0 rfl (n := 137) rfl ?_
        refine Vw.ivv0 (mi' := mX12_faults) (de_invokevirtual (B 137 _ rfl) (B 138 _ rfl) (B 139 _ rfl)) ml_X12_201 mv_X12_faults hM.k (Nat.le_of_ble_eq_true rfl) (n := 140) rfl (c_X12_faults hM hp hi (fun _ => ?_) (fun q => absurd rfl q))
        exact Vw.vret (de_return_ (B 140 _ rfl)) rfl ⟨rfl, (her i _ _ (pPart_e0 c_24 (by rintro (q | q); (first | exact c_77 q.1 | exact c_92 q.2); exact val_n c_100 q)) hi)⟩
      refine val c_24 ?_
      first
      | exact Or.inl ⟨c_77, c_92⟩
      | exact Or.inr (val_y c_100)
    refine Vw.iload_n (de_iload_1 (B 27 _ rfl)) 1 rfl (n := 28) rfl ?_
    refine Vw.bipush (v := 8) (de_bipush (B 28 _ rfl) (B 29 _ rfl)) rfl (n := 30) rfl ?_
    refine Vw.icmp_ne (tgt := 37) (n := 33) (de_icmp_ne (B 30 _ rfl) (B 31 _ rfl) (B 32 _ rfl)) rfl rfl (fun c_30 => ?_) (fun c_30 => ?_)
    · exact absurd rfl c_30
    refine Vw.aload_n (de_aload_0 (B 33 _ rfl)) 0 rfl (n := 34) rfl ?_
    refine Vw.ivv0 (mi' := mX12_faults) (de_invokevirtual (B 34 _ rfl) (B 35 _ rfl) (B 36 _ rfl)) ml_X12_201 mv_X12_faults hM.k (Nat.le_of_ble_eq_true rfl) (n := 37) rfl (c_X12_faults hM hp hi (fun _ => ?_) (fun q => absurd rfl q))
    refine Vw.aload_n (de_aload_0 (B 37 _ rfl)) 0 rfl (n := 38) rfl ?_
    refine Vw.ivi0 (mi' := mX12_fine) (de_invokevirtual (B 38 _ rfl) (B 39 _ rfl) (B 40 _ rfl)) ml_X12_191 mv_X12_fine hM.k (Nat.le_of_ble_eq_true rfl) (n := 41) rfl (c_X12_fine hM ?_)
    refine Vw.if_ne (tgt := 45) (n := 44) (de_if_ne (B 41 _ rfl) (B 42 _ rfl) (B 43 _ rfl)) rfl rfl (fun c_41 => ?_) (fun c_41 => ?_)
    · exact absurd (zF0 (hp.2.2 i hi)) c_41
    exact Vw.vret (de_return_ (B 44 _ rfl)) rfl ⟨rfl, (her i _ _ (pPart_b0 c_24) hi)⟩
  exact absurd c_4 (by decide)
theorem rc_partS {D dp : Nat} {P : (Nat → Int32) → (Nat → Int32) → Bool → Nat → Nat → tR tD} (hdp : dp < 8) (hS : RC mX12_readSum (D + 3) (dp + 1) P) : RC mX12_readPart (D + 4) dp (fun cd vl o => pPart cd vl o (some (P cd vl o))) := by
  intro d S I L Q r nt i l hM hp hi hl hok her
  refine Vc.of rfl (Nat.le_of_ble_eq_true rfl) ?_
  have B := bs_X12_readPart
  show Vw mX12_readPart (d + (D + 4)) 0 0 0 0 (VvQ Q) 0 [(0, .ref r), (1, .int (nI dp))] [] S (pm I r (nI i) (nI l) (-1)) L
  have val : ¬ I (r + 9) i = 191 → ((I (r + 9) i = 50 ∧ I (r + 10) i ≤ 1000) ∨ isVal (decide (¬ I r 8 = 0)) (I (r + 9) i) = true) → Vw mX12_readPart (d + (D + 4)) 0 0 0 0 (VvQ Q) 103 [(0, .ref r), (1, .int (nI dp)), (2, .int (I (r + 9) i))] [] S (pm I r (nI i) (nI l) (-1)) L := by
    intro hne hv
    have hlt : i < nt := by
      rcases Nat.lt_or_ge i nt with q | q
      · exact q
      · have e0 : I (r + 9) i = 0 := by rw [show i = nt by omega]; exact hp.2.1
        rw [e0] at hv
        rcases hv with hv | hv
        · exact absurd hv.1 (by decide)
        · exact absurd hv (by cases decide (¬ I r 8 = 0) <;> decide)
    refine Vw.aload_n (de_aload_0 (B 103 _ rfl)) 0 rfl (n := 104) rfl ?_
    refine Vw.ivv0 (mi' := mX12_leaf) (de_invokevirtual (B 104 _ rfl) (B 105 _ rfl) (B 106 _ rfl)) ml_X12_252 mv_X12_leaf hM.k (Nat.le_of_ble_eq_true rfl) (n := 107) rfl (c_X12_leaf hM hp hi hl (fun z => ?_) (fun z => ?_))
    · refine Vw.aload_n (de_aload_0 (B 107 _ rfl)) 0 rfl (n := 108) rfl ?_
      refine Vw.getI (de_getfield (B 108 _ rfl) (B 109 _ rfl) (B 110 _ rfl)) fl_X12_207 rfl hM.k (n := 111) rfl ?_
      rw [pm_k (by decide) (by decide) (by decide)]
      refine Vw.if_eq (tgt := 140) (n := 114) (de_if_eq (B 111 _ rfl) (B 112 _ rfl) (B 113 _ rfl)) rfl rfl (fun c_111 => ?_) (fun c_111 => ?_)
      · exact Vw.vret (de_return_ (B 140 _ rfl)) rfl ⟨rfl, (her i _ _ (pPart_e1 hne hv z) hi)⟩
      refine Vw.iload_n (de_iload_2 (B 114 _ rfl)) 2 rfl (n := 115) rfl ?_
      refine Vw.bipush (v := 13) (de_bipush (B 115 _ rfl) (B 116 _ rfl)) rfl (n := 117) rfl ?_
      refine Vw.icmp_eq (tgt := 126) (n := 120) (de_icmp_eq (B 117 _ rfl) (B 118 _ rfl) (B 119 _ rfl)) rfl rfl (fun c_117 => ?_) (fun c_117 => ?_)
      · refine Vw.aload_n (de_aload_0 (B 126 _ rfl)) 0 rfl (n := 127) rfl ?_
        refine Vw.iconst (v := 0) (de_iconst_0 (B 127 _ rfl)) rfl (n := 128) rfl ?_
        refine Vw.bipush (v := 7) (de_bipush (B 128 _ rfl) (B 129 _ rfl)) rfl (n := 130) rfl ?_
        refine Vw.ivv2 (mi' := mX12_mustNumber) (de_invokevirtual (B 130 _ rfl) (B 131 _ rfl) (B 132 _ rfl)) ml_X12_223 mv_X12_mustNumber hM.k (Nat.le_of_ble_eq_true rfl) (n := 133) rfl (c_X12_mustNumber hM hp hi (fun q => absurd q (hp.2.2 i hi)) (fun q => absurd q (hp.2.2 i hi)) (fun _ => ?_))
        refine Vw.goto_ (n := 140) (de_goto_ (B 133 _ rfl) (B 134 _ rfl) (B 135 _ rfl)) rfl ?_
        exact Vw.vret (de_return_ (B 140 _ rfl)) rfl ⟨rfl, (her i _ _ (pPart_e1 hne hv z) hi)⟩
      refine Vw.iload_n (de_iload_2 (B 120 _ rfl)) 2 rfl (n := 121) rfl ?_
      refine Vw.bipush (v := 14) (de_bipush (B 121 _ rfl) (B 122 _ rfl)) rfl (n := 123) rfl ?_
      refine Vw.icmp_ne (tgt := 140) (n := 126) (de_icmp_ne (B 123 _ rfl) (B 124 _ rfl) (B 125 _ rfl)) rfl rfl (fun c_123 => ?_) (fun c_123 => ?_)
      · exact Vw.vret (de_return_ (B 140 _ rfl)) rfl ⟨rfl, (her i _ _ (pPart_e1 hne hv z) hi)⟩
      refine Vw.aload_n (de_aload_0 (B 126 _ rfl)) 0 rfl (n := 127) rfl ?_
      refine Vw.iconst (v := 0) (de_iconst_0 (B 127 _ rfl)) rfl (n := 128) rfl ?_
      refine Vw.bipush (v := 7) (de_bipush (B 128 _ rfl) (B 129 _ rfl)) rfl (n := 130) rfl ?_
      refine Vw.ivv2 (mi' := mX12_mustNumber) (de_invokevirtual (B 130 _ rfl) (B 131 _ rfl) (B 132 _ rfl)) ml_X12_223 mv_X12_mustNumber hM.k (Nat.le_of_ble_eq_true rfl) (n := 133) rfl (c_X12_mustNumber hM hp hi (fun q => absurd q (hp.2.2 i hi)) (fun q => absurd q (hp.2.2 i hi)) (fun _ => ?_))
      refine Vw.goto_ (n := 140) (de_goto_ (B 133 _ rfl) (B 134 _ rfl) (B 135 _ rfl)) rfl ?_
      exact Vw.vret (de_return_ (B 140 _ rfl)) rfl ⟨rfl, (her i _ _ (pPart_e1 hne hv z) hi)⟩
    · refine Vw.aload_n (de_aload_0 (B 107 _ rfl)) 0 rfl (n := 108) rfl ?_
      refine Vw.getI (de_getfield (B 108 _ rfl) (B 109 _ rfl) (B 110 _ rfl)) fl_X12_207 rfl hM.k (n := 111) rfl ?_
      rw [pm_k (by decide) (by decide) (by decide)]
      refine Vw.if_eq (tgt := 140) (n := 114) (de_if_eq (B 111 _ rfl) (B 112 _ rfl) (B 113 _ rfl)) rfl rfl (fun c_111 => ?_) (fun c_111 => ?_)
      · exact Vw.vret (de_return_ (B 140 _ rfl)) rfl ⟨rfl, (hok (i + 1) (l + 1) _ (pPart_n hne hv z (ord_n (by first | exact Or.inl c_111 | exact Or.inr ⟨c_117, c_123⟩))) (by omega) hlt (by omega))⟩
      refine Vw.iload_n (de_iload_2 (B 114 _ rfl)) 2 rfl (n := 115) rfl ?_
      refine Vw.bipush (v := 13) (de_bipush (B 115 _ rfl) (B 116 _ rfl)) rfl (n := 117) rfl ?_
      refine Vw.icmp_eq (tgt := 126) (n := 120) (de_icmp_eq (B 117 _ rfl) (B 118 _ rfl) (B 119 _ rfl)) rfl rfl (fun c_117 => ?_) (fun c_117 => ?_)
      · refine Vw.aload_n (de_aload_0 (B 126 _ rfl)) 0 rfl (n := 127) rfl ?_
        refine Vw.iconst (v := 0) (de_iconst_0 (B 127 _ rfl)) rfl (n := 128) rfl ?_
        refine Vw.bipush (v := 7) (de_bipush (B 128 _ rfl) (B 129 _ rfl)) rfl (n := 130) rfl ?_
        refine Vw.ivv2 (mi' := mX12_mustNumber) (de_invokevirtual (B 130 _ rfl) (B 131 _ rfl) (B 132 _ rfl)) ml_X12_223 mv_X12_mustNumber hM.k (Nat.le_of_ble_eq_true rfl) (n := 133) rfl (c_X12_mustNumber hM hp hlt (fun _ z1 z2 => ?_) (fun _ z1 => ?_) (fun q => absurd rfl q))
        · refine Vw.goto_ (n := 140) (de_goto_ (B 133 _ rfl) (B 134 _ rfl) (B 135 _ rfl)) rfl ?_
          exact Vw.vret (de_return_ (B 140 _ rfl)) rfl ⟨rfl, (hok (i + 2) (l + 1) _ (pPart_w hne hv z ⟨ord_y c_111, by first | exact Or.inl c_117 | exact Or.inr c_123⟩ ⟨z1, z2⟩) (by omega) (lt_nt hp hlt z1 (by decide)) (by omega))⟩
        · refine Vw.goto_ (n := 140) (de_goto_ (B 133 _ rfl) (B 134 _ rfl) (B 135 _ rfl)) rfl ?_
          exact Vw.vret (de_return_ (B 140 _ rfl)) rfl ⟨rfl, (her (i + 1) _ _ (pPart_we hne hv z ⟨ord_y c_111, by first | exact Or.inl c_117 | exact Or.inr c_123⟩ z1) hlt)⟩
      refine Vw.iload_n (de_iload_2 (B 120 _ rfl)) 2 rfl (n := 121) rfl ?_
      refine Vw.bipush (v := 14) (de_bipush (B 121 _ rfl) (B 122 _ rfl)) rfl (n := 123) rfl ?_
      refine Vw.icmp_ne (tgt := 140) (n := 126) (de_icmp_ne (B 123 _ rfl) (B 124 _ rfl) (B 125 _ rfl)) rfl rfl (fun c_123 => ?_) (fun c_123 => ?_)
      · exact Vw.vret (de_return_ (B 140 _ rfl)) rfl ⟨rfl, (hok (i + 1) (l + 1) _ (pPart_n hne hv z (ord_n (by first | exact Or.inl c_111 | exact Or.inr ⟨c_117, c_123⟩))) (by omega) hlt (by omega))⟩
      refine Vw.aload_n (de_aload_0 (B 126 _ rfl)) 0 rfl (n := 127) rfl ?_
      refine Vw.iconst (v := 0) (de_iconst_0 (B 127 _ rfl)) rfl (n := 128) rfl ?_
      refine Vw.bipush (v := 7) (de_bipush (B 128 _ rfl) (B 129 _ rfl)) rfl (n := 130) rfl ?_
      refine Vw.ivv2 (mi' := mX12_mustNumber) (de_invokevirtual (B 130 _ rfl) (B 131 _ rfl) (B 132 _ rfl)) ml_X12_223 mv_X12_mustNumber hM.k (Nat.le_of_ble_eq_true rfl) (n := 133) rfl (c_X12_mustNumber hM hp hlt (fun _ z1 z2 => ?_) (fun _ z1 => ?_) (fun q => absurd rfl q))
      · refine Vw.goto_ (n := 140) (de_goto_ (B 133 _ rfl) (B 134 _ rfl) (B 135 _ rfl)) rfl ?_
        exact Vw.vret (de_return_ (B 140 _ rfl)) rfl ⟨rfl, (hok (i + 2) (l + 1) _ (pPart_w hne hv z ⟨ord_y c_111, by first | exact Or.inl c_117 | exact Or.inr c_123⟩ ⟨z1, z2⟩) (by omega) (lt_nt hp hlt z1 (by decide)) (by omega))⟩
      · refine Vw.goto_ (n := 140) (de_goto_ (B 133 _ rfl) (B 134 _ rfl) (B 135 _ rfl)) rfl ?_
        exact Vw.vret (de_return_ (B 140 _ rfl)) rfl ⟨rfl, (her (i + 1) _ _ (pPart_we hne hv z ⟨ord_y c_111, by first | exact Or.inl c_117 | exact Or.inr c_123⟩ z1) hlt)⟩
  refine Vw.aload_n (de_aload_0 (B 0 _ rfl)) 0 rfl (n := 1) rfl ?_
  refine Vw.ivi0 (mi' := mX12_fine) (de_invokevirtual (B 1 _ rfl) (B 2 _ rfl) (B 3 _ rfl)) ml_X12_191 mv_X12_fine hM.k (Nat.le_of_ble_eq_true rfl) (n := 4) rfl (c_X12_fine hM ?_)
  skip
  refine Vw.if_ne (tgt := 8) (n := 7) (de_if_ne (B 4 _ rfl) (B 5 _ rfl) (B 6 _ rfl)) rfl rfl (fun c_4 => ?_) (fun c_4 => ?_)
  · refine Vw.aload_n (de_aload_0 (B 8 _ rfl)) 0 rfl (n := 9) rfl ?_
    refine Vw.getR (de_getfield (B 9 _ rfl) (B 10 _ rfl) (B 11 _ rfl)) fl_X12_50 rfl hM.k (MS_code hM).1 (n := 12) rfl ?_
    refine Vw.aload_n (de_aload_0 (B 12 _ rfl)) 0 rfl (n := 13) rfl ?_
    refine Vw.getI (de_getfield (B 13 _ rfl) (B 14 _ rfl) (B 15 _ rfl)) fl_X12_195 rfl hM.k (n := 16) rfl ?_
    rw [pm_t]
    refine Vw.iald (de_iaload (B 16 _ rfl)) (MS_code hM).2 (vIx_nI (j := i) (by have := hp.1; omega) (by decide)) (n := 17) rfl ?_
    rw [pm_o (by omega)]
    refine Vw.istore_n (lv2 := [(0, _), (1, _), (2, _)]) (de_istore_2 (B 17 _ rfl)) rfl (by decide) [1, 2, 0] rfl (n := 18) rfl ?_
    refine Vw.iload_n (de_iload_2 (B 18 _ rfl)) 2 rfl (n := 19) rfl ?_
    refine Vw.bipush (v := 91) (de_bipush (B 19 _ rfl) (B 20 _ rfl)) rfl (n := 21) rfl ?_
    refine Vw.isi1 (mi' := mX12_sign) (de_invokestatic (B 21 _ rfl) (B 22 _ rfl) (B 23 _ rfl)) ml_X12_239 ms_X12_sign (Nat.le_of_ble_eq_true rfl) (n := 24) rfl (c_X12_sign ?_)
    rw [show (100 + 91 : Int32) = 191 from rfl]
    refine Vw.icmp_ne (tgt := 74) (n := 27) (de_icmp_ne (B 24 _ rfl) (B 25 _ rfl) (B 26 _ rfl)) rfl rfl (fun c_24 => ?_) (fun c_24 => ?_)
    · refine Vw.iload_n (de_iload_2 (B 74 _ rfl)) 2 rfl (n := 75) rfl ?_
      refine Vw.bipush (v := 50) (de_bipush (B 75 _ rfl) (B 76 _ rfl)) rfl (n := 77) rfl ?_
      refine Vw.icmp_ne (tgt := 95) (n := 80) (de_icmp_ne (B 77 _ rfl) (B 78 _ rfl) (B 79 _ rfl)) rfl rfl (fun c_77 => ?_) (fun c_77 => ?_)
      · refine Vw.aload_n (de_aload_0 (B 95 _ rfl)) 0 rfl (n := 96) rfl ?_
        refine Vw.iload_n (de_iload_2 (B 96 _ rfl)) 2 rfl (n := 97) rfl ?_
        refine Vw.ivi1 (mi' := mX12_isValue) (de_invokevirtual (B 97 _ rfl) (B 98 _ rfl) (B 99 _ rfl)) ml_X12_249 mv_X12_isValue hM.k (Nat.le_of_ble_eq_true rfl) (n := 100) rfl (c_X12_isValue hM ?_)
        skip
        refine Vw.if_eq (tgt := 136) (n := 103) (de_if_eq (B 100 _ rfl) (B 101 _ rfl) (B 102 _ rfl)) rfl rfl (fun c_100 => ?_) (fun c_100 => ?_)
        · refine Vw.aload_n (de_aload_0 (B 136 _ rfl)) 0 rfl (n := 137) rfl ?_
          refine Vw.ivv0 (mi' := mX12_faults) (de_invokevirtual (B 137 _ rfl) (B 138 _ rfl) (B 139 _ rfl)) ml_X12_201 mv_X12_faults hM.k (Nat.le_of_ble_eq_true rfl) (n := 140) rfl (c_X12_faults hM hp hi (fun _ => ?_) (fun q => absurd rfl q))
          exact Vw.vret (de_return_ (B 140 _ rfl)) rfl ⟨rfl, (her i _ _ (pPart_e0 c_24 (by rintro (q | q); (first | exact c_77 q.1 | exact c_92 q.2); exact val_n c_100 q)) hi)⟩
        refine val c_24 ?_
        first
        | exact Or.inl ⟨c_77, c_92⟩
        | exact Or.inr (val_y c_100)
      refine Vw.aload_n (de_aload_0 (B 80 _ rfl)) 0 rfl (n := 81) rfl ?_
      refine Vw.getR (de_getfield (B 81 _ rfl) (B 82 _ rfl) (B 83 _ rfl)) fl_X12_53 rfl hM.k (MS_value hM).1 (n := 84) rfl ?_
      refine Vw.aload_n (de_aload_0 (B 84 _ rfl)) 0 rfl (n := 85) rfl ?_
      refine Vw.getI (de_getfield (B 85 _ rfl) (B 86 _ rfl) (B 87 _ rfl)) fl_X12_195 rfl hM.k (n := 88) rfl ?_
      rw [pm_t]
      refine Vw.iald (de_iaload (B 88 _ rfl)) (MS_value hM).2 (vIx_nI (j := i) (by have := hp.1; omega) (by decide)) (n := 89) rfl ?_
      rw [pm_o (by omega)]
      refine Vw.sipush (v := 1000) (de_sipush (B 89 _ rfl) (B 90 _ rfl) (B 91 _ rfl)) rfl (n := 92) rfl ?_
      refine Vw.icmp_le (tgt := 103) (n := 95) (de_icmp_le (B 92 _ rfl) (B 93 _ rfl) (B 94 _ rfl)) rfl rfl (fun c_92 => ?_) (fun c_92 => ?_)
      · refine val c_24 ?_
        first
        | exact Or.inl ⟨c_77, c_92⟩
        | exact Or.inr (val_y c_100)
      refine Vw.aload_n (de_aload_0 (B 95 _ rfl)) 0 rfl (n := 96) rfl ?_
      refine Vw.iload_n (de_iload_2 (B 96 _ rfl)) 2 rfl (n := 97) rfl ?_
      refine Vw.ivi1 (mi' := mX12_isValue) (de_invokevirtual (B 97 _ rfl) (B 98 _ rfl) (B 99 _ rfl)) ml_X12_249 mv_X12_isValue hM.k (Nat.le_of_ble_eq_true rfl) (n := 100) rfl (c_X12_isValue hM ?_)
      skip
      refine Vw.if_eq (tgt := 136) (n := 103) (de_if_eq (B 100 _ rfl) (B 101 _ rfl) (B 102 _ rfl)) rfl rfl (fun c_100 => ?_) (fun c_100 => ?_)
      · refine Vw.aload_n (de_aload_0 (B 136 _ rfl)) 0 rfl (n := 137) rfl ?_
        refine Vw.ivv0 (mi' := mX12_faults) (de_invokevirtual (B 137 _ rfl) (B 138 _ rfl) (B 139 _ rfl)) ml_X12_201 mv_X12_faults hM.k (Nat.le_of_ble_eq_true rfl) (n := 140) rfl (c_X12_faults hM hp hi (fun _ => ?_) (fun q => absurd rfl q))
        exact Vw.vret (de_return_ (B 140 _ rfl)) rfl ⟨rfl, (her i _ _ (pPart_e0 c_24 (by rintro (q | q); (first | exact c_77 q.1 | exact c_92 q.2); exact val_n c_100 q)) hi)⟩
      refine val c_24 ?_
      first
      | exact Or.inl ⟨c_77, c_92⟩
      | exact Or.inr (val_y c_100)
    refine Vw.iload_n (de_iload_1 (B 27 _ rfl)) 1 rfl (n := 28) rfl ?_
    refine Vw.bipush (v := 8) (de_bipush (B 28 _ rfl) (B 29 _ rfl)) rfl (n := 30) rfl ?_
    refine Vw.icmp_ne (tgt := 37) (n := 33) (de_icmp_ne (B 30 _ rfl) (B 31 _ rfl) (B 32 _ rfl)) rfl rfl (fun c_30 => ?_) (fun c_30 => ?_)
    · refine Vw.aload_n (de_aload_0 (B 37 _ rfl)) 0 rfl (n := 38) rfl ?_
      refine Vw.ivi0 (mi' := mX12_fine) (de_invokevirtual (B 38 _ rfl) (B 39 _ rfl) (B 40 _ rfl)) ml_X12_191 mv_X12_fine hM.k (Nat.le_of_ble_eq_true rfl) (n := 41) rfl (c_X12_fine hM ?_)
      refine Vw.if_ne (tgt := 45) (n := 44) (de_if_ne (B 41 _ rfl) (B 42 _ rfl) (B 43 _ rfl)) rfl rfl (fun c_41 => ?_) (fun c_41 => ?_)
      · refine Vw.aload_n (de_aload_0 (B 45 _ rfl)) 0 rfl (n := 46) rfl ?_
        refine Vw.dup (de_dup (B 46 _ rfl)) rfl (n := 47) rfl ?_
        refine Vw.getI (de_getfield (B 47 _ rfl) (B 48 _ rfl) (B 49 _ rfl)) fl_X12_195 rfl hM.k (n := 50) rfl ?_
        rw [pm_t]
        refine Vw.iconst (v := 1) (de_iconst_1 (B 50 _ rfl)) rfl (n := 51) rfl ?_
        refine Vw.iadd (de_iadd (B 51 _ rfl)) (n := 52) rfl ?_
        rw [nI_1]
        refine Vw.putI (de_putfield (B 52 _ rfl) (B 53 _ rfl) (B 54 _ rfl)) fl_X12_195 hM.k rfl rfl (n := 55) rfl ?_
        rw [pm_ut]
        refine Vw.aload_n (de_aload_0 (B 55 _ rfl)) 0 rfl (n := 56) rfl ?_
        refine Vw.iload_n (de_iload_1 (B 56 _ rfl)) 1 rfl (n := 57) rfl ?_
        refine Vw.iconst (v := 1) (de_iconst_1 (B 57 _ rfl)) rfl (n := 58) rfl ?_
        refine Vw.iadd (de_iadd (B 58 _ rfl)) (n := 59) rfl ?_
        rw [nI_1 dp]
        refine Vw.ivv1 (mi' := mX12_readSum) (de_invokevirtual (B 59 _ rfl) (B 60 _ rfl) (B 61 _ rfl)) ml_X12_211 mv_X12_readSum hM.k (Nat.le_of_ble_eq_true rfl) (n := 62) rfl (hS _ _ _ _ _ _ _ _ _ hM hp (lt_nt hp hi c_24 (by decide)) hl (fun j l2 dn hj1 hj0 hj2 hj3 => ?_) (fun f t l2 hf1 hf2 => ?_))
        · refine Vw.aload_n (de_aload_0 (B 62 _ rfl)) 0 rfl (n := 63) rfl ?_
          refine Vw.bipush (v := 93) (de_bipush (B 63 _ rfl) (B 64 _ rfl)) rfl (n := 65) rfl ?_
          refine Vw.isi1 (mi' := mX12_sign) (de_invokestatic (B 65 _ rfl) (B 66 _ rfl) (B 67 _ rfl)) ml_X12_239 ms_X12_sign (Nat.le_of_ble_eq_true rfl) (n := 68) rfl (c_X12_sign ?_)
          rw [show (100 + 93 : Int32) = 193 from rfl]
          refine Vw.ivv1 (mi' := mX12_must) (de_invokevirtual (B 68 _ rfl) (B 69 _ rfl) (B 70 _ rfl)) ml_X12_214 mv_X12_must hM.k (Nat.le_of_ble_eq_true rfl) (n := 71) rfl (c_X12_must hM hp hj2 (fun _ z => ?_) (fun _ z => ?_) (fun q => absurd rfl q))
          · refine Vw.goto_ (n := 140) (de_goto_ (B 71 _ rfl) (B 72 _ rfl) (B 73 _ rfl)) rfl ?_
            exact Vw.vret (de_return_ (B 140 _ rfl)) rfl ⟨rfl, (hok (j + 1) l2 dn (pPart_b c_24 hj1 z) (by omega) (lt_nt hp hj2 z (by decide)) hj3)⟩
          · refine Vw.goto_ (n := 140) (de_goto_ (B 71 _ rfl) (B 72 _ rfl) (B 73 _ rfl)) rfl ?_
            exact Vw.vret (de_return_ (B 140 _ rfl)) rfl ⟨rfl, (her j _ _ (pPart_be c_24 hj1 z) hj2)⟩
        · refine Vw.aload_n (de_aload_0 (B 62 _ rfl)) 0 rfl (n := 63) rfl ?_
          refine Vw.bipush (v := 93) (de_bipush (B 63 _ rfl) (B 64 _ rfl)) rfl (n := 65) rfl ?_
          refine Vw.isi1 (mi' := mX12_sign) (de_invokestatic (B 65 _ rfl) (B 66 _ rfl) (B 67 _ rfl)) ml_X12_239 ms_X12_sign (Nat.le_of_ble_eq_true rfl) (n := 68) rfl (c_X12_sign ?_)
          rw [show (100 + 93 : Int32) = 193 from rfl]
          refine Vw.ivv1 (mi' := mX12_must) (de_invokevirtual (B 68 _ rfl) (B 69 _ rfl) (B 70 _ rfl)) ml_X12_214 mv_X12_must hM.k (Nat.le_of_ble_eq_true rfl) (n := 71) rfl (c_X12_must_nf hM (hp.2.2 f hf2) ?_)
          refine Vw.goto_ (n := 140) (de_goto_ (B 71 _ rfl) (B 72 _ rfl) (B 73 _ rfl)) rfl ?_
          exact Vw.vret (de_return_ (B 140 _ rfl)) rfl ⟨rfl, (her f _ _ (pPart_bf c_24 hf1) hf2)⟩
      exact absurd c_41 (by decide)
    exact absurd (nI_inj (b := 8) (by omega) (by decide) c_30) (by omega)
  exact absurd c_4 (by decide)
theorem pMany_e {cd : Nat → Int32} {ops : Int32 → Bool} {comb : Int32 → tD → tD → tD} {x : Nat → Nat → tR tD} {i l e : Nat} (h : x i l = .error e) : pMany cd ops comb x i l = .error e := by unfold pMany; rw [h]
theorem pMany_o {cd : Nat → Int32} {ops : Int32 → Bool} {comb : Int32 → tD → tD → tD} {x : Nat → Nat → tR tD} {i l j l2 : Nat} {d : tD} (h : x i l = .ok (j, l2, d)) : pMany cd ops comb x i l = pChain cd ops comb x 402 j l2 d := by unfold pMany; rw [h]
theorem pChain_0 {cd : Nat → Int32} {ops : Int32 → Bool} {comb : Int32 → tD → tD → tD} {x : Nat → Nat → tR tD} {f j l : Nat} {d : tD} (h : ¬ ops (cd j) = true) : pChain cd ops comb x (f + 1) j l d = .ok (j, l, d) := by rw [pChain, if_neg h]
theorem pChain_e {cd : Nat → Int32} {ops : Int32 → Bool} {comb : Int32 → tD → tD → tD} {x : Nat → Nat → tR tD} {f j l e : Nat} {d : tD} (h : ops (cd j) = true) (h2 : x (j + 1) l = .error e) : pChain cd ops comb x (f + 1) j l d = .error e := by rw [pChain, if_pos h, h2]
theorem pChain_o {cd : Nat → Int32} {ops : Int32 → Bool} {comb : Int32 → tD → tD → tD} {x : Nat → Nat → tR tD} {f j l j2 l2 : Nat} {d d2 : tD} (h : ops (cd j) = true) (h2 : x (j + 1) l = .ok (j2, l2, d2)) : pChain cd ops comb x (f + 1) j l d = pChain cd ops comb x f j2 l2 (comb (cd j) d d2) := by rw [pChain, if_pos h, h2]
theorem opT_n {c : Int32} (h1 : ¬ c = 142) (h2 : ¬ c = 147) (h3 : ¬ c = 137) : ¬ opT c = true := by simp [opT, h1, h2, h3]
theorem opS_n {c : Int32} (h1 : ¬ c = 143) (h2 : ¬ c = 145) : ¬ opS c = true := by simp [opS, h1, h2]
theorem rc_term {D dp : Nat} {P : (Nat → Int32) → (Nat → Int32) → Bool → Nat → Nat → tR tD} (hS : RC mX12_readPart (D + 3) dp P) : RC mX12_readTerm (D + 4) dp (fun cd vl o => pMany cd opT tBin (P cd vl o)) := by
  intro d S I L Q r nt i l hM hp hi hl hok her
  refine Vc.of rfl (Nat.le_of_ble_eq_true rfl) ?_
  have B := bs_X12_readTerm
  show Vw mX12_readTerm (d + (D + 4)) 0 0 0 0 (VvQ Q) 0 [(0, .ref r), (1, .int (nI dp))] [] S (pm I r (nI i) (nI l) (-1)) L
  have nf : ∀ e t l2, e ≤ nt → Q S (pm I r t l2 (I (r + 11) e)) L → Vw mX12_readTerm (d + (D + 4)) 0 0 0 0 (VvQ Q) 5 [(0, .ref r), (1, .int (nI dp))] [] S (pm I r t l2 (I (r + 11) e)) L := by
    intro e t l2 he hq
    have hb := hp.2.2 e he
    refine Vw.aload_n (de_aload_0 (B 5 _ rfl)) 0 rfl (n := 6) rfl ?_
    refine Vw.bipush (v := 42) (de_bipush (B 6 _ rfl) (B 7 _ rfl)) rfl (n := 8) rfl ?_
    refine Vw.isi1 (mi' := mX12_sign) (de_invokestatic (B 8 _ rfl) (B 9 _ rfl) (B 10 _ rfl)) ml_X12_239 ms_X12_sign (Nat.le_of_ble_eq_true rfl) (n := 11) rfl (c_X12_sign ?_)
    rw [show (100 + 42 : Int32) = 142 from rfl]
    refine Vw.ivi1 (mi' := mX12_takes0) (de_invokevirtual (B 11 _ rfl) (B 12 _ rfl) (B 13 _ rfl)) ml_X12_198 mv_X12_takes0 hM.k (Nat.le_of_ble_eq_true rfl) (n := 14) rfl (c_X12_takes0_nf hM hb ?_)
    refine Vw.if_ne (tgt := 41) (n := 17) (de_if_ne (B 14 _ rfl) (B 15 _ rfl) (B 16 _ rfl)) rfl rfl (fun c_14 => ?_) (fun c_14 => ?_)
    · exact absurd rfl c_14
    refine Vw.aload_n (de_aload_0 (B 17 _ rfl)) 0 rfl (n := 18) rfl ?_
    refine Vw.bipush (v := 47) (de_bipush (B 18 _ rfl) (B 19 _ rfl)) rfl (n := 20) rfl ?_
    refine Vw.isi1 (mi' := mX12_sign) (de_invokestatic (B 20 _ rfl) (B 21 _ rfl) (B 22 _ rfl)) ml_X12_239 ms_X12_sign (Nat.le_of_ble_eq_true rfl) (n := 23) rfl (c_X12_sign ?_)
    rw [show (100 + 47 : Int32) = 147 from rfl]
    refine Vw.ivi1 (mi' := mX12_takes0) (de_invokevirtual (B 23 _ rfl) (B 24 _ rfl) (B 25 _ rfl)) ml_X12_198 mv_X12_takes0 hM.k (Nat.le_of_ble_eq_true rfl) (n := 26) rfl (c_X12_takes0_nf hM hb ?_)
    refine Vw.if_ne (tgt := 41) (n := 29) (de_if_ne (B 26 _ rfl) (B 27 _ rfl) (B 28 _ rfl)) rfl rfl (fun c_26 => ?_) (fun c_26 => ?_)
    · exact absurd rfl c_26
    refine Vw.aload_n (de_aload_0 (B 29 _ rfl)) 0 rfl (n := 30) rfl ?_
    refine Vw.bipush (v := 37) (de_bipush (B 30 _ rfl) (B 31 _ rfl)) rfl (n := 32) rfl ?_
    refine Vw.isi1 (mi' := mX12_sign) (de_invokestatic (B 32 _ rfl) (B 33 _ rfl) (B 34 _ rfl)) ml_X12_239 ms_X12_sign (Nat.le_of_ble_eq_true rfl) (n := 35) rfl (c_X12_sign ?_)
    rw [show (100 + 37 : Int32) = 137 from rfl]
    refine Vw.ivi1 (mi' := mX12_takes0) (de_invokevirtual (B 35 _ rfl) (B 36 _ rfl) (B 37 _ rfl)) ml_X12_198 mv_X12_takes0 hM.k (Nat.le_of_ble_eq_true rfl) (n := 38) rfl (c_X12_takes0_nf hM hb ?_)
    refine Vw.if_eq (tgt := 49) (n := 41) (de_if_eq (B 38 _ rfl) (B 39 _ rfl) (B 40 _ rfl)) rfl rfl (fun c_38 => ?_) (fun c_38 => ?_)
    · exact Vw.vret (de_return_ (B 49 _ rfl)) rfl ⟨rfl, hq⟩
    exact absurd rfl c_38
  have loop : ∀ f j l dn, i ≤ j → j ≤ nt → nt < j + f → l ≤ 50 → (∀ j2 l2 d2, pChain (I (r + 9)) opT tBin (P (I (r + 9)) (I (r + 10)) (decide (¬ I r 8 = 0))) f j l dn = .ok (j2, l2, d2) → i ≤ j2 → j2 ≤ nt → l2 ≤ 50 → Q S (pm I r (nI j2) (nI l2) (-1)) L) → (∀ e t l2, pChain (I (r + 9)) opT tBin (P (I (r + 9)) (I (r + 10)) (decide (¬ I r 8 = 0))) f j l dn = .error e → e ≤ nt → Q S (pm I r t l2 (I (r + 11) e)) L) → Vw mX12_readTerm (d + (D + 4)) 0 0 0 0 (VvQ Q) 5 [(0, .ref r), (1, .int (nI dp))] [] S (pm I r (nI j) (nI l) (-1)) L := by
    intro f
    induction f with
    | zero => intro j l dn h0 h1 h2; exact absurd h2 (by omega)
    | succ f ih =>
      intro j l dn hij hj hf hl ho he
      have body : opT (I (r + 9) j) = true → j < nt → Vw mX12_readTerm (d + (D + 4)) 0 0 0 0 (VvQ Q) 41 [(0, .ref r), (1, .int (nI dp))] [] S (pm I r (nI (j + 1)) (nI l) (-1)) L := by
        intro zo hlt
        refine Vw.aload_n (de_aload_0 (B 41 _ rfl)) 0 rfl (n := 42) rfl ?_
        refine Vw.iload_n (de_iload_1 (B 42 _ rfl)) 1 rfl (n := 43) rfl ?_
        refine Vw.ivv1 (mi' := mX12_readPart) (de_invokevirtual (B 43 _ rfl) (B 44 _ rfl) (B 45 _ rfl)) ml_X12_246 mv_X12_readPart hM.k (Nat.le_of_ble_eq_true rfl) (n := 46) rfl (hS _ _ _ _ _ _ _ _ _ hM hp hlt hl (fun j2 l2 d2 z1 z0 z2 z3 => ?_) (fun e t l2 z1 z2 => ?_))
        · refine Vw.goto_ (n := 5) (de_goto_ (B 46 _ rfl) (B 47 _ rfl) (B 48 _ rfl)) rfl ?_
          exact ih j2 l2 _ (by omega) z2 (by omega) z3 (fun j3 l3 d3 y1 y0 y2 y3 => ho j3 l3 d3 (by rw [pChain_o zo z1]; exact y1) y0 y2 y3) (fun e t l3 y1 y2 => he e t l3 (by rw [pChain_o zo z1]; exact y1) y2)
        · refine Vw.goto_ (n := 5) (de_goto_ (B 46 _ rfl) (B 47 _ rfl) (B 48 _ rfl)) rfl ?_
          exact nf e t l2 z2 (he e t l2 (pChain_e zo z1) z2)
      refine Vw.aload_n (de_aload_0 (B 5 _ rfl)) 0 rfl (n := 6) rfl ?_
      refine Vw.bipush (v := 42) (de_bipush (B 6 _ rfl) (B 7 _ rfl)) rfl (n := 8) rfl ?_
      refine Vw.isi1 (mi' := mX12_sign) (de_invokestatic (B 8 _ rfl) (B 9 _ rfl) (B 10 _ rfl)) ml_X12_239 ms_X12_sign (Nat.le_of_ble_eq_true rfl) (n := 11) rfl (c_X12_sign ?_)
      rw [show (100 + 42 : Int32) = 142 from rfl]
      refine Vw.ivi1 (mi' := mX12_takes0) (de_invokevirtual (B 11 _ rfl) (B 12 _ rfl) (B 13 _ rfl)) ml_X12_198 mv_X12_takes0 hM.k (Nat.le_of_ble_eq_true rfl) (n := 14) rfl (c_X12_takes0 hM hp hj (fun _ z_11 => ?_) (fun z_11 => ?_))
      · refine Vw.if_ne (tgt := 41) (n := 17) (de_if_ne (B 14 _ rfl) (B 15 _ rfl) (B 16 _ rfl)) rfl rfl (fun c_14 => ?_) (fun c_14 => ?_)
        · exact body (by rw [z_11]; decide) (lt_nt hp hj z_11 (by decide))
        exact absurd c_14 (by decide)
      · refine Vw.if_ne (tgt := 41) (n := 17) (de_if_ne (B 14 _ rfl) (B 15 _ rfl) (B 16 _ rfl)) rfl rfl (fun c_14 => ?_) (fun c_14 => ?_)
        · exact absurd rfl c_14
        refine Vw.aload_n (de_aload_0 (B 17 _ rfl)) 0 rfl (n := 18) rfl ?_
        refine Vw.bipush (v := 47) (de_bipush (B 18 _ rfl) (B 19 _ rfl)) rfl (n := 20) rfl ?_
        refine Vw.isi1 (mi' := mX12_sign) (de_invokestatic (B 20 _ rfl) (B 21 _ rfl) (B 22 _ rfl)) ml_X12_239 ms_X12_sign (Nat.le_of_ble_eq_true rfl) (n := 23) rfl (c_X12_sign ?_)
        rw [show (100 + 47 : Int32) = 147 from rfl]
        refine Vw.ivi1 (mi' := mX12_takes0) (de_invokevirtual (B 23 _ rfl) (B 24 _ rfl) (B 25 _ rfl)) ml_X12_198 mv_X12_takes0 hM.k (Nat.le_of_ble_eq_true rfl) (n := 26) rfl (c_X12_takes0 hM hp hj (fun _ z_23 => ?_) (fun z_23 => ?_))
        · refine Vw.if_ne (tgt := 41) (n := 29) (de_if_ne (B 26 _ rfl) (B 27 _ rfl) (B 28 _ rfl)) rfl rfl (fun c_26 => ?_) (fun c_26 => ?_)
          · exact body (by rw [z_23]; decide) (lt_nt hp hj z_23 (by decide))
          exact absurd c_26 (by decide)
        · refine Vw.if_ne (tgt := 41) (n := 29) (de_if_ne (B 26 _ rfl) (B 27 _ rfl) (B 28 _ rfl)) rfl rfl (fun c_26 => ?_) (fun c_26 => ?_)
          · exact absurd rfl c_26
          refine Vw.aload_n (de_aload_0 (B 29 _ rfl)) 0 rfl (n := 30) rfl ?_
          refine Vw.bipush (v := 37) (de_bipush (B 30 _ rfl) (B 31 _ rfl)) rfl (n := 32) rfl ?_
          refine Vw.isi1 (mi' := mX12_sign) (de_invokestatic (B 32 _ rfl) (B 33 _ rfl) (B 34 _ rfl)) ml_X12_239 ms_X12_sign (Nat.le_of_ble_eq_true rfl) (n := 35) rfl (c_X12_sign ?_)
          rw [show (100 + 37 : Int32) = 137 from rfl]
          refine Vw.ivi1 (mi' := mX12_takes0) (de_invokevirtual (B 35 _ rfl) (B 36 _ rfl) (B 37 _ rfl)) ml_X12_198 mv_X12_takes0 hM.k (Nat.le_of_ble_eq_true rfl) (n := 38) rfl (c_X12_takes0 hM hp hj (fun _ z_35 => ?_) (fun z_35 => ?_))
          · refine Vw.if_eq (tgt := 49) (n := 41) (de_if_eq (B 38 _ rfl) (B 39 _ rfl) (B 40 _ rfl)) rfl rfl (fun c_38 => ?_) (fun c_38 => ?_)
            · exact absurd c_38 (by decide)
            exact body (by rw [z_35]; decide) (lt_nt hp hj z_35 (by decide))
          · refine Vw.if_eq (tgt := 49) (n := 41) (de_if_eq (B 38 _ rfl) (B 39 _ rfl) (B 40 _ rfl)) rfl rfl (fun c_38 => ?_) (fun c_38 => ?_)
            · exact Vw.vret (de_return_ (B 49 _ rfl)) rfl ⟨rfl, (ho j l dn (pChain_0 (by exact opT_n (z_11 rfl) (z_23 rfl) (z_35 rfl))) hij hj hl)⟩
            exact absurd rfl c_38
  refine Vw.aload_n (de_aload_0 (B 0 _ rfl)) 0 rfl (n := 1) rfl ?_
  refine Vw.iload_n (de_iload_1 (B 1 _ rfl)) 1 rfl (n := 2) rfl ?_
  refine Vw.ivv1 (mi' := mX12_readPart) (de_invokevirtual (B 2 _ rfl) (B 3 _ rfl) (B 4 _ rfl)) ml_X12_246 mv_X12_readPart hM.k (Nat.le_of_ble_eq_true rfl) (n := 5) rfl (hS _ _ _ _ _ _ _ _ _ hM hp hi hl (fun j2 l2 d2 z1 z0 z2 z3 => ?_) (fun e t l2 z1 z2 => ?_))
  · exact loop 402 j2 l2 d2 z0 z2 (by have := hp.1; omega) z3 (fun j3 l3 d3 y1 y0 y2 y3 => hok j3 l3 d3 (by show pMany _ _ _ _ _ _ = _; rw [pMany_o z1]; exact y1) y0 y2 y3) (fun e t l3 y1 y2 => her e t l3 (by show pMany _ _ _ _ _ _ = _; rw [pMany_o z1]; exact y1) y2)
  · exact nf e t l2 z2 (her e t l2 (pMany_e z1) z2)
theorem rc_sum {D dp : Nat} {P : (Nat → Int32) → (Nat → Int32) → Bool → Nat → Nat → tR tD} (hS : RC mX12_readTerm (D + 4) dp P) : RC mX12_readSum (D + 5) dp (fun cd vl o => pMany cd opS tBin (P cd vl o)) := by
  intro d S I L Q r nt i l hM hp hi hl hok her
  refine Vc.of rfl (Nat.le_of_ble_eq_true rfl) ?_
  have B := bs_X12_readSum
  show Vw mX12_readSum (d + (D + 5)) 0 0 0 0 (VvQ Q) 0 [(0, .ref r), (1, .int (nI dp))] [] S (pm I r (nI i) (nI l) (-1)) L
  have nf : ∀ e t l2, e ≤ nt → Q S (pm I r t l2 (I (r + 11) e)) L → Vw mX12_readSum (d + (D + 5)) 0 0 0 0 (VvQ Q) 5 [(0, .ref r), (1, .int (nI dp))] [] S (pm I r t l2 (I (r + 11) e)) L := by
    intro e t l2 he hq
    have hb := hp.2.2 e he
    refine Vw.aload_n (de_aload_0 (B 5 _ rfl)) 0 rfl (n := 6) rfl ?_
    refine Vw.bipush (v := 43) (de_bipush (B 6 _ rfl) (B 7 _ rfl)) rfl (n := 8) rfl ?_
    refine Vw.isi1 (mi' := mX12_sign) (de_invokestatic (B 8 _ rfl) (B 9 _ rfl) (B 10 _ rfl)) ml_X12_239 ms_X12_sign (Nat.le_of_ble_eq_true rfl) (n := 11) rfl (c_X12_sign ?_)
    rw [show (100 + 43 : Int32) = 143 from rfl]
    refine Vw.ivi1 (mi' := mX12_takes0) (de_invokevirtual (B 11 _ rfl) (B 12 _ rfl) (B 13 _ rfl)) ml_X12_198 mv_X12_takes0 hM.k (Nat.le_of_ble_eq_true rfl) (n := 14) rfl (c_X12_takes0_nf hM hb ?_)
    refine Vw.if_ne (tgt := 29) (n := 17) (de_if_ne (B 14 _ rfl) (B 15 _ rfl) (B 16 _ rfl)) rfl rfl (fun c_14 => ?_) (fun c_14 => ?_)
    · exact absurd rfl c_14
    refine Vw.aload_n (de_aload_0 (B 17 _ rfl)) 0 rfl (n := 18) rfl ?_
    refine Vw.bipush (v := 45) (de_bipush (B 18 _ rfl) (B 19 _ rfl)) rfl (n := 20) rfl ?_
    refine Vw.isi1 (mi' := mX12_sign) (de_invokestatic (B 20 _ rfl) (B 21 _ rfl) (B 22 _ rfl)) ml_X12_239 ms_X12_sign (Nat.le_of_ble_eq_true rfl) (n := 23) rfl (c_X12_sign ?_)
    rw [show (100 + 45 : Int32) = 145 from rfl]
    refine Vw.ivi1 (mi' := mX12_takes0) (de_invokevirtual (B 23 _ rfl) (B 24 _ rfl) (B 25 _ rfl)) ml_X12_198 mv_X12_takes0 hM.k (Nat.le_of_ble_eq_true rfl) (n := 26) rfl (c_X12_takes0_nf hM hb ?_)
    refine Vw.if_eq (tgt := 37) (n := 29) (de_if_eq (B 26 _ rfl) (B 27 _ rfl) (B 28 _ rfl)) rfl rfl (fun c_26 => ?_) (fun c_26 => ?_)
    · exact Vw.vret (de_return_ (B 37 _ rfl)) rfl ⟨rfl, hq⟩
    exact absurd rfl c_26
  have loop : ∀ f j l dn, i ≤ j → j ≤ nt → nt < j + f → l ≤ 50 → (∀ j2 l2 d2, pChain (I (r + 9)) opS tBin (P (I (r + 9)) (I (r + 10)) (decide (¬ I r 8 = 0))) f j l dn = .ok (j2, l2, d2) → i ≤ j2 → j2 ≤ nt → l2 ≤ 50 → Q S (pm I r (nI j2) (nI l2) (-1)) L) → (∀ e t l2, pChain (I (r + 9)) opS tBin (P (I (r + 9)) (I (r + 10)) (decide (¬ I r 8 = 0))) f j l dn = .error e → e ≤ nt → Q S (pm I r t l2 (I (r + 11) e)) L) → Vw mX12_readSum (d + (D + 5)) 0 0 0 0 (VvQ Q) 5 [(0, .ref r), (1, .int (nI dp))] [] S (pm I r (nI j) (nI l) (-1)) L := by
    intro f
    induction f with
    | zero => intro j l dn h0 h1 h2; exact absurd h2 (by omega)
    | succ f ih =>
      intro j l dn hij hj hf hl ho he
      have body : opS (I (r + 9) j) = true → j < nt → Vw mX12_readSum (d + (D + 5)) 0 0 0 0 (VvQ Q) 29 [(0, .ref r), (1, .int (nI dp))] [] S (pm I r (nI (j + 1)) (nI l) (-1)) L := by
        intro zo hlt
        refine Vw.aload_n (de_aload_0 (B 29 _ rfl)) 0 rfl (n := 30) rfl ?_
        refine Vw.iload_n (de_iload_1 (B 30 _ rfl)) 1 rfl (n := 31) rfl ?_
        refine Vw.ivv1 (mi' := mX12_readTerm) (de_invokevirtual (B 31 _ rfl) (B 32 _ rfl) (B 33 _ rfl)) ml_X12_243 mv_X12_readTerm hM.k (Nat.le_of_ble_eq_true rfl) (n := 34) rfl (hS _ _ _ _ _ _ _ _ _ hM hp hlt hl (fun j2 l2 d2 z1 z0 z2 z3 => ?_) (fun e t l2 z1 z2 => ?_))
        · refine Vw.goto_ (n := 5) (de_goto_ (B 34 _ rfl) (B 35 _ rfl) (B 36 _ rfl)) rfl ?_
          exact ih j2 l2 _ (by omega) z2 (by omega) z3 (fun j3 l3 d3 y1 y0 y2 y3 => ho j3 l3 d3 (by rw [pChain_o zo z1]; exact y1) y0 y2 y3) (fun e t l3 y1 y2 => he e t l3 (by rw [pChain_o zo z1]; exact y1) y2)
        · refine Vw.goto_ (n := 5) (de_goto_ (B 34 _ rfl) (B 35 _ rfl) (B 36 _ rfl)) rfl ?_
          exact nf e t l2 z2 (he e t l2 (pChain_e zo z1) z2)
      refine Vw.aload_n (de_aload_0 (B 5 _ rfl)) 0 rfl (n := 6) rfl ?_
      refine Vw.bipush (v := 43) (de_bipush (B 6 _ rfl) (B 7 _ rfl)) rfl (n := 8) rfl ?_
      refine Vw.isi1 (mi' := mX12_sign) (de_invokestatic (B 8 _ rfl) (B 9 _ rfl) (B 10 _ rfl)) ml_X12_239 ms_X12_sign (Nat.le_of_ble_eq_true rfl) (n := 11) rfl (c_X12_sign ?_)
      rw [show (100 + 43 : Int32) = 143 from rfl]
      refine Vw.ivi1 (mi' := mX12_takes0) (de_invokevirtual (B 11 _ rfl) (B 12 _ rfl) (B 13 _ rfl)) ml_X12_198 mv_X12_takes0 hM.k (Nat.le_of_ble_eq_true rfl) (n := 14) rfl (c_X12_takes0 hM hp hj (fun _ z_11 => ?_) (fun z_11 => ?_))
      · refine Vw.if_ne (tgt := 29) (n := 17) (de_if_ne (B 14 _ rfl) (B 15 _ rfl) (B 16 _ rfl)) rfl rfl (fun c_14 => ?_) (fun c_14 => ?_)
        · exact body (by rw [z_11]; decide) (lt_nt hp hj z_11 (by decide))
        exact absurd c_14 (by decide)
      · refine Vw.if_ne (tgt := 29) (n := 17) (de_if_ne (B 14 _ rfl) (B 15 _ rfl) (B 16 _ rfl)) rfl rfl (fun c_14 => ?_) (fun c_14 => ?_)
        · exact absurd rfl c_14
        refine Vw.aload_n (de_aload_0 (B 17 _ rfl)) 0 rfl (n := 18) rfl ?_
        refine Vw.bipush (v := 45) (de_bipush (B 18 _ rfl) (B 19 _ rfl)) rfl (n := 20) rfl ?_
        refine Vw.isi1 (mi' := mX12_sign) (de_invokestatic (B 20 _ rfl) (B 21 _ rfl) (B 22 _ rfl)) ml_X12_239 ms_X12_sign (Nat.le_of_ble_eq_true rfl) (n := 23) rfl (c_X12_sign ?_)
        rw [show (100 + 45 : Int32) = 145 from rfl]
        refine Vw.ivi1 (mi' := mX12_takes0) (de_invokevirtual (B 23 _ rfl) (B 24 _ rfl) (B 25 _ rfl)) ml_X12_198 mv_X12_takes0 hM.k (Nat.le_of_ble_eq_true rfl) (n := 26) rfl (c_X12_takes0 hM hp hj (fun _ z_23 => ?_) (fun z_23 => ?_))
        · refine Vw.if_eq (tgt := 37) (n := 29) (de_if_eq (B 26 _ rfl) (B 27 _ rfl) (B 28 _ rfl)) rfl rfl (fun c_26 => ?_) (fun c_26 => ?_)
          · exact absurd c_26 (by decide)
          exact body (by rw [z_23]; decide) (lt_nt hp hj z_23 (by decide))
        · refine Vw.if_eq (tgt := 37) (n := 29) (de_if_eq (B 26 _ rfl) (B 27 _ rfl) (B 28 _ rfl)) rfl rfl (fun c_26 => ?_) (fun c_26 => ?_)
          · exact Vw.vret (de_return_ (B 37 _ rfl)) rfl ⟨rfl, (ho j l dn (pChain_0 (by exact opS_n (z_11 rfl) (z_23 rfl))) hij hj hl)⟩
          exact absurd rfl c_26
  refine Vw.aload_n (de_aload_0 (B 0 _ rfl)) 0 rfl (n := 1) rfl ?_
  refine Vw.iload_n (de_iload_1 (B 1 _ rfl)) 1 rfl (n := 2) rfl ?_
  refine Vw.ivv1 (mi' := mX12_readTerm) (de_invokevirtual (B 2 _ rfl) (B 3 _ rfl) (B 4 _ rfl)) ml_X12_243 mv_X12_readTerm hM.k (Nat.le_of_ble_eq_true rfl) (n := 5) rfl (hS _ _ _ _ _ _ _ _ _ hM hp hi hl (fun j2 l2 d2 z1 z0 z2 z3 => ?_) (fun e t l2 z1 z2 => ?_))
  · exact loop 402 j2 l2 d2 z0 z2 (by have := hp.1; omega) z3 (fun j3 l3 d3 y1 y0 y2 y3 => hok j3 l3 d3 (by show pMany _ _ _ _ _ _ = _; rw [pMany_o z1]; exact y1) y0 y2 y3) (fun e t l3 y1 y2 => her e t l3 (by show pMany _ _ _ _ _ _ = _; rw [pMany_o z1]; exact y1) y2)
  · exact nf e t l2 z2 (her e t l2 (pMany_e z1) z2)
theorem rc_sums : ∀ m, m ≤ 8 → RC mX12_readSum (3 * m + 5) (8 - m) (fun cd vl o => pSum cd vl o m) := by
  intro m
  induction m with
  | zero => intro _; exact rc_sum (D := 0) (rc_term (D := 0) rc_part0)
  | succ m ih =>
    intro hm
    have h1 := rc_partS (D := 3 * m + 2) (dp := 8 - (m + 1)) (by omega) (by rw [show 8 - (m + 1) + 1 = 8 - m by omega]; exact ih (by omega))
    have h2 := rc_sum (D := 3 * m + 3) (rc_term (D := 3 * m + 3) h1)
    rw [show 3 * (m + 1) + 5 = 3 * m + 3 + 5 by omega]
    exact h2
