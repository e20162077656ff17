theorem c_X12_optionOf {d : Nat} {S : vS} {I : vI} {L : vL} {Q : Int32 → vS → vI → vL → Prop} {r : Nat} {q c np : Nat} {cs py : Nat → Nat → Int32} (hM : MS S r) (hnp : np ≤ 8) (hq : q < np) (hc : c ≤ 999) (hCN : CN cs np) (oJ : (∀ j, j < 16 * np → I (r + 18) j = cs (j / 16) (j % 16) ∧ I (r + 19) j = py (j / 16) (j % 16))) (mJ : (∀ x, 0 ≤ x → x < 1000 * (np + 1) → I (r + 20) x = mostR cs py np (np - x / 1000) (x % 1000))) (h : Q (optP cs py np q c) S I L) : Vc mX12_optionOf d 0 0 [.ref r, .int (nI q), .int (nI c)] S I L (ViQ Q) := by
  refine Vc.of rfl (Nat.le_of_ble_eq_true rfl) ?_
  have B := bs_X12_optionOf
  show Vw mX12_optionOf d 0 0 0 0 (ViQ Q) 0 [(0, .ref r), (1, .int (nI q)), (2, .int (nI c))] [] S I L
  have loop : ∀ k, k ≤ 16 → optP cs py np q c = optF (cs q) (py q) (mostR cs py np (np - (q + 1))) (mostR cs py np (np - q) c) c (16 - k) k → Vw mX12_optionOf d 0 0 0 0 (ViQ Q) 7 [(0, .ref r), (1, .int (nI q)), (2, .int (nI c)), (3, .int 1000), (4, .int (nI k))] [] S I L := by
    refine loop_up (fun k hk ih => ?_)
    intro eP
    refine Vw.iload (de_iload (B 7 _ rfl) (B 8 _ rfl)) 4 rfl (n := 9) rfl ?_
    refine Vw.bipush (v := 16) (de_bipush (B 9 _ rfl) (B 10 _ rfl)) rfl (n := 11) rfl ?_
    refine Vw.icmp_ge (tgt := 84) (n := 14) (de_icmp_ge (B 11 _ rfl) (B 12 _ rfl) (B 13 _ rfl)) rfl rfl (fun c_11 => ?_) (fun c_11 => ?_)
    · have z_11 : 16 ≤ k := ((nI_leI (a := 16) (b := k) (by omega) (by omega)).mp c_11)
      obtain rfl : k = 16 := by omega
      refine Vw.bipush (v := 100) (de_bipush (B 84 _ rfl) (B 85 _ rfl)) rfl (n := 86) rfl ?_
      exact Vw.iret (de_ireturn (B 86 _ rfl)) rfl ⟨_, rfl, (qv (by rw [eP]; rfl) h)⟩
    have z_11 : k < 16 := by rcases Nat.lt_or_ge k 16 with z | z; exact z; exact absurd ((nI_leI (a := 16) (b := k) (by omega) (by omega)).mpr z) c_11
    have o1 := oJ (16 * q + k) (by omega)
    rw [show (16 * q + k) / 16 = q by omega, show (16 * q + k) % 16 = k by omega] at o1
    obtain ⟨cn, hcn, ecn⟩ := hCN q k hq z_11
    rw [show 16 - k = (16 - (k + 1)) + 1 by omega, optF, ecn, nI_cl (by omega)] at eP
    refine Vw.aload_n (de_aload_0 (B 14 _ rfl)) 0 rfl (n := 15) rfl ?_
    refine Vw.getR (de_getfield (B 15 _ rfl) (B 16 _ rfl) (B 17 _ rfl)) fl_X12_78 rfl hM.k (MS_optionCloth hM).1 (n := 18) rfl ?_
    refine Vw.bipush (v := 16) (de_bipush (B 18 _ rfl) (B 19 _ rfl)) rfl (n := 20) rfl ?_
    refine Vw.iload_n (de_iload_1 (B 20 _ rfl)) 1 rfl (n := 21) rfl ?_
    refine Vw.imul (de_imul (B 21 _ rfl)) (n := 22) rfl ?_
    refine Vw.iload (de_iload (B 22 _ rfl) (B 23 _ rfl)) 4 rfl (n := 24) rfl ?_
    refine Vw.iadd (de_iadd (B 24 _ rfl)) (n := 25) rfl ?_
    refine Vw.iald (de_iaload (B 25 _ rfl)) (MS_optionCloth hM).2 (vIx_n (k := 16 * q + k) (by simp only [nI_A, nI_M, Int32.zero_add, Int32.add_zero] <;> rfl) (by omega)) (n := 26) rfl ?_
    rw [o1.1, ecn]
    refine Vw.istore (lv2 := [(0, _), (1, _), (2, _), (3, _), (4, _), (5, _)]) (de_istore (B 26 _ rfl) (B 27 _ rfl)) (by decide) [1, 2, 3, 4, 5, 0] rfl (n := 28) rfl ?_
    refine Vw.iload (de_iload (B 28 _ rfl) (B 29 _ rfl)) 5 rfl (n := 30) rfl ?_
    refine Vw.iload_n (de_iload_2 (B 30 _ rfl)) 2 rfl (n := 31) rfl ?_
    refine Vw.icmp_gt (tgt := 78) (n := 34) (de_icmp_gt (B 31 _ rfl) (B 32 _ rfl) (B 33 _ rfl)) rfl rfl (fun c_31 => ?_) (fun c_31 => ?_)
    · refine Vw.iinc (v := nI (k + 1)) (lv2 := [(0, _), (1, _), (2, _), (3, _), (4, _), (5, _)]) (de_iinc (B 78 _ rfl) (B 79 _ rfl) (B 80 _ rfl)) 4 rfl (nI_1 k) (by decide) [1, 2, 3, 4, 0, 5] rfl (n := 81) rfl ?_
      refine Vw.goto_ (n := 7) (de_goto_ (B 81 _ rfl) (B 82 _ rfl) (B 83 _ rfl)) rfl ?_
      refine Vw.lvs (lv2 := [(0, _), (1, _), (2, _), (3, _), (4, _)]) [0, 1, 2, 3, 4] rfl ?_
      first
      | exact ih z_11 (by rw [eP, if_neg (fun z => absurd c_31 (Int32.not_lt.mpr z.1))])
      | exact ih z_11 (by rw [eP, if_neg (fun z => c_72 z.2)])
    have hcc : cn ≤ c := (nI_leI (a := cn) (b := c) (by omega) (by omega)).mp (Int32.not_lt.mp c_31)
    refine Vw.aload_n (de_aload_0 (B 34 _ rfl)) 0 rfl (n := 35) rfl ?_
    refine Vw.getR (de_getfield (B 35 _ rfl) (B 36 _ rfl) (B 37 _ rfl)) fl_X12_81 rfl hM.k (MS_optionPays hM).1 (n := 38) rfl ?_
    refine Vw.bipush (v := 16) (de_bipush (B 38 _ rfl) (B 39 _ rfl)) rfl (n := 40) rfl ?_
    refine Vw.iload_n (de_iload_1 (B 40 _ rfl)) 1 rfl (n := 41) rfl ?_
    refine Vw.imul (de_imul (B 41 _ rfl)) (n := 42) rfl ?_
    refine Vw.iload (de_iload (B 42 _ rfl) (B 43 _ rfl)) 4 rfl (n := 44) rfl ?_
    refine Vw.iadd (de_iadd (B 44 _ rfl)) (n := 45) rfl ?_
    refine Vw.iald (de_iaload (B 45 _ rfl)) (MS_optionPays hM).2 (vIx_n (k := 16 * q + k) (by simp only [nI_A, nI_M, Int32.zero_add, Int32.add_zero] <;> rfl) (by omega)) (n := 46) rfl ?_
    rw [o1.2]
    refine Vw.aload_n (de_aload_0 (B 46 _ rfl)) 0 rfl (n := 47) rfl ?_
    refine Vw.getR (de_getfield (B 47 _ rfl) (B 48 _ rfl) (B 49 _ rfl)) fl_X12_84 rfl hM.k (MS_most hM).1 (n := 50) rfl ?_
    refine Vw.iload_n (de_iload_3 (B 50 _ rfl)) 3 rfl (n := 51) rfl ?_
    refine Vw.iload_n (de_iload_1 (B 51 _ rfl)) 1 rfl (n := 52) rfl ?_
    refine Vw.iconst (v := 1) (de_iconst_1 (B 52 _ rfl)) rfl (n := 53) rfl ?_
    refine Vw.iadd (de_iadd (B 53 _ rfl)) (n := 54) rfl ?_
    refine Vw.imul (de_imul (B 54 _ rfl)) (n := 55) rfl ?_
    refine Vw.iload_n (de_iload_2 (B 55 _ rfl)) 2 rfl (n := 56) rfl ?_
    refine Vw.iadd (de_iadd (B 56 _ rfl)) (n := 57) rfl ?_
    refine Vw.iload (de_iload (B 57 _ rfl) (B 58 _ rfl)) 5 rfl (n := 59) rfl ?_
    refine Vw.isub (de_isub (B 59 _ rfl)) (n := 60) rfl ?_
    rw [nI_ms (P := q + 1) hcc (by omega) (nI_1 q).symm]
    refine Vw.iald (de_iaload (B 60 _ rfl)) (MS_most hM).2 (vIx_n (k := 1000 * (q + 1) + (c - cn)) rfl (by omega)) (n := 61) rfl ?_
    rw [mJ (1000 * (q + 1) + (c - cn)) (by omega) (by omega), show (1000 * (q + 1) + (c - cn)) / 1000 = q + 1 by omega, show (1000 * (q + 1) + (c - cn)) % 1000 = c - cn by omega]
    refine Vw.iadd (de_iadd (B 61 _ rfl)) (n := 62) rfl ?_
    refine Vw.aload_n (de_aload_0 (B 62 _ rfl)) 0 rfl (n := 63) rfl ?_
    refine Vw.getR (de_getfield (B 63 _ rfl) (B 64 _ rfl) (B 65 _ rfl)) fl_X12_84 rfl hM.k (MS_most hM).1 (n := 66) rfl ?_
    refine Vw.iload_n (de_iload_3 (B 66 _ rfl)) 3 rfl (n := 67) rfl ?_
    refine Vw.iload_n (de_iload_1 (B 67 _ rfl)) 1 rfl (n := 68) rfl ?_
    refine Vw.imul (de_imul (B 68 _ rfl)) (n := 69) rfl ?_
    refine Vw.iload_n (de_iload_2 (B 69 _ rfl)) 2 rfl (n := 70) rfl ?_
    refine Vw.iadd (de_iadd (B 70 _ rfl)) (n := 71) rfl ?_
    refine Vw.iald (de_iaload (B 71 _ rfl)) (MS_most hM).2 (vIx_n (k := 1000 * q + c) (by simp only [nI_A, nI_M, Int32.zero_add, Int32.add_zero] <;> rfl) (by omega)) (n := 72) rfl ?_
    rw [mJ (1000 * q + c) (by omega) (by omega), show (1000 * q + c) / 1000 = q by omega, show (1000 * q + c) % 1000 = c by omega]
    refine Vw.icmp_ne (tgt := 78) (n := 75) (de_icmp_ne (B 72 _ rfl) (B 73 _ rfl) (B 74 _ rfl)) rfl rfl (fun c_72 => ?_) (fun c_72 => ?_)
    · refine Vw.iinc (v := nI (k + 1)) (lv2 := [(0, _), (1, _), (2, _), (3, _), (4, _), (5, _)]) (de_iinc (B 78 _ rfl) (B 79 _ rfl) (B 80 _ rfl)) 4 rfl (nI_1 k) (by decide) [1, 2, 3, 4, 0, 5] rfl (n := 81) rfl ?_
      refine Vw.goto_ (n := 7) (de_goto_ (B 81 _ rfl) (B 82 _ rfl) (B 83 _ rfl)) rfl ?_
      refine Vw.lvs (lv2 := [(0, _), (1, _), (2, _), (3, _), (4, _)]) [0, 1, 2, 3, 4] rfl ?_
      first
      | exact ih z_11 (by rw [eP, if_neg (fun z => absurd c_31 (Int32.not_lt.mpr z.1))])
      | exact ih z_11 (by rw [eP, if_neg (fun z => c_72 z.2)])
    refine Vw.iload (de_iload (B 75 _ rfl) (B 76 _ rfl)) 4 rfl (n := 77) rfl ?_
    exact Vw.iret (de_ireturn (B 77 _ rfl)) rfl ⟨_, rfl, (qv (by rw [eP, if_pos ⟨Int32.not_lt.mp c_31, c_72⟩]) h)⟩
  refine Vw.sipush (v := 1000) (de_sipush (B 0 _ rfl) (B 1 _ rfl) (B 2 _ rfl)) rfl (n := 3) rfl ?_
  refine Vw.istore_n (lv2 := [(0, _), (1, _), (2, _), (3, _)]) (de_istore_3 (B 3 _ rfl)) rfl (by decide) [1, 2, 3, 0] rfl (n := 4) rfl ?_
  refine Vw.iconst (v := 0) (de_iconst_0 (B 4 _ rfl)) rfl (n := 5) rfl ?_
  refine Vw.istore (lv2 := [(0, _), (1, _), (2, _), (3, _), (4, _)]) (de_istore (B 5 _ rfl) (B 6 _ rfl)) (by decide) [1, 2, 3, 4, 0] rfl (n := 7) rfl ?_
  exact loop 0 (Nat.zero_le _) rfl
theorem c_X12_cutting {d : Nat} {S : vS} {I : vI} {L : vL} {Q : Int32 → vS → vI → vL → Prop} {r : Nat} {x y z : Int32} {np nc : Nat} {W : tW} (hM : MS S r) (hW : WD (I (r + 2)) W) (hT : TN (I (r + 2)) np nc) (hB : ∀ q, q < np → PBt (perP (I (r + 2)) q)) (hcl : ∀ t, t < 4 → ∃ cl, cl ≤ 999 ∧ I (r + 2) (113 + 2 * t) = nI cl) (h : ∀ I2, Fc r I I2 → Q (cutP W (I (r + 2)) np x y z) S I2 L) : Vc mX12_cutting (d + 47) 0 0 [.ref r, .int x, .int y, .int z] S I L (ViQ Q) := by
  refine Vc.of rfl (Nat.le_of_ble_eq_true rfl) ?_
  have B := bs_X12_cutting
  show Vw mX12_cutting (d + 47) 0 0 0 0 (ViQ Q) 0 [(0, .ref r), (1, .int x), (2, .int y), (3, .int z)] [] S I L
  have hnp := hT.1
  have hnc := hT.2.1
  have e142 := hT.2.2.1
  have e112 := hT.2.2.2.1
  have loop : ∀ t n zz cl, t < 4 → n ≤ 40 → cl ≤ 999 → 1 ≤ zz → zz ≤ 1 + np → ∀ J, Fc r I J → (∀ j, j < 16 * np → J (r + 18) j = (oCl W (I (r + 2)) (nI t)) (j / 16) (j % 16) ∧ J (r + 19) j = (oPay W (I (r + 2)) (nI t) n) (j / 16) (j % 16)) → (∀ x, 0 ≤ x → x < 1000 * (np + 1) → J (r + 20) x = mostR (oCl W (I (r + 2)) (nI t)) (oPay W (I (r + 2)) (nI t) n) np (np - x / 1000) (x % 1000)) → (zz = 1 → Q (nI cl - nI (cutH (oCl W (I (r + 2)) (nI t)) (oPay W (I (r + 2)) (nI t) n) np cl np)) S J L) → (∀ q, q < np → zz = 2 + q → Q (optP (oCl W (I (r + 2)) (nI t)) (oPay W (I (r + 2)) (nI t) n) np q (cutH (oCl W (I (r + 2)) (nI t)) (oPay W (I (r + 2)) (nI t) n) np cl q)) S J L) → ∀ q, q ≤ np → (2 ≤ zz → 2 + q ≤ zz) → Vw mX12_cutting (d + 47) 0 0 0 0 (ViQ Q) 71 [(0, .ref r), (1, .int (nI t)), (2, .int (nI n)), (3, .int (nI zz)), (4, .int (nI cl)), (5, .int (nI (cutH (oCl W (I (r + 2)) (nI t)) (oPay W (I (r + 2)) (nI t) n) np cl q))), (6, .int (nI q))] [] S J L := by
    intro t n zz cl ht hn hcl9 hz1 hz2 J fJ oJ mJ fin1 fin2
    have hCN : CN (oCl W (I (r + 2)) (nI t)) np := oCl_n hB
    have p142 : J (r + 2) 142 = nI np := by rw [fJ.k]; exact e142
    refine loop_up (fun q hq ih => ?_)
    intro hzq
    have hle := cutH_le (cs := (oCl W (I (r + 2)) (nI t))) (py := (oPay W (I (r + 2)) (nI t) n)) (np := np) (cl := cl) (q := q)
    refine Vw.iload (de_iload (B 71 _ rfl) (B 72 _ rfl)) 6 rfl (n := 73) rfl ?_
    refine Vw.aload_n (de_aload_0 (B 73 _ rfl)) 0 rfl (n := 74) rfl ?_
    refine Vw.ivi0 (mi' := mX12_people) (de_invokevirtual (B 74 _ rfl) (B 75 _ rfl) (B 76 _ rfl)) ml_X12_121 mv_X12_people hM.k (Nat.le_of_ble_eq_true rfl) (n := 77) rfl (c_X12_people hM ?_)
    rw [p142]
    refine Vw.icmp_ge (tgt := 136) (n := 80) (de_icmp_ge (B 77 _ rfl) (B 78 _ rfl) (B 79 _ rfl)) rfl rfl (fun c_77 => ?_) (fun c_77 => ?_)
    · have z_77 : np ≤ q := ((nI_leI (a := np) (b := q) (by omega) (by omega)).mp c_77)
      obtain rfl : q = np := by omega
      refine Vw.iload (de_iload (B 136 _ rfl) (B 137 _ rfl)) 4 rfl (n := 138) rfl ?_
      refine Vw.iload (de_iload (B 138 _ rfl) (B 139 _ rfl)) 5 rfl (n := 140) rfl ?_
      refine Vw.isub (de_isub (B 140 _ rfl)) (n := 141) rfl ?_
      exact Vw.iret (de_ireturn (B 141 _ rfl)) rfl ⟨_, rfl, (fin1 (by rcases Nat.lt_or_ge zz 2 with e | e; omega; have := hzq e; omega))⟩
    have z_77 : q < np := by rcases Nat.lt_or_ge q np with z | z; exact z; exact absurd ((nI_leI (a := np) (b := q) (by omega) (by omega)).mpr z) c_77
    refine Vw.aload_n (de_aload_0 (B 80 _ rfl)) 0 rfl (n := 81) rfl ?_
    refine Vw.iload (de_iload (B 81 _ rfl) (B 82 _ rfl)) 6 rfl (n := 83) rfl ?_
    refine Vw.iload (de_iload (B 83 _ rfl) (B 84 _ rfl)) 5 rfl (n := 85) rfl ?_
    refine Vw.ivi2 (mi' := mX12_optionOf) (de_invokevirtual (B 85 _ rfl) (B 86 _ rfl) (B 87 _ rfl)) ml_X12_416 mv_X12_optionOf hM.k (Nat.le_of_ble_eq_true rfl) (n := 88) rfl (c_X12_optionOf (cs := (oCl W (I (r + 2)) (nI t))) (py := (oPay W (I (r + 2)) (nI t) n)) (np := np) hM hnp z_77 (by omega) hCN oJ mJ ?_)
    refine Vw.istore (lv2 := [(0, _), (1, _), (2, _), (3, _), (4, _), (5, _), (6, _), (7, _)]) (de_istore (B 88 _ rfl) (B 89 _ rfl)) (by decide) [1, 2, 3, 4, 5, 6, 7, 0] rfl (n := 90) rfl ?_
    refine Vw.iload_n (de_iload_3 (B 90 _ rfl)) 3 rfl (n := 91) rfl ?_
    refine Vw.iconst (v := 2) (de_iconst_2 (B 91 _ rfl)) rfl (n := 92) rfl ?_
    refine Vw.iload (de_iload (B 92 _ rfl) (B 93 _ rfl)) 6 rfl (n := 94) rfl ?_
    refine Vw.iadd (de_iadd (B 94 _ rfl)) (n := 95) rfl ?_
    rw [show (2 : Int32) + nI q = nI (2 + q) from (nI_A 2 q).symm]
    refine Vw.icmp_ne (tgt := 101) (n := 98) (de_icmp_ne (B 95 _ rfl) (B 96 _ rfl) (B 97 _ rfl)) rfl rfl (fun c_95 => ?_) (fun c_95 => ?_)
    · have hne : ¬ zz = 2 + q := fun e => c_95 (by rw [e])
      have hz3 : 2 ≤ zz → 2 + (q + 1) ≤ zz := fun e => by have := hzq e; omega
      refine Vw.iload (de_iload (B 101 _ rfl) (B 102 _ rfl)) 5 rfl (n := 103) rfl ?_
      refine Vw.iload (de_iload (B 103 _ rfl) (B 104 _ rfl)) 7 rfl (n := 105) rfl ?_
      refine Vw.bipush (v := 100) (de_bipush (B 105 _ rfl) (B 106 _ rfl)) rfl (n := 107) rfl ?_
      refine Vw.icmp_ne (tgt := 114) (n := 110) (de_icmp_ne (B 107 _ rfl) (B 108 _ rfl) (B 109 _ rfl)) rfl rfl (fun c_107 => ?_) (fun c_107 => ?_)
      · obtain ⟨j, hj, ej, hjc⟩ := (optF_c (cs := (oCl W (I (r + 2)) (nI t)) q) (py := (oPay W (I (r + 2)) (nI t) n) q) (nx := mostR (oCl W (I (r + 2)) (nI t)) (oPay W (I (r + 2)) (nI t) n) np (np - (q + 1))) (v := mostR (oCl W (I (r + 2)) (nI t)) (oPay W (I (r + 2)) (nI t) n) np (np - q) (cutH (oCl W (I (r + 2)) (nI t)) (oPay W (I (r + 2)) (nI t) n) np cl q)) (c := cutH (oCl W (I (r + 2)) (nI t)) (oPay W (I (r + 2)) (nI t) n) np cl q) (f := 16) (k := 0) rfl).resolve_left c_107
        change optP (oCl W (I (r + 2)) (nI t)) (oPay W (I (r + 2)) (nI t) n) np q (cutH (oCl W (I (r + 2)) (nI t)) (oPay W (I (r + 2)) (nI t) n) np cl q) = nI j at ej
        rw [ej]
        obtain ⟨cn, hcn, ecn⟩ := hCN q j z_77 hj
        have o1 := oJ (16 * q + j) (by omega)
        rw [show (16 * q + j) / 16 = q by omega, show (16 * q + j) % 16 = j by omega] at o1
        have hcc : cn ≤ cutH (oCl W (I (r + 2)) (nI t)) (oPay W (I (r + 2)) (nI t) n) np cl q := (nI_leI (a := cn) (b := cutH (oCl W (I (r + 2)) (nI t)) (oPay W (I (r + 2)) (nI t) n) np cl q) (by omega) (by omega)).mp (by rw [← ecn]; exact hjc)
        refine Vw.aload_n (de_aload_0 (B 114 _ rfl)) 0 rfl (n := 115) rfl ?_
        refine Vw.getR (de_getfield (B 115 _ rfl) (B 116 _ rfl) (B 117 _ rfl)) fl_X12_78 rfl hM.k (MS_optionCloth hM).1 (n := 118) rfl ?_
        refine Vw.bipush (v := 16) (de_bipush (B 118 _ rfl) (B 119 _ rfl)) rfl (n := 120) rfl ?_
        refine Vw.iload (de_iload (B 120 _ rfl) (B 121 _ rfl)) 6 rfl (n := 122) rfl ?_
        refine Vw.imul (de_imul (B 122 _ rfl)) (n := 123) rfl ?_
        refine Vw.iload (de_iload (B 123 _ rfl) (B 124 _ rfl)) 7 rfl (n := 125) rfl ?_
        refine Vw.iadd (de_iadd (B 125 _ rfl)) (n := 126) rfl ?_
        refine Vw.iald (de_iaload (B 126 _ rfl)) (MS_optionCloth hM).2 (vIx_n (k := 16 * q + j) (by simp only [nI_A, nI_M, Int32.zero_add, Int32.add_zero] <;> rfl) (by omega)) (n := 127) rfl ?_
        skip
        refine Vw.isub (de_isub (B 127 _ rfl)) (n := 128) rfl ?_
        refine Vw.istore (lv2 := [(0, _), (1, _), (2, _), (3, _), (4, _), (5, _), (6, _), (7, _)]) (de_istore (B 128 _ rfl) (B 129 _ rfl)) (by decide) [1, 2, 3, 4, 5, 0, 6, 7] rfl (n := 130) rfl ?_
        refine Vw.iinc (v := nI (q + 1)) (lv2 := [(0, _), (1, _), (2, _), (3, _), (4, _), (5, _), (6, _), (7, _)]) (de_iinc (B 130 _ rfl) (B 131 _ rfl) (B 132 _ rfl)) 6 rfl (nI_1 q) (by decide) [1, 2, 3, 4, 5, 6, 0, 7] rfl (n := 133) rfl ?_
        refine Vw.goto_ (n := 71) (de_goto_ (B 133 _ rfl) (B 134 _ rfl) (B 135 _ rfl)) rfl ?_
        refine Vw.lvs (lv2 := [(0, _), (1, _), (2, _), (3, _), (4, _), (5, _), (6, _)]) [0, 1, 2, 3, 4, 5, 6] rfl ?_
        first
        | (have g := ih z_77 hz3
           rw [cutH, if_pos c_107] at g
           rw [Int32.sub_zero]
           exact g)
        | (have g := ih z_77 hz3
           rw [cutH, if_neg c_107, ej, nI_cl (show j < 2147483648 by omega), ecn, nI_cl (show cn < 2147483648 by omega)] at g
           rw [o1.1, ecn, nI_sub hcc (by omega)]
           exact g)
      refine Vw.iconst (v := 0) (de_iconst_0 (B 110 _ rfl)) rfl (n := 111) rfl ?_
      refine Vw.goto_ (n := 127) (de_goto_ (B 111 _ rfl) (B 112 _ rfl) (B 113 _ rfl)) rfl ?_
      skip
      refine Vw.isub (de_isub (B 127 _ rfl)) (n := 128) rfl ?_
      refine Vw.istore (lv2 := [(0, _), (1, _), (2, _), (3, _), (4, _), (5, _), (6, _), (7, _)]) (de_istore (B 128 _ rfl) (B 129 _ rfl)) (by decide) [1, 2, 3, 4, 5, 0, 6, 7] rfl (n := 130) rfl ?_
      refine Vw.iinc (v := nI (q + 1)) (lv2 := [(0, _), (1, _), (2, _), (3, _), (4, _), (5, _), (6, _), (7, _)]) (de_iinc (B 130 _ rfl) (B 131 _ rfl) (B 132 _ rfl)) 6 rfl (nI_1 q) (by decide) [1, 2, 3, 4, 5, 6, 0, 7] rfl (n := 133) rfl ?_
      refine Vw.goto_ (n := 71) (de_goto_ (B 133 _ rfl) (B 134 _ rfl) (B 135 _ rfl)) rfl ?_
      refine Vw.lvs (lv2 := [(0, _), (1, _), (2, _), (3, _), (4, _), (5, _), (6, _)]) [0, 1, 2, 3, 4, 5, 6] rfl ?_
      first
      | (have g := ih z_77 hz3
         rw [cutH, if_pos c_107] at g
         rw [Int32.sub_zero]
         exact g)
      | (have g := ih z_77 hz3
         rw [cutH, if_neg c_107, ej, nI_cl (show j < 2147483648 by omega), ecn, nI_cl (show cn < 2147483648 by omega)] at g
         rw [o1.1, ecn, nI_sub hcc (by omega)]
         exact g)
    refine Vw.iload (de_iload (B 98 _ rfl) (B 99 _ rfl)) 7 rfl (n := 100) rfl ?_
    exact Vw.iret (de_ireturn (B 100 _ rfl)) rfl ⟨_, rfl, (fin2 q z_77 (nI_inj (by omega) (by omega) c_95))⟩
  refine Vw.iload_n (de_iload_1 (B 0 _ rfl)) 1 rfl (n := 1) rfl ?_
  refine Vw.isi1 (mi' := mX12_isTailor) (de_invokestatic (B 1 _ rfl) (B 2 _ rfl) (B 3 _ rfl)) ml_X12_159 ms_X12_isTailor (Nat.le_of_ble_eq_true rfl) (n := 4) rfl (c_X12_isTailor ?_)
  refine Vw.if_eq (tgt := 31) (n := 7) (de_if_eq (B 4 _ rfl) (B 5 _ rfl) (B 6 _ rfl)) rfl rfl (fun c_4 => ?_) (fun c_4 => ?_)
  · refine Vw.iconst (v := -1) (de_iconst_m1 (B 31 _ rfl)) rfl (n := 32) rfl ?_
    exact Vw.iret (de_ireturn (B 32 _ rfl)) rfl ⟨_, rfl, (qv (by unfold cutP; rw [if_pos (by first | exact Or.inl c_4 | exact Or.inr (Or.inl c_14) | exact Or.inr (Or.inr c_28))]) (h I Fc.rfl))⟩
  refine Vw.iload_n (de_iload_2 (B 7 _ rfl)) 2 rfl (n := 8) rfl ?_
  refine Vw.iconst (v := 1) (de_iconst_1 (B 8 _ rfl)) rfl (n := 9) rfl ?_
  refine Vw.bipush (v := 40) (de_bipush (B 9 _ rfl) (B 10 _ rfl)) rfl (n := 11) rfl ?_
  refine Vw.isi3 (mi' := mX12_lies) (de_invokestatic (B 11 _ rfl) (B 12 _ rfl) (B 13 _ rfl)) ml_X12_111 ms_X12_lies (Nat.le_of_ble_eq_true rfl) (n := 14) rfl (c_X12_lies ?_)
  refine Vw.if_eq (tgt := 31) (n := 17) (de_if_eq (B 14 _ rfl) (B 15 _ rfl) (B 16 _ rfl)) rfl rfl (fun c_14 => ?_) (fun c_14 => ?_)
  · refine Vw.iconst (v := -1) (de_iconst_m1 (B 31 _ rfl)) rfl (n := 32) rfl ?_
    exact Vw.iret (de_ireturn (B 32 _ rfl)) rfl ⟨_, rfl, (qv (by unfold cutP; rw [if_pos (by first | exact Or.inl c_4 | exact Or.inr (Or.inl c_14) | exact Or.inr (Or.inr c_28))]) (h I Fc.rfl))⟩
  refine Vw.iload_n (de_iload_3 (B 17 _ rfl)) 3 rfl (n := 18) rfl ?_
  refine Vw.iconst (v := 0) (de_iconst_0 (B 18 _ rfl)) rfl (n := 19) rfl ?_
  refine Vw.iconst (v := 1) (de_iconst_1 (B 19 _ rfl)) rfl (n := 20) rfl ?_
  refine Vw.aload_n (de_aload_0 (B 20 _ rfl)) 0 rfl (n := 21) rfl ?_
  refine Vw.ivi0 (mi' := mX12_people) (de_invokevirtual (B 21 _ rfl) (B 22 _ rfl) (B 23 _ rfl)) ml_X12_121 mv_X12_people hM.k (Nat.le_of_ble_eq_true rfl) (n := 24) rfl (c_X12_people hM ?_)
  rw [e142]
  refine Vw.iadd (de_iadd (B 24 _ rfl)) (n := 25) rfl ?_
  refine Vw.isi3 (mi' := mX12_lies) (de_invokestatic (B 25 _ rfl) (B 26 _ rfl) (B 27 _ rfl)) ml_X12_111 ms_X12_lies (Nat.le_of_ble_eq_true rfl) (n := 28) rfl (c_X12_lies ?_)
  refine Vw.if_ne (tgt := 33) (n := 31) (de_if_ne (B 28 _ rfl) (B 29 _ rfl) (B 30 _ rfl)) rfl rfl (fun c_28 => ?_) (fun c_28 => ?_)
  · obtain ⟨t, ht, et⟩ := lie_n (N := 3) (by decide) c_4
    subst et
    obtain ⟨n, hn1, hn, en⟩ := lie_m (a := 1) (N := 40) (by decide) (by decide) c_14
    subst en
    obtain ⟨zz, hz, ez⟩ := lie_n (N := 1 + np) (x := z) (by omega) (by rw [nI_A]; exact c_28)
    subst ez
    obtain ⟨cl, hcl9, ecl⟩ := hcl t (by omega)
    have fin := fun J (fJ : Fc r I J) => h J fJ
    unfold cutP at fin
    rw [if_neg (fun e => e.elim c_4 (fun e => e.elim c_14 c_28)), nI_cl (show n < 2147483648 by omega), nI_cl (show t < 2147483648 by omega), ecl, nI_cl (show cl < 2147483648 by omega)] at fin
    refine Vw.aload_n (de_aload_0 (B 33 _ rfl)) 0 rfl (n := 34) rfl ?_
    refine Vw.iload_n (de_iload_1 (B 34 _ rfl)) 1 rfl (n := 35) rfl ?_
    refine Vw.iload_n (de_iload_2 (B 35 _ rfl)) 2 rfl (n := 36) rfl ?_
    refine Vw.ivv2 (mi' := mX12_laysOptions) (de_invokevirtual (B 36 _ rfl) (B 37 _ rfl) (B 38 _ rfl)) ml_X12_413 mv_X12_laysOptions hM.k (Nat.le_of_ble_eq_true rfl) (n := 39) rfl (c_X12_laysOptions (W := W) hM hW hT hB hn (fun J fJ oJ mJ => ?_))
    refine Vw.aload_n (de_aload_0 (B 39 _ rfl)) 0 rfl (n := 40) rfl ?_
    refine Vw.getR (de_getfield (B 40 _ rfl) (B 41 _ rfl) (B 42 _ rfl)) fl_X12_24 rfl hM.k (MS_kept hM).1 (n := 43) rfl ?_
    refine Vw.bipush (v := 113) (de_bipush (B 43 _ rfl) (B 44 _ rfl)) rfl (n := 45) rfl ?_
    refine Vw.iconst (v := 2) (de_iconst_2 (B 45 _ rfl)) rfl (n := 46) rfl ?_
    refine Vw.iload_n (de_iload_1 (B 46 _ rfl)) 1 rfl (n := 47) rfl ?_
    refine Vw.imul (de_imul (B 47 _ rfl)) (n := 48) rfl ?_
    refine Vw.iadd (de_iadd (B 48 _ rfl)) (n := 49) rfl ?_
    refine Vw.iald (de_iaload (B 49 _ rfl)) (MS_kept hM).2 (vIx_n (k := 113 + 2 * t) (by simp only [nI_A, nI_M, Int32.zero_add, Int32.add_zero] <;> rfl) (by omega)) (n := 50) rfl ?_
    rw [fJ.k, ecl]
    refine Vw.istore (lv2 := [(0, _), (1, _), (2, _), (3, _), (4, _)]) (de_istore (B 50 _ rfl) (B 51 _ rfl)) (by decide) [1, 2, 3, 4, 0] rfl (n := 52) rfl ?_
    refine Vw.iload_n (de_iload_3 (B 52 _ rfl)) 3 rfl (n := 53) rfl ?_
    refine Vw.if_ne (tgt := 64) (n := 56) (de_if_ne (B 53 _ rfl) (B 54 _ rfl) (B 55 _ rfl)) rfl rfl (fun c_53 => ?_) (fun c_53 => ?_)
    · refine Vw.iload (de_iload (B 64 _ rfl) (B 65 _ rfl)) 4 rfl (n := 66) rfl ?_
      refine Vw.istore (lv2 := [(0, _), (1, _), (2, _), (3, _), (4, _), (5, _)]) (de_istore (B 66 _ rfl) (B 67 _ rfl)) (by decide) [1, 2, 3, 4, 5, 0] rfl (n := 68) rfl ?_
      refine Vw.iconst (v := 0) (de_iconst_0 (B 68 _ rfl)) rfl (n := 69) rfl ?_
      refine Vw.istore (lv2 := [(0, _), (1, _), (2, _), (3, _), (4, _), (5, _), (6, _)]) (de_istore (B 69 _ rfl) (B 70 _ rfl)) (by decide) [1, 2, 3, 4, 5, 6, 0] rfl (n := 71) rfl ?_
      have hz0 : ¬ zz = 0 := fun e => c_53 (by rw [e]; rfl)
      have fin3 := fin J fJ
      rw [if_neg c_53] at fin3
      exact loop t n zz cl (by omega) hn hcl9 (by omega) hz J fJ oJ mJ (fun e => by rw [if_pos (show nI zz = 1 by rw [e]; rfl)] at fin3; exact fin3) (fun q hq e => by rw [if_neg (show ¬ nI zz = 1 from fun e2 => absurd (nI_inj (a := zz) (b := 1) (by omega) (by decide) e2) (by omega)), nI_cl (show zz < 2147483648 by omega), show zz - 2 = q by omega] at fin3; exact fin3) 0 (Nat.zero_le _) (fun e => by omega)
    refine Vw.aload_n (de_aload_0 (B 56 _ rfl)) 0 rfl (n := 57) rfl ?_
    refine Vw.getR (de_getfield (B 57 _ rfl) (B 58 _ rfl) (B 59 _ rfl)) fl_X12_84 rfl hM.k (MS_most hM).1 (n := 60) rfl ?_
    refine Vw.iload (de_iload (B 60 _ rfl) (B 61 _ rfl)) 4 rfl (n := 62) rfl ?_
    refine Vw.iald (de_iaload (B 62 _ rfl)) (MS_most hM).2 (vIx_n (k := cl) (by simp only [nI_A, nI_M, Int32.zero_add, Int32.add_zero] <;> rfl) (by omega)) (n := 63) rfl ?_
    rw [mJ cl (Nat.zero_le _) (by omega), show cl / 1000 = 0 by omega, show cl % 1000 = cl by omega, Nat.sub_zero]
    exact Vw.iret (de_ireturn (B 63 _ rfl)) rfl ⟨_, rfl, (by have e := fin J fJ; rw [if_pos c_53] at e; exact e)⟩
  refine Vw.iconst (v := -1) (de_iconst_m1 (B 31 _ rfl)) rfl (n := 32) rfl ?_
  exact Vw.iret (de_ireturn (B 32 _ rfl)) rfl ⟨_, rfl, (qv (by unfold cutP; rw [if_pos (by first | exact Or.inl c_4 | exact Or.inr (Or.inl c_14) | exact Or.inr (Or.inr c_28))]) (h I Fc.rfl))⟩
