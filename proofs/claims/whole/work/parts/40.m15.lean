/-! The reference reads a TEXT -/
/-- the memory over which a text of n bytes is parsed: nt tokens -/
def RD (I J : vI) (r n nt : Nat) : Prop := ∃ I2, SP I I2 r nt (I (r + 7)) (tkL (I (r + 7)) n 401 0) ∧ J = up2 (tm I2 r nt n 0 0) r 11 0
abbrev txt (J : vI) (r nt : Nat) : Except Nat (List tC) := pText (J (r + 9)) (J (r + 10)) (decide (¬ J r 8 = 0)) nt
theorem RD.ok {I J : vI} {r n nt : Nat} (h : RD I J r n nt) (hn : nt ≤ 400) (hnn : n ≤ 400) : pOk J r nt ∧ J r 16 = nI nt := by
  obtain ⟨I2, hs, rfl⟩ := h
  refine ⟨⟨hn, by rw [up2_a (by omega)]; simp [tm], fun f hf => ?_⟩, by rw [up2_k (by decide), tm_o (by omega)]; exact hs.2.1⟩
  rw [up2_a (by omega)]
  by_cases q : f = nt
  · subst q
    have e : tm I2 r f n 0 0 (r + 11) f = nI n := by simp [tm]
    rw [e]
    intro z
    have := congrArg Int32.toInt z
    rw [nI_ti (by omega)] at this
    have e2 : (-1 : Int32).toInt = -1 := rfl
    omega
  · rw [tm_x q]
    have hlt : f < (tkL (I (r + 7)) n 401 0).length := by rw [hs.2.2.1]; omega
    obtain ⟨s, e, hse⟩ : ∃ s e, (tkL (I (r + 7)) n 401 0)[f]? = some (s, e) := ⟨_, _, List.getElem?_eq_getElem hlt⟩
    have hg := hs.2.2.2 f s e hse
    rw [hg.2.2]
    intro z
    have hb : ∀ g k, k ≤ n → ∀ x ∈ tkL (I (r + 7)) n g k, x.1 ≤ n := by
      intro g
      induction g with
      | zero => intro k _ x hx; simp [tkL] at hx
      | succ g ih =>
        intro k hk x hx
        rw [tkL] at hx
        split at hx
        · rename_i h1
          split at hx
          · exact ih (k + 1) h1 x hx
          · rcases List.mem_cons.mp hx with q | q
            · rw [q]; exact Nat.le_of_lt h1
            · exact ih _ (tEnd_b h1).2 x q
        · simp at hx
    have hle : s ≤ n := hb 401 0 (Nat.zero_le _) _ (List.mem_of_getElem? hse)
    have := congrArg Int32.toInt z
    rw [nI_ti (by omega)] at this
    have e2 : (-1 : Int32).toInt = -1 := rfl
    omega
section PV
variable {cd vl : Nat → Int32} {o : Bool} {nt j l j2 l2 e m : Nat} {acc : List tC} {c : tC}
theorem pRest_x (h : cd j = 159) : pRest cd vl o nt 0 j l acc = .error (j + 1) := by rw [pRest, if_pos h]
theorem pRest_e (h : cd j = 159) (h2 : pOne cd vl o (j + 1) l = .error e) : pRest cd vl o nt (m + 1) j l acc = .error e := by rw [pRest, if_pos h]; simp only [h2]
theorem pRest_o (h : cd j = 159) (h2 : pOne cd vl o (j + 1) l = .ok (j2, l2, c)) : pRest cd vl o nt (m + 1) j l acc = pRest cd vl o nt m j2 l2 (acc ++ [c]) := by rw [pRest, if_pos h]; simp only [h2]
theorem pRest_n (h : ¬ cd j = 159) (h2 : j < nt) : pRest cd vl o nt m j l acc = .error j := by rw [pRest.eq_def]; simp only; rw [if_neg h, if_pos h2]
theorem pRest_0 (h : ¬ cd j = 159) (h2 : ¬ j < nt) : pRest cd vl o nt m j l acc = .ok acc := by rw [pRest.eq_def]; simp only; rw [if_neg h, if_neg h2]
theorem pText_e (h : pOne cd vl o 0 0 = .error e) : pText cd vl o nt = .error e := by unfold pText; rw [h]
theorem pText_o (h : pOne cd vl o 0 0 = .ok (j, l, c)) : pText cd vl o nt = pRest cd vl o nt 11 j l [c] := by unfold pText; rw [h]
end PV
theorem pm_of {I : vI} {r : Nat} {t l b : Int32} : up2 (up2 (up2 I r 17 t) r 18 l) r 19 b = pm I r t l b := by
  funext a k; simp only [up2, pm]
  by_cases h1 : a = r
  · subst h1
    by_cases h2 : k = 17
    · subst h2; simp
    · by_cases h3 : k = 18
      · subst h3; simp
      · simp [h2, h3]
  · simp [h1]
theorem c_X12_reads {d : Nat} {S : vS} {I : vI} {L : vL} {Q : Int32 → vS → vI → vL → Prop} {r : Nat} {n : Nat} (hM : MS S r) (ht : I r 11 = nI n) (hn : n ≤ 400) (hW : Wd (I (r + 6)) WL 0)
    (hok : ∀ J nt cs t l, RD I J r n nt → nt ≤ 400 → txt J r nt = .ok cs → Q 1 S (up2 (pm J r t l (-1)) r 12 (-1)) L)
    (her : ∀ J nt f t l, RD I J r n nt → nt ≤ 400 → txt J r nt = .error f → f ≤ nt → Q 0 S (up2 (pm J r t l (J (r + 11) f)) r 12 (J (r + 11) f)) L) : Vc mX12_reads (d + 35) 0 0 [.ref r] S I L (ViQ Q) := by
  refine Vc.of rfl (Nat.le_of_ble_eq_true rfl) ?_
  have B := bs_X12_reads
  show Vw mX12_reads (d + 35) 0 0 0 0 (ViQ Q) 0 [(0, .ref r)] [] S I L
  have main : ∀ J nt, RD I J r n nt → nt ≤ 400 → Vw mX12_reads (d + 35) 0 0 0 0 (ViQ Q) 28 [(0, .ref r)] [] S (pm J r (nI 0) (nI 0) (-1)) L := by
    intro J nt hR hnt
    obtain ⟨hp, h16⟩ := hR.ok hnt hn
    have finE : ∀ e t l c, e ≤ nt → txt J r nt = .error e → Vw mX12_reads (d + 35) 0 0 0 0 (ViQ Q) 95 [(0, .ref r), (1, .int c)] [] S (pm J r t l (J (r + 11) e)) L := by
      intro e t l c he hx
      have hb := hp.2.2 e he
      refine Vw.aload_n (de_aload_0 (B 95 _ rfl)) 0 rfl (n := 96) rfl ?_
      refine Vw.aload_n (de_aload_0 (B 96 _ rfl)) 0 rfl (n := 97) rfl ?_
      refine Vw.getI (de_getfield (B 97 _ rfl) (B 98 _ rfl) (B 99 _ rfl)) fl_X12_188 rfl hM.k (n := 100) rfl ?_
      rw [pm_b]
      refine Vw.putI (de_putfield (B 100 _ rfl) (B 101 _ rfl) (B 102 _ rfl)) fl_X12_47 hM.k rfl rfl (n := 103) rfl ?_
      refine Vw.aload_n (de_aload_0 (B 103 _ rfl)) 0 rfl (n := 104) rfl ?_
      have em : up2 (pm J r t l (J (r + 11) e)) r 12 (J (r + 11) e) = pm (up2 J r 12 (J (r + 11) e)) r t l (J (r + 11) e) := by
        funext a k; simp only [up2, pm]
        by_cases h1 : a = r
        · subst h1
          by_cases h2 : k = 12
          · subst h2; simp
          · simp [h2]
        · simp [h1]
      have hq := her J nt e t l hR hnt hx he
      rw [em] at hq ⊢
      refine Vw.ivi0 (mi' := mX12_fine) (de_invokevirtual (B 104 _ rfl) (B 105 _ rfl) (B 106 _ rfl)) ml_X12_191 mv_X12_fine hM.k (Nat.le_of_ble_eq_true rfl) (n := 107) rfl (c_X12_fine hM ?_)
      rw [zF0 hb]
      exact Vw.zret (de_ireturn (B 107 _ rfl)) rfl rfl ⟨_, rfl, hq⟩
    have finO : ∀ cs t l c, txt J r nt = .ok cs → Vw mX12_reads (d + 35) 0 0 0 0 (ViQ Q) 95 [(0, .ref r), (1, .int c)] [] S (pm J r t l (-1)) L := by
      intro cs t l c hx
      refine Vw.aload_n (de_aload_0 (B 95 _ rfl)) 0 rfl (n := 96) rfl ?_
      refine Vw.aload_n (de_aload_0 (B 96 _ rfl)) 0 rfl (n := 97) rfl ?_
      refine Vw.getI (de_getfield (B 97 _ rfl) (B 98 _ rfl) (B 99 _ rfl)) fl_X12_188 rfl hM.k (n := 100) rfl ?_
      rw [pm_b]
      refine Vw.putI (de_putfield (B 100 _ rfl) (B 101 _ rfl) (B 102 _ rfl)) fl_X12_47 hM.k rfl rfl (n := 103) rfl ?_
      refine Vw.aload_n (de_aload_0 (B 103 _ rfl)) 0 rfl (n := 104) rfl ?_
      have em : up2 (pm J r t l (-1)) r 12 (-1) = pm (up2 J r 12 (-1)) r t l (-1) := by
        funext a k; simp only [up2, pm]
        by_cases h1 : a = r
        · subst h1
          by_cases h2 : k = 12
          · subst h2; simp
          · simp [h2]
        · simp [h1]
      have hq := hok J nt cs t l hR hnt hx
      rw [em] at hq ⊢
      refine Vw.ivi0 (mi' := mX12_fine) (de_invokevirtual (B 104 _ rfl) (B 105 _ rfl) (B 106 _ rfl)) ml_X12_191 mv_X12_fine hM.k (Nat.le_of_ble_eq_true rfl) (n := 107) rfl (c_X12_fine hM ?_)
      rw [show zFine (-1) = 1 from rfl]
      exact Vw.zret (de_ireturn (B 107 _ rfl)) rfl rfl ⟨_, rfl, hq⟩
    have nf : ∀ e t l c, e ≤ nt → txt J r nt = .error e → Vw mX12_reads (d + 35) 0 0 0 0 (ViQ Q) 34 [(0, .ref r), (1, .int c)] [] S (pm J r t l (J (r + 11) e)) L := by
      intro e t l c he hx
      have hb := hp.2.2 e he
      refine Vw.aload_n (de_aload_0 (B 34 _ rfl)) 0 rfl (n := 35) rfl ?_
      refine Vw.bipush (v := 59) (de_bipush (B 35 _ rfl) (B 36 _ rfl)) rfl (n := 37) rfl ?_
      refine Vw.isi1 (mi' := mX12_sign) (de_invokestatic (B 37 _ rfl) (B 38 _ rfl) (B 39 _ rfl)) ml_X12_239 ms_X12_sign (Nat.le_of_ble_eq_true rfl) (n := 40) rfl (c_X12_sign ?_)
      rw [show (100 + 59 : Int32) = 159 from rfl]
      refine Vw.ivi1 (mi' := mX12_takes0) (de_invokevirtual (B 40 _ rfl) (B 41 _ rfl) (B 42 _ rfl)) ml_X12_198 mv_X12_takes0 hM.k (Nat.le_of_ble_eq_true rfl) (n := 43) rfl (c_X12_takes0_nf hM hb ?_)
      refine Vw.if_eq (tgt := 73) (n := 46) (de_if_eq (B 43 _ rfl) (B 44 _ rfl) (B 45 _ rfl)) rfl rfl (fun c_43 => ?_) (fun c_43 => ?_)
      · refine Vw.aload_n (de_aload_0 (B 73 _ rfl)) 0 rfl (n := 74) rfl ?_
        refine Vw.ivi0 (mi' := mX12_fine) (de_invokevirtual (B 74 _ rfl) (B 75 _ rfl) (B 76 _ rfl)) ml_X12_191 mv_X12_fine hM.k (Nat.le_of_ble_eq_true rfl) (n := 77) rfl (c_X12_fine hM ?_)
        refine Vw.if_eq (tgt := 95) (n := 80) (de_if_eq (B 77 _ rfl) (B 78 _ rfl) (B 79 _ rfl)) rfl rfl (fun c_77 => ?_) (fun c_77 => ?_)
        · exact finE e t l c he hx
        exact absurd (zF0 hb) c_77
      exact absurd rfl c_43
    have loop : ∀ m k j l acc, k + m = 12 → 1 ≤ k → j ≤ nt → l ≤ 50 → txt J r nt = pRest (J (r + 9)) (J (r + 10)) (decide (¬ J r 8 = 0)) nt m j l acc → Vw mX12_reads (d + 35) 0 0 0 0 (ViQ Q) 34 [(0, .ref r), (1, .int (nI k))] [] S (pm J r (nI j) (nI l) (-1)) L := by
      intro m
      induction m with
      | zero =>
        intro k j l acc hk hk1 hj hl hx
        obtain rfl : k = 12 := by omega
        refine Vw.aload_n (de_aload_0 (B 34 _ rfl)) 0 rfl (n := 35) rfl ?_
        refine Vw.bipush (v := 59) (de_bipush (B 35 _ rfl) (B 36 _ rfl)) rfl (n := 37) rfl ?_
        refine Vw.isi1 (mi' := mX12_sign) (de_invokestatic (B 37 _ rfl) (B 38 _ rfl) (B 39 _ rfl)) ml_X12_239 ms_X12_sign (Nat.le_of_ble_eq_true rfl) (n := 40) rfl (c_X12_sign ?_)
        rw [show (100 + 59 : Int32) = 159 from rfl]
        refine Vw.ivi1 (mi' := mX12_takes0) (de_invokevirtual (B 40 _ rfl) (B 41 _ rfl) (B 42 _ rfl)) ml_X12_198 mv_X12_takes0 hM.k (Nat.le_of_ble_eq_true rfl) (n := 43) rfl (c_X12_takes0 hM hp hj (fun _ z => ?_) (fun z => ?_))
        · refine Vw.if_eq (tgt := 73) (n := 46) (de_if_eq (B 43 _ rfl) (B 44 _ rfl) (B 45 _ rfl)) rfl rfl (fun c_43 => ?_) (fun c_43 => ?_)
          · exact absurd c_43 (by decide)
          refine Vw.iload_n (de_iload_1 (B 46 _ rfl)) 1 rfl (n := 47) rfl ?_
          refine Vw.bipush (v := 12) (de_bipush (B 47 _ rfl) (B 48 _ rfl)) rfl (n := 49) rfl ?_
          refine Vw.icmp_ne (tgt := 56) (n := 52) (de_icmp_ne (B 49 _ rfl) (B 50 _ rfl) (B 51 _ rfl)) rfl rfl (fun c_49 => ?_) (fun c_49 => ?_)
          · exact absurd rfl c_49
          refine Vw.aload_n (de_aload_0 (B 52 _ rfl)) 0 rfl (n := 53) rfl ?_
          refine Vw.ivv0 (mi' := mX12_faults) (de_invokevirtual (B 53 _ rfl) (B 54 _ rfl) (B 55 _ rfl)) ml_X12_201 mv_X12_faults hM.k (Nat.le_of_ble_eq_true rfl) (n := 56) rfl (c_X12_faults hM hp (lt_nt hp hj z (by decide)) (fun _ => ?_) (fun q => absurd rfl q))
          refine Vw.aload_n (de_aload_0 (B 56 _ rfl)) 0 rfl (n := 57) rfl ?_
          refine Vw.ivi0 (mi' := mX12_fine) (de_invokevirtual (B 57 _ rfl) (B 58 _ rfl) (B 59 _ rfl)) ml_X12_191 mv_X12_fine hM.k (Nat.le_of_ble_eq_true rfl) (n := 60) rfl (c_X12_fine hM ?_)
          refine Vw.if_eq (tgt := 67) (n := 63) (de_if_eq (B 60 _ rfl) (B 61 _ rfl) (B 62 _ rfl)) rfl rfl (fun c_60 => ?_) (fun c_60 => ?_)
          · refine Vw.iinc  (lv2 := [(0, _), (1, _)]) (de_iinc (B 67 _ rfl) (B 68 _ rfl) (B 69 _ rfl)) 1 rfl rfl (by decide) [1, 0] rfl (n := 70) rfl ?_
            refine Vw.goto_ (n := 34) (de_goto_ (B 70 _ rfl) (B 71 _ rfl) (B 72 _ rfl)) rfl ?_
            exact nf (j + 1) _ _ _ (lt_nt hp hj z (by decide)) (hx.trans (pRest_x z))
          exact absurd (zF0 (hp.2.2 (j + 1) (lt_nt hp hj z (by decide)))) c_60
        · refine Vw.if_eq (tgt := 73) (n := 46) (de_if_eq (B 43 _ rfl) (B 44 _ rfl) (B 45 _ rfl)) rfl rfl (fun c_43 => ?_) (fun c_43 => ?_)
          · refine Vw.aload_n (de_aload_0 (B 73 _ rfl)) 0 rfl (n := 74) rfl ?_
            refine Vw.ivi0 (mi' := mX12_fine) (de_invokevirtual (B 74 _ rfl) (B 75 _ rfl) (B 76 _ rfl)) ml_X12_191 mv_X12_fine hM.k (Nat.le_of_ble_eq_true rfl) (n := 77) rfl (c_X12_fine hM ?_)
            refine Vw.if_eq (tgt := 95) (n := 80) (de_if_eq (B 77 _ rfl) (B 78 _ rfl) (B 79 _ rfl)) rfl rfl (fun c_77 => ?_) (fun c_77 => ?_)
            · exact absurd c_77 (by decide)
            refine Vw.aload_n (de_aload_0 (B 80 _ rfl)) 0 rfl (n := 81) rfl ?_
            refine Vw.getI (de_getfield (B 81 _ rfl) (B 82 _ rfl) (B 83 _ rfl)) fl_X12_195 rfl hM.k (n := 84) rfl ?_
            rw [pm_t]
            refine Vw.aload_n (de_aload_0 (B 84 _ rfl)) 0 rfl (n := 85) rfl ?_
            refine Vw.getI (de_getfield (B 85 _ rfl) (B 86 _ rfl) (B 87 _ rfl)) fl_X12_175 rfl hM.k (n := 88) rfl ?_
            rw [pm_k (by decide) (by decide) (by decide), h16]
            refine Vw.icmp_ge (tgt := 95) (n := 91) (de_icmp_ge (B 88 _ rfl) (B 89 _ rfl) (B 90 _ rfl)) rfl rfl (fun c_88 => ?_) (fun c_88 => ?_)
            · first
              | exact finO acc _ _ _ (hx.trans (pRest_0 (z rfl) (fun q => absurd ((nI_leI (by omega) (by omega)).mp c_88) (by omega))))
              | exact finE j _ _ _ hj (hx.trans (pRest_n (z rfl) (by rcases Nat.lt_or_ge j nt with q | q; exact q; exact absurd ((nI_leI (by omega) (by omega)).mpr q) c_88)))
            refine Vw.aload_n (de_aload_0 (B 91 _ rfl)) 0 rfl (n := 92) rfl ?_
            refine Vw.ivv0 (mi' := mX12_faults) (de_invokevirtual (B 92 _ rfl) (B 93 _ rfl) (B 94 _ rfl)) ml_X12_201 mv_X12_faults hM.k (Nat.le_of_ble_eq_true rfl) (n := 95) rfl (c_X12_faults hM hp hj (fun _ => ?_) (fun q => absurd rfl q))
            first
            | exact finO acc _ _ _ (hx.trans (pRest_0 (z rfl) (fun q => absurd ((nI_leI (by omega) (by omega)).mp c_88) (by omega))))
            | exact finE j _ _ _ hj (hx.trans (pRest_n (z rfl) (by rcases Nat.lt_or_ge j nt with q | q; exact q; exact absurd ((nI_leI (by omega) (by omega)).mpr q) c_88)))
          exact absurd rfl c_43
      | succ m ih =>
        intro k j l acc hk hk1 hj hl hx
        refine Vw.aload_n (de_aload_0 (B 34 _ rfl)) 0 rfl (n := 35) rfl ?_
        refine Vw.bipush (v := 59) (de_bipush (B 35 _ rfl) (B 36 _ rfl)) rfl (n := 37) rfl ?_
        refine Vw.isi1 (mi' := mX12_sign) (de_invokestatic (B 37 _ rfl) (B 38 _ rfl) (B 39 _ rfl)) ml_X12_239 ms_X12_sign (Nat.le_of_ble_eq_true rfl) (n := 40) rfl (c_X12_sign ?_)
        rw [show (100 + 59 : Int32) = 159 from rfl]
        refine Vw.ivi1 (mi' := mX12_takes0) (de_invokevirtual (B 40 _ rfl) (B 41 _ rfl) (B 42 _ rfl)) ml_X12_198 mv_X12_takes0 hM.k (Nat.le_of_ble_eq_true rfl) (n := 43) rfl (c_X12_takes0 hM hp hj (fun _ z => ?_) (fun z => ?_))
        · refine Vw.if_eq (tgt := 73) (n := 46) (de_if_eq (B 43 _ rfl) (B 44 _ rfl) (B 45 _ rfl)) rfl rfl (fun c_43 => ?_) (fun c_43 => ?_)
          · exact absurd c_43 (by decide)
          refine Vw.iload_n (de_iload_1 (B 46 _ rfl)) 1 rfl (n := 47) rfl ?_
          refine Vw.bipush (v := 12) (de_bipush (B 47 _ rfl) (B 48 _ rfl)) rfl (n := 49) rfl ?_
          refine Vw.icmp_ne (tgt := 56) (n := 52) (de_icmp_ne (B 49 _ rfl) (B 50 _ rfl) (B 51 _ rfl)) rfl rfl (fun c_49 => ?_) (fun c_49 => ?_)
          · refine Vw.aload_n (de_aload_0 (B 56 _ rfl)) 0 rfl (n := 57) rfl ?_
            refine Vw.ivi0 (mi' := mX12_fine) (de_invokevirtual (B 57 _ rfl) (B 58 _ rfl) (B 59 _ rfl)) ml_X12_191 mv_X12_fine hM.k (Nat.le_of_ble_eq_true rfl) (n := 60) rfl (c_X12_fine hM ?_)
            refine Vw.if_eq (tgt := 67) (n := 63) (de_if_eq (B 60 _ rfl) (B 61 _ rfl) (B 62 _ rfl)) rfl rfl (fun c_60 => ?_) (fun c_60 => ?_)
            · exact absurd c_60 (by decide)
            refine Vw.aload_n (de_aload_0 (B 63 _ rfl)) 0 rfl (n := 64) rfl ?_
            refine Vw.ivv0 (mi' := mX12_readOne) (de_invokevirtual (B 64 _ rfl) (B 65 _ rfl) (B 66 _ rfl)) ml_X12_258 mv_X12_readOne hM.k (Nat.le_of_ble_eq_true rfl) (n := 67) rfl (rc_one _ _ _ _ _ _ _ _ _ hM hp (lt_nt hp hj z (by decide)) hl (fun j2 l2 c2 z1 z0 z2 z3 => ?_) (fun e t l2 z1 z2 => ?_))
            · refine Vw.iinc (v := nI (k + 1)) (lv2 := [(0, _), (1, _)]) (de_iinc (B 67 _ rfl) (B 68 _ rfl) (B 69 _ rfl)) 1 rfl (nI_1 k) (by decide) [1, 0] rfl (n := 70) rfl ?_
              refine Vw.goto_ (n := 34) (de_goto_ (B 70 _ rfl) (B 71 _ rfl) (B 72 _ rfl)) rfl ?_
              exact ih (k + 1) j2 l2 (acc ++ [c2]) (by omega) (by omega) z2 z3 (hx.trans (pRest_o z z1))
            · refine Vw.iinc  (lv2 := [(0, _), (1, _)]) (de_iinc (B 67 _ rfl) (B 68 _ rfl) (B 69 _ rfl)) 1 rfl rfl (by decide) [1, 0] rfl (n := 70) rfl ?_
              refine Vw.goto_ (n := 34) (de_goto_ (B 70 _ rfl) (B 71 _ rfl) (B 72 _ rfl)) rfl ?_
              exact nf e _ _ _ z2 (hx.trans (pRest_e z z1))
          exact absurd (nI_inj (b := 12) (by omega) (by decide) c_49) (by omega)
        · refine Vw.if_eq (tgt := 73) (n := 46) (de_if_eq (B 43 _ rfl) (B 44 _ rfl) (B 45 _ rfl)) rfl rfl (fun c_43 => ?_) (fun c_43 => ?_)
          · refine Vw.aload_n (de_aload_0 (B 73 _ rfl)) 0 rfl (n := 74) rfl ?_
            refine Vw.ivi0 (mi' := mX12_fine) (de_invokevirtual (B 74 _ rfl) (B 75 _ rfl) (B 76 _ rfl)) ml_X12_191 mv_X12_fine hM.k (Nat.le_of_ble_eq_true rfl) (n := 77) rfl (c_X12_fine hM ?_)
            refine Vw.if_eq (tgt := 95) (n := 80) (de_if_eq (B 77 _ rfl) (B 78 _ rfl) (B 79 _ rfl)) rfl rfl (fun c_77 => ?_) (fun c_77 => ?_)
            · exact absurd c_77 (by decide)
            refine Vw.aload_n (de_aload_0 (B 80 _ rfl)) 0 rfl (n := 81) rfl ?_
            refine Vw.getI (de_getfield (B 81 _ rfl) (B 82 _ rfl) (B 83 _ rfl)) fl_X12_195 rfl hM.k (n := 84) rfl ?_
            rw [pm_t]
            refine Vw.aload_n (de_aload_0 (B 84 _ rfl)) 0 rfl (n := 85) rfl ?_
            refine Vw.getI (de_getfield (B 85 _ rfl) (B 86 _ rfl) (B 87 _ rfl)) fl_X12_175 rfl hM.k (n := 88) rfl ?_
            rw [pm_k (by decide) (by decide) (by decide), h16]
            refine Vw.icmp_ge (tgt := 95) (n := 91) (de_icmp_ge (B 88 _ rfl) (B 89 _ rfl) (B 90 _ rfl)) rfl rfl (fun c_88 => ?_) (fun c_88 => ?_)
            · first
              | exact finO acc _ _ _ (hx.trans (pRest_0 (z rfl) (fun q => absurd ((nI_leI (by omega) (by omega)).mp c_88) (by omega))))
              | exact finE j _ _ _ hj (hx.trans (pRest_n (z rfl) (by rcases Nat.lt_or_ge j nt with q | q; exact q; exact absurd ((nI_leI (by omega) (by omega)).mpr q) c_88)))
            refine Vw.aload_n (de_aload_0 (B 91 _ rfl)) 0 rfl (n := 92) rfl ?_
            refine Vw.ivv0 (mi' := mX12_faults) (de_invokevirtual (B 92 _ rfl) (B 93 _ rfl) (B 94 _ rfl)) ml_X12_201 mv_X12_faults hM.k (Nat.le_of_ble_eq_true rfl) (n := 95) rfl (c_X12_faults hM hp hj (fun _ => ?_) (fun q => absurd rfl q))
            first
            | exact finO acc _ _ _ (hx.trans (pRest_0 (z rfl) (fun q => absurd ((nI_leI (by omega) (by omega)).mp c_88) (by omega))))
            | exact finE j _ _ _ hj (hx.trans (pRest_n (z rfl) (by rcases Nat.lt_or_ge j nt with q | q; exact q; exact absurd ((nI_leI (by omega) (by omega)).mpr q) c_88)))
          exact absurd rfl c_43
    refine Vw.aload_n (de_aload_0 (B 28 _ rfl)) 0 rfl (n := 29) rfl ?_
    refine Vw.ivv0 (mi' := mX12_readOne) (de_invokevirtual (B 29 _ rfl) (B 30 _ rfl) (B 31 _ rfl)) ml_X12_258 mv_X12_readOne hM.k (Nat.le_of_ble_eq_true rfl) (n := 32) rfl (rc_one _ _ _ _ _ _ _ _ _ hM hp (Nat.zero_le _) (Nat.zero_le _) (fun j2 l2 c2 z1 z0 z2 z3 => ?_) (fun e t l2 z1 z2 => ?_))
    · refine Vw.iconst (v := 1) (de_iconst_1 (B 32 _ rfl)) rfl (n := 33) rfl ?_
      refine Vw.istore_n (lv2 := [(0, _), (1, _)]) (de_istore_1 (B 33 _ rfl)) rfl (by decide) [1, 0] rfl (n := 34) rfl ?_
      exact loop 11 1 j2 l2 [c2] rfl (Nat.le_refl 1) z2 z3 (pText_o z1)
    · refine Vw.iconst (v := 1) (de_iconst_1 (B 32 _ rfl)) rfl (n := 33) rfl ?_
      refine Vw.istore_n (lv2 := [(0, _), (1, _)]) (de_istore_1 (B 33 _ rfl)) rfl (by decide) [1, 0] rfl (n := 34) rfl ?_
      exact nf e _ _ _ z2 (pText_e z1)
  refine Vw.aload_n (de_aload_0 (B 0 _ rfl)) 0 rfl (n := 1) rfl ?_
  refine Vw.aload_n (de_aload_0 (B 1 _ rfl)) 0 rfl (n := 2) rfl ?_
  refine Vw.getI (de_getfield (B 2 _ rfl) (B 3 _ rfl) (B 4 _ rfl)) fl_X12_169 rfl hM.k (n := 5) rfl ?_
  rw [ht]
  refine Vw.ivv1 (mi' := mX12_splits) (de_invokevirtual (B 5 _ rfl) (B 6 _ rfl) (B 7 _ rfl)) ml_X12_255 mv_X12_splits hM.k (Nat.le_of_ble_eq_true rfl) (n := 8) rfl (c_X12_splits hM hn hW (fun I2 nt g1 g2 => ?_))
  · refine Vw.aload_n (de_aload_0 (B 8 _ rfl)) 0 rfl (n := 9) rfl ?_
    refine Vw.iconst (v := 0) (de_iconst_0 (B 9 _ rfl)) rfl (n := 10) rfl ?_
    refine Vw.putI (de_putfield (B 10 _ rfl) (B 11 _ rfl) (B 12 _ rfl)) fl_X12_169 hM.k rfl rfl (n := 13) rfl ?_
    refine Vw.aload_n (de_aload_0 (B 13 _ rfl)) 0 rfl (n := 14) rfl ?_
    refine Vw.iconst (v := 0) (de_iconst_0 (B 14 _ rfl)) rfl (n := 15) rfl ?_
    refine Vw.putI (de_putfield (B 15 _ rfl) (B 16 _ rfl) (B 17 _ rfl)) fl_X12_195 hM.k rfl rfl (n := 18) rfl ?_
    refine Vw.aload_n (de_aload_0 (B 18 _ rfl)) 0 rfl (n := 19) rfl ?_
    refine Vw.iconst (v := 0) (de_iconst_0 (B 19 _ rfl)) rfl (n := 20) rfl ?_
    refine Vw.putI (de_putfield (B 20 _ rfl) (B 21 _ rfl) (B 22 _ rfl)) fl_X12_204 hM.k rfl rfl (n := 23) rfl ?_
    refine Vw.aload_n (de_aload_0 (B 23 _ rfl)) 0 rfl (n := 24) rfl ?_
    refine Vw.iconst (v := -1) (de_iconst_m1 (B 24 _ rfl)) rfl (n := 25) rfl ?_
    refine Vw.putI (de_putfield (B 25 _ rfl) (B 26 _ rfl) (B 27 _ rfl)) fl_X12_188 hM.k rfl rfl (n := 28) rfl ?_
    rw [pm_of]
    exact main _ nt ⟨I2, g1, rfl⟩ g2
