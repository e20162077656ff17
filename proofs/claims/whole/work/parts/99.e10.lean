/-! terms, forget, sight, end, nourish -/
theorem c_X11_canBeTerm {d : Nat} {S : vS} {I : vI} {L : vL} {Q : Int32 → vS → vI → vL → Prop} {a v : Int32} (h1 : ∀ k, k < 3 → a = nI k → Q (zLie v 0 (tmMax k)) S I L) (h : ¬ (∃ k, k < 3 ∧ a = nI k) → Q 0 S I L) : Vc mX11_canBeTerm (d + 1) 0 0 [.int a, .int v] S I L (ViQ Q) := by
  refine Vc.of rfl (Nat.le_of_ble_eq_true rfl) ?_
  have B := bs_X11_canBeTerm
  show Vw mX11_canBeTerm (d + 1) 0 0 0 0 (ViQ Q) 0 [(0, .int a), (1, .int v)] [] S I L
  refine Vw.iload_n (de_iload_0 (B 0 _ rfl)) 0 rfl (n := 1) rfl ?_
  have hts_1 : decode mX11_canBeTerm.2.1 1 = .ok (.tableswitch 52 0 2 #[27, 36, 44], 27) := by decide +kernel
  by_cases e_1_0 : a = (0 : Int32)
  · rw [e_1_0]
    refine Vw.tsIn (n := 28) hts_1 (by decide) (by decide) rfl rfl ?_
    refine Vw.iload_n (de_iload_1 (B 28 _ rfl)) 1 rfl (n := 29) rfl ?_
    refine Vw.iconst (v := 0) (de_iconst_0 (B 29 _ rfl)) rfl (n := 30) rfl ?_
    refine Vw.sipush (v := 999) (de_sipush (B 30 _ rfl) (B 31 _ rfl) (B 32 _ rfl)) rfl (n := 33) rfl ?_
    refine Vw.isi3 (mi' := mX11_isWithin) (de_invokestatic (B 33 _ rfl) (B 34 _ rfl) (B 35 _ rfl)) ml_X11_165 ms_X11_isWithin (Nat.le_of_ble_eq_true rfl) (n := 36) rfl (c_X11_isWithin ?_)
    exact Vw.zret (de_ireturn (B 36 _ rfl)) rfl (zLie_z _ _ _) ⟨_, rfl, (h1 0 (by decide) e_1_0)⟩
  by_cases e_1_1 : a = (1 : Int32)
  · rw [e_1_1]
    refine Vw.tsIn (n := 37) hts_1 (by decide) (by decide) rfl rfl ?_
    refine Vw.iload_n (de_iload_1 (B 37 _ rfl)) 1 rfl (n := 38) rfl ?_
    refine Vw.iconst (v := 0) (de_iconst_0 (B 38 _ rfl)) rfl (n := 39) rfl ?_
    refine Vw.bipush (v := 10) (de_bipush (B 39 _ rfl) (B 40 _ rfl)) rfl (n := 41) rfl ?_
    refine Vw.isi3 (mi' := mX11_isWithin) (de_invokestatic (B 41 _ rfl) (B 42 _ rfl) (B 43 _ rfl)) ml_X11_165 ms_X11_isWithin (Nat.le_of_ble_eq_true rfl) (n := 44) rfl (c_X11_isWithin ?_)
    exact Vw.zret (de_ireturn (B 44 _ rfl)) rfl (zLie_z _ _ _) ⟨_, rfl, (h1 1 (by decide) e_1_1)⟩
  by_cases e_1_2 : a = (2 : Int32)
  · rw [e_1_2]
    refine Vw.tsIn (n := 45) hts_1 (by decide) (by decide) rfl rfl ?_
    refine Vw.iload_n (de_iload_1 (B 45 _ rfl)) 1 rfl (n := 46) rfl ?_
    refine Vw.iconst (v := 0) (de_iconst_0 (B 46 _ rfl)) rfl (n := 47) rfl ?_
    refine Vw.bipush (v := 9) (de_bipush (B 47 _ rfl) (B 48 _ rfl)) rfl (n := 49) rfl ?_
    refine Vw.isi3 (mi' := mX11_isWithin) (de_invokestatic (B 49 _ rfl) (B 50 _ rfl) (B 51 _ rfl)) ml_X11_165 ms_X11_isWithin (Nat.le_of_ble_eq_true rfl) (n := 52) rfl (c_X11_isWithin ?_)
    exact Vw.zret (de_ireturn (B 52 _ rfl)) rfl (zLie_z _ _ _) ⟨_, rfl, (h1 2 (by decide) e_1_2)⟩
  refine Vw.tsOut (n := 53) hts_1 (by have q0 := ne_ti e_1_0 0 rfl ; have q1 := ne_ti e_1_1 1 rfl ; have q2 := ne_ti e_1_2 2 rfl; omega) rfl ?_
  refine Vw.iconst (v := 0) (de_iconst_0 (B 53 _ rfl)) rfl (n := 54) rfl ?_
  exact Vw.zret (de_ireturn (B 54 _ rfl)) rfl rfl ⟨_, rfl, (h (fun ⟨k, k1, k2⟩ => by rcases (show k = 0 ∨ k = 1 ∨ k = 2 by omega) with rfl | rfl | rfl; exact e_1_0 k2; exact e_1_1 k2; exact e_1_2 k2))⟩
theorem c_X11_termOf {d : Nat} {S : vS} {I : vI} {L : vL} {Q : Int32 → vS → vI → vL → Prop} {x lb np nc ns nl k : Nat} {K : Nat → Int32} (hC : ClsS S x) (hs : STR S I (x + 1) lb K np nc ns nl) (hk : k < 3) (h : Q (K (tmAt k)) S I L) : Vc mX11_termOf d 0 0 [.ref x, .int (nI k)] S I L (ViQ Q) := by
  refine Vc.of rfl (Nat.le_of_ble_eq_true rfl) ?_
  have B := bs_X11_termOf
  show Vw mX11_termOf d 0 0 0 0 (ViQ Q) 0 [(0, .ref x), (1, .int (nI k))] [] S I L
  refine Vw.iload_n (de_iload_1 (B 0 _ rfl)) 1 rfl (n := 1) rfl ?_
  refine Vw.if_ne (tgt := 17) (n := 4) (de_if_ne (B 1 _ rfl) (B 2 _ rfl) (B 3 _ rfl)) rfl rfl (fun c_1 => ?_) (fun c_1 => ?_)
  · refine Vw.iload_n (de_iload_1 (B 17 _ rfl)) 1 rfl (n := 18) rfl ?_
    refine Vw.iconst (v := 1) (de_iconst_1 (B 18 _ rfl)) rfl (n := 19) rfl ?_
    refine Vw.icmp_ne (tgt := 32) (n := 22) (de_icmp_ne (B 19 _ rfl) (B 20 _ rfl) (B 21 _ rfl)) rfl rfl (fun c_19 => ?_) (fun c_19 => ?_)
    · refine Vw.aload_n (de_aload_0 (B 32 _ rfl)) 0 rfl (n := 33) rfl ?_
      refine Vw.getR (de_getfield (B 33 _ rfl) (B 34 _ rfl) (B 35 _ rfl)) fl_X11_12 rfl hC.k hC.f0 (n := 36) rfl ?_
      refine Vw.getI (de_getfield (B 36 _ rfl) (B 37 _ rfl) (B 38 _ rfl)) fl_X11_188 rfl hC.p0.k (n := 39) rfl ?_
      exact Vw.iret (de_ireturn (B 39 _ rfl)) rfl ⟨_, rfl, (by
    rcases (show k = 0 ∨ k = 1 ∨ k = 2 by omega) with rfl | rfl | rfl
    · first | exact h | exact absurd rfl c_1
    · first | exact absurd c_1 (by decide) | exact h | exact absurd rfl c_19
    · first | exact absurd c_1 (by decide) | exact absurd c_19 (by decide) | (rw [hs.mo]; exact h))⟩
    refine Vw.aload_n (de_aload_0 (B 22 _ rfl)) 0 rfl (n := 23) rfl ?_
    refine Vw.getR (de_getfield (B 23 _ rfl) (B 24 _ rfl) (B 25 _ rfl)) fl_X11_12 rfl hC.k hC.f0 (n := 26) rfl ?_
    refine Vw.getI (de_getfield (B 26 _ rfl) (B 27 _ rfl) (B 28 _ rfl)) fl_X11_185 rfl hC.p0.k (n := 29) rfl ?_
    rw [hs.fe]
    refine Vw.goto_ (n := 39) (de_goto_ (B 29 _ rfl) (B 30 _ rfl) (B 31 _ rfl)) rfl ?_
    exact Vw.iret (de_ireturn (B 39 _ rfl)) rfl ⟨_, rfl, (by
    rcases (show k = 0 ∨ k = 1 ∨ k = 2 by omega) with rfl | rfl | rfl
    · first | exact h | exact absurd rfl c_1
    · first | exact absurd c_1 (by decide) | exact h | exact absurd rfl c_19
    · first | exact absurd c_1 (by decide) | exact absurd c_19 (by decide) | (rw [hs.mo]; exact h))⟩
  refine Vw.aload_n (de_aload_0 (B 4 _ rfl)) 0 rfl (n := 5) rfl ?_
  refine Vw.getR (de_getfield (B 5 _ rfl) (B 6 _ rfl) (B 7 _ rfl)) fl_X11_12 rfl hC.k hC.f0 (n := 8) rfl ?_
  refine Vw.getR (de_getfield (B 8 _ rfl) (B 9 _ rfl) (B 10 _ rfl)) fl_X11_104 rfl hC.p0.k hC.p0.f0 (n := 11) rfl ?_
  refine Vw.getI (de_getfield (B 11 _ rfl) (B 12 _ rfl) (B 13 _ rfl)) fl_X11_142 rfl hC.p0.p0.k (n := 14) rfl ?_
  rw [hs.tr.2.2.1]
  refine Vw.goto_ (n := 39) (de_goto_ (B 14 _ rfl) (B 15 _ rfl) (B 16 _ rfl)) rfl ?_
  exact Vw.iret (de_ireturn (B 39 _ rfl)) rfl ⟨_, rfl, (by
    rcases (show k = 0 ∨ k = 1 ∨ k = 2 by omega) with rfl | rfl | rfl
    · first | exact h | exact absurd rfl c_1
    · first | exact absurd c_1 (by decide) | exact h | exact absurd rfl c_19
    · first | exact absurd c_1 (by decide) | exact absurd c_19 (by decide) | (rw [hs.mo]; exact h))⟩
theorem TR.nw {I J : vI} {t np nc : Nat} {K : Nat → Int32} {v : Int32} (h : TR I t K np nc) (h8 : np ≤ 8) (h10 : nc ≤ 10) (e : ∀ b, t < b → b ≤ t + 22 → J b = I b) (e4 : J t 4 = I t 4) (e5 : J t 5 = I t 5) (e6 : J t 6 = v) : TR J t (upK K 121 v) np nc := by
  obtain ⟨t1, t2, t3, t4, t5, t6⟩ := h
  exact ⟨e4.trans t1, e5.trans t2, by rw [e6, upK_s], fun q k hq hk => by rw [e _ (by omega) (by omega), upK_n (by omega)]; exact t4 q k hq hk, fun c k hc hk => by rw [e _ (by omega) (by omega), upK_n (by omega)]; exact t5 c k hc hk, fun i hi => by rw [e _ (by omega) (by omega), e _ (by omega) (by omega), upK_n (by omega), upK_n (by omega)]; exact t6 i hi⟩
theorem KB.nw {K : Nat → Int32} {np nc c : Nat} (h : KB K np nc) (h8 : np ≤ 8) (h10 : nc ≤ 10) (hc : c ≤ 999) : KB (upK K 121 (nI c)) np nc := by
  obtain ⟨b1, b2, b3, b4⟩ := h
  refine ⟨fun q hq => ?_, fun t ht => by rw [upK_n (by omega)]; exact b2 t ht, fun c hc => ?_, ?_⟩
  · have ep : perP (upK K 121 (nI c)) q = perP K q := by unfold perP; rw [upK_n (by omega), upK_n (by omega), upK_n (by omega), upK_n (by omega)]
    rw [ep]; exact b1 q hq
  · obtain ⟨a, b, hh, u, q1, q2, q3, q4, q5⟩ := b3 c hc
    exact ⟨a, b, hh, u, by rw [upK_n (by omega)]; exact q1, by rw [upK_n (by omega)]; exact q2, by rw [upK_n (by omega)]; exact q3, by rw [upK_n (by omega)]; exact q4, q5⟩
  · unfold NB; rw [upK_s, nI_ti (by omega)]; omega
theorem k_terms {d : Nat} {S : vS} {I : vI} {L : vL} {Q : Int32 → vS → vI → vL → Prop} {x lb np nc ns nl : Nat} {K : Nat → Int32} {l : List tH} {a v : Int32} (hC : ClsS S x) (hs : STR S I (x + 1) lb K np nc ns nl) (hH : HC I (x + 89) l np) (hlb : x + 942 ≤ lb) (h1 : ¬ (∃ k, k < 3 ∧ a = nI k ∧ ¬ zLie v 0 (tmMax k) = 0) → Q (-1) S (cRef I x (-1) 1) L) (h : ∀ k, k < 3 → a = nI k → ¬ zLie v 0 (tmMax k) = 0 → ∀ I2, (∀ b, b ≠ x + 1 → b ≠ x + 2 → b ≠ x + 89 → I2 b = I b) → (k = 0 → I2 (x + 1) = I (x + 1) ∧ I2 (x + 2) 6 = v ∧ ∀ j, j ≠ 6 → I2 (x + 2) j = I (x + 2) j) → (¬ k = 0 → I2 (x + 2) = I (x + 2) ∧ I2 (x + 1) (3 + k) = v ∧ ∀ j, j ≠ 3 + k → I2 (x + 1) j = I (x + 1) j) → HC I2 (x + 89) [] np → Q (K (tmAt k)) S (cAcc I2 x) L) : Vc mX11_terms (d + 80) 0 0 [.ref x, .int a, .int v] S I L (ViQ Q) := by
  refine Vc.of rfl (Nat.le_of_ble_eq_true rfl) ?_
  have B := bs_X11_terms
  show Vw mX11_terms (d + 80) 0 0 0 0 (ViQ Q) 0 [(0, .ref x), (1, .int a), (2, .int v)] [] S I L
  have hT := hC.p0.p0
  have hN := hs.tn
  have h8 := hN.1
  have h10 := hN.2.1
  have hK := hs.tr
  have hold : ∃ old, old < 16 ∧ I (x + 89) 2 = nI old := by obtain ⟨_, _, old, o1, o2, _⟩ := hH; exact ⟨old, o1, o2⟩
  refine Vw.iload_n (de_iload_1 (B 0 _ rfl)) 1 rfl (n := 1) rfl ?_
  refine Vw.iload_n (de_iload_2 (B 1 _ rfl)) 2 rfl (n := 2) rfl ?_
  refine Vw.isi2 (mi' := mX11_canBeTerm) (de_invokestatic (B 2 _ rfl) (B 3 _ rfl) (B 4 _ rfl)) ml_X11_178 ms_X11_canBeTerm (Nat.le_of_ble_eq_true rfl) (n := 5) rfl (c_X11_canBeTerm (fun k hk ek => ?_) (fun nk => ?_))
  · refine Vw.if_ne (tgt := 14) (n := 8) (de_if_ne (B 5 _ rfl) (B 6 _ rfl) (B 7 _ rfl)) rfl rfl (fun c_5 => ?_) (fun c_5 => ?_)
    · subst ek
      refine Vw.aload_n (de_aload_0 (B 14 _ rfl)) 0 rfl (n := 15) rfl ?_
      refine Vw.iload_n (de_iload_1 (B 15 _ rfl)) 1 rfl (n := 16) rfl ?_
      refine Vw.ivi1 (mi' := mX11_termOf) (de_invokevirtual (B 16 _ rfl) (B 17 _ rfl) (B 18 _ rfl)) ml_X11_182 mv_X11_termOf hC.k (Nat.le_of_ble_eq_true rfl) (n := 19) rfl (c_X11_termOf hC hs hk ?_)
      refine Vw.istore_n (lv2 := [(0, _), (1, _), (2, _), (3, _)]) (de_istore_3 (B 19 _ rfl)) rfl (by decide) [1, 2, 3, 0] rfl (n := 20) rfl ?_
      refine Vw.iload_n (de_iload_1 (B 20 _ rfl)) 1 rfl (n := 21) rfl ?_
      refine Vw.if_ne (tgt := 38) (n := 24) (de_if_ne (B 21 _ rfl) (B 22 _ rfl) (B 23 _ rfl)) rfl rfl (fun c_21 => ?_) (fun c_21 => ?_)
      · refine Vw.iload_n (de_iload_1 (B 38 _ rfl)) 1 rfl (n := 39) rfl ?_
        refine Vw.iconst (v := 1) (de_iconst_1 (B 39 _ rfl)) rfl (n := 40) rfl ?_
        refine Vw.icmp_ne (tgt := 54) (n := 43) (de_icmp_ne (B 40 _ rfl) (B 41 _ rfl) (B 42 _ rfl)) rfl rfl (fun c_40 => ?_) (fun c_40 => ?_)
        · refine Vw.aload_n (de_aload_0 (B 54 _ rfl)) 0 rfl (n := 55) rfl ?_
          refine Vw.getR (de_getfield (B 55 _ rfl) (B 56 _ rfl) (B 57 _ rfl)) fl_X11_12 rfl hC.k hC.f0 (n := 58) rfl ?_
          refine Vw.iload_n (de_iload_2 (B 58 _ rfl)) 2 rfl (n := 59) rfl ?_
          refine Vw.putI (de_putfield (B 59 _ rfl) (B 60 _ rfl) (B 61 _ rfl)) fl_X11_188 hC.p0.k rfl rfl (n := 62) rfl ?_
          have fin : ∀ I3 : vI, (∀ b, b ≠ x + 1 → b ≠ x + 2 → I3 b = I b) → (k = 0 → I3 (x + 1) = I (x + 1) ∧ I3 (x + 2) 6 = v ∧ ∀ j, j ≠ 6 → I3 (x + 2) j = I (x + 2) j) → (¬ k = 0 → I3 (x + 2) = I (x + 2) ∧ I3 (x + 1) (3 + k) = v ∧ ∀ j, j ≠ 3 + k → I3 (x + 1) j = I (x + 1) j) → Vw mX11_terms (d + 80) 0 0 0 0 (ViQ Q) 62 [(0, .ref x), (1, .int (nI k)), (2, .int v), (3, .int (K (tmAt k)))] [] S I3 L := by
            intro I3 f3 g0 g1
            refine Vw.aload_n (de_aload_0 (B 62 _ rfl)) 0 rfl (n := 63) rfl ?_
            refine Vw.getR (de_getfield (B 63 _ rfl) (B 64 _ rfl) (B 65 _ rfl)) fl_X11_60 rfl hC.k hC.f6 (n := 66) rfl ?_
            refine Vw.ivv0 (mi' := mX2_clear) (de_invokevirtual (B 66 _ rfl) (B 67 _ rfl) (B 68 _ rfl)) ml_X11_110 mv_X2_clear hC.p6.k (Nat.le_of_ble_eq_true rfl) (n := 69) rfl (c_X2_clear (np := np) hC.p6 (by rw [f3 _ (by omega) (by omega)]; exact hold) (fun I2 f2 f2k h2c => ?_))
            refine Vw.aload_n (de_aload_0 (B 69 _ rfl)) 0 rfl (n := 70) rfl ?_
            refine Vw.iload_n (de_iload_3 (B 70 _ rfl)) 3 rfl (n := 71) rfl ?_
            refine Vw.ivi1 (mi' := mX11_accept) (de_invokevirtual (B 71 _ rfl) (B 72 _ rfl) (B 73 _ rfl)) ml_X11_117 mv_X11_accept hC.k (Nat.le_of_ble_eq_true rfl) (n := 74) rfl (c_X11_accept hC ?_)
            exact Vw.iret (de_ireturn (B 74 _ rfl)) rfl ⟨_, rfl, (h k hk rfl c_5 I2 (fun b q1 q2 q3 => by rw [f2 b q3]; exact f3 b q1 q2) (fun q => by rw [f2 _ (by omega), f2 _ (by omega)]; exact g0 q) (fun q => by rw [f2 _ (by omega), f2 _ (by omega)]; exact g1 q) h2c)⟩
          
          first
          | exact fin _ (fun b _ q => up2_row q) (fun _ => ⟨up2_row (by omega), up2_s _ _ _ _, fun j hj => up2_k hj⟩) (fun q => absurd (nI_inj (a := k) (b := 0) (by omega) (by decide) c_21) q)
          | (have k1 : k = 1 := nI_inj (a := k) (b := 1) (by omega) (by decide) c_40
             subst k1
             exact fin _ (fun b q _ => up2_row q) (fun q => absurd q (by decide)) (fun _ => ⟨up2_row (by omega), up2_s _ _ _ _, fun j hj => up2_k hj⟩))
          | (have k2 : k = 2 := by
               rcases (show k = 0 ∨ k = 1 ∨ k = 2 by omega) with z | z | z
               · exact absurd (by rw [z]; rfl) c_21
               · exact absurd (by rw [z]; rfl) c_40
               · exact z
             subst k2
             exact fin _ (fun b q _ => up2_row q) (fun q => absurd q (by decide)) (fun _ => ⟨up2_row (by omega), up2_s _ _ _ _, fun j hj => up2_k hj⟩))
        refine Vw.aload_n (de_aload_0 (B 43 _ rfl)) 0 rfl (n := 44) rfl ?_
        refine Vw.getR (de_getfield (B 44 _ rfl) (B 45 _ rfl) (B 46 _ rfl)) fl_X11_12 rfl hC.k hC.f0 (n := 47) rfl ?_
        refine Vw.iload_n (de_iload_2 (B 47 _ rfl)) 2 rfl (n := 48) rfl ?_
        refine Vw.putI (de_putfield (B 48 _ rfl) (B 49 _ rfl) (B 50 _ rfl)) fl_X11_185 hC.p0.k rfl rfl (n := 51) rfl ?_
        refine Vw.goto_ (n := 62) (de_goto_ (B 51 _ rfl) (B 52 _ rfl) (B 53 _ rfl)) rfl ?_
        have fin : ∀ I3 : vI, (∀ b, b ≠ x + 1 → b ≠ x + 2 → I3 b = I b) → (k = 0 → I3 (x + 1) = I (x + 1) ∧ I3 (x + 2) 6 = v ∧ ∀ j, j ≠ 6 → I3 (x + 2) j = I (x + 2) j) → (¬ k = 0 → I3 (x + 2) = I (x + 2) ∧ I3 (x + 1) (3 + k) = v ∧ ∀ j, j ≠ 3 + k → I3 (x + 1) j = I (x + 1) j) → Vw mX11_terms (d + 80) 0 0 0 0 (ViQ Q) 62 [(0, .ref x), (1, .int (nI k)), (2, .int v), (3, .int (K (tmAt k)))] [] S I3 L := by
          intro I3 f3 g0 g1
          refine Vw.aload_n (de_aload_0 (B 62 _ rfl)) 0 rfl (n := 63) rfl ?_
          refine Vw.getR (de_getfield (B 63 _ rfl) (B 64 _ rfl) (B 65 _ rfl)) fl_X11_60 rfl hC.k hC.f6 (n := 66) rfl ?_
          refine Vw.ivv0 (mi' := mX2_clear) (de_invokevirtual (B 66 _ rfl) (B 67 _ rfl) (B 68 _ rfl)) ml_X11_110 mv_X2_clear hC.p6.k (Nat.le_of_ble_eq_true rfl) (n := 69) rfl (c_X2_clear (np := np) hC.p6 (by rw [f3 _ (by omega) (by omega)]; exact hold) (fun I2 f2 f2k h2c => ?_))
          refine Vw.aload_n (de_aload_0 (B 69 _ rfl)) 0 rfl (n := 70) rfl ?_
          refine Vw.iload_n (de_iload_3 (B 70 _ rfl)) 3 rfl (n := 71) rfl ?_
          refine Vw.ivi1 (mi' := mX11_accept) (de_invokevirtual (B 71 _ rfl) (B 72 _ rfl) (B 73 _ rfl)) ml_X11_117 mv_X11_accept hC.k (Nat.le_of_ble_eq_true rfl) (n := 74) rfl (c_X11_accept hC ?_)
          exact Vw.iret (de_ireturn (B 74 _ rfl)) rfl ⟨_, rfl, (h k hk rfl c_5 I2 (fun b q1 q2 q3 => by rw [f2 b q3]; exact f3 b q1 q2) (fun q => by rw [f2 _ (by omega), f2 _ (by omega)]; exact g0 q) (fun q => by rw [f2 _ (by omega), f2 _ (by omega)]; exact g1 q) h2c)⟩
        
        first
        | exact fin _ (fun b _ q => up2_row q) (fun _ => ⟨up2_row (by omega), up2_s _ _ _ _, fun j hj => up2_k hj⟩) (fun q => absurd (nI_inj (a := k) (b := 0) (by omega) (by decide) c_21) q)
        | (have k1 : k = 1 := nI_inj (a := k) (b := 1) (by omega) (by decide) c_40
           subst k1
           exact fin _ (fun b q _ => up2_row q) (fun q => absurd q (by decide)) (fun _ => ⟨up2_row (by omega), up2_s _ _ _ _, fun j hj => up2_k hj⟩))
        | (have k2 : k = 2 := by
             rcases (show k = 0 ∨ k = 1 ∨ k = 2 by omega) with z | z | z
             · exact absurd (by rw [z]; rfl) c_21
             · exact absurd (by rw [z]; rfl) c_40
             · exact z
           subst k2
           exact fin _ (fun b q _ => up2_row q) (fun q => absurd q (by decide)) (fun _ => ⟨up2_row (by omega), up2_s _ _ _ _, fun j hj => up2_k hj⟩))
      refine Vw.aload_n (de_aload_0 (B 24 _ rfl)) 0 rfl (n := 25) rfl ?_
      refine Vw.getR (de_getfield (B 25 _ rfl) (B 26 _ rfl) (B 27 _ rfl)) fl_X11_12 rfl hC.k hC.f0 (n := 28) rfl ?_
      refine Vw.getR (de_getfield (B 28 _ rfl) (B 29 _ rfl) (B 30 _ rfl)) fl_X11_104 rfl hC.p0.k hC.p0.f0 (n := 31) rfl ?_
      refine Vw.iload_n (de_iload_2 (B 31 _ rfl)) 2 rfl (n := 32) rfl ?_
      refine Vw.putI (de_putfield (B 32 _ rfl) (B 33 _ rfl) (B 34 _ rfl)) fl_X11_142 hC.p0.p0.k rfl rfl (n := 35) rfl ?_
      refine Vw.goto_ (n := 62) (de_goto_ (B 35 _ rfl) (B 36 _ rfl) (B 37 _ rfl)) rfl ?_
      have fin : ∀ I3 : vI, (∀ b, b ≠ x + 1 → b ≠ x + 2 → I3 b = I b) → (k = 0 → I3 (x + 1) = I (x + 1) ∧ I3 (x + 2) 6 = v ∧ ∀ j, j ≠ 6 → I3 (x + 2) j = I (x + 2) j) → (¬ k = 0 → I3 (x + 2) = I (x + 2) ∧ I3 (x + 1) (3 + k) = v ∧ ∀ j, j ≠ 3 + k → I3 (x + 1) j = I (x + 1) j) → Vw mX11_terms (d + 80) 0 0 0 0 (ViQ Q) 62 [(0, .ref x), (1, .int (nI k)), (2, .int v), (3, .int (K (tmAt k)))] [] S I3 L := by
        intro I3 f3 g0 g1
        refine Vw.aload_n (de_aload_0 (B 62 _ rfl)) 0 rfl (n := 63) rfl ?_
        refine Vw.getR (de_getfield (B 63 _ rfl) (B 64 _ rfl) (B 65 _ rfl)) fl_X11_60 rfl hC.k hC.f6 (n := 66) rfl ?_
        refine Vw.ivv0 (mi' := mX2_clear) (de_invokevirtual (B 66 _ rfl) (B 67 _ rfl) (B 68 _ rfl)) ml_X11_110 mv_X2_clear hC.p6.k (Nat.le_of_ble_eq_true rfl) (n := 69) rfl (c_X2_clear (np := np) hC.p6 (by rw [f3 _ (by omega) (by omega)]; exact hold) (fun I2 f2 f2k h2c => ?_))
        refine Vw.aload_n (de_aload_0 (B 69 _ rfl)) 0 rfl (n := 70) rfl ?_
        refine Vw.iload_n (de_iload_3 (B 70 _ rfl)) 3 rfl (n := 71) rfl ?_
        refine Vw.ivi1 (mi' := mX11_accept) (de_invokevirtual (B 71 _ rfl) (B 72 _ rfl) (B 73 _ rfl)) ml_X11_117 mv_X11_accept hC.k (Nat.le_of_ble_eq_true rfl) (n := 74) rfl (c_X11_accept hC ?_)
        exact Vw.iret (de_ireturn (B 74 _ rfl)) rfl ⟨_, rfl, (h k hk rfl c_5 I2 (fun b q1 q2 q3 => by rw [f2 b q3]; exact f3 b q1 q2) (fun q => by rw [f2 _ (by omega), f2 _ (by omega)]; exact g0 q) (fun q => by rw [f2 _ (by omega), f2 _ (by omega)]; exact g1 q) h2c)⟩
      
      first
      | exact fin _ (fun b _ q => up2_row q) (fun _ => ⟨up2_row (by omega), up2_s _ _ _ _, fun j hj => up2_k hj⟩) (fun q => absurd (nI_inj (a := k) (b := 0) (by omega) (by decide) c_21) q)
      | (have k1 : k = 1 := nI_inj (a := k) (b := 1) (by omega) (by decide) c_40
         subst k1
         exact fin _ (fun b q _ => up2_row q) (fun q => absurd q (by decide)) (fun _ => ⟨up2_row (by omega), up2_s _ _ _ _, fun j hj => up2_k hj⟩))
      | (have k2 : k = 2 := by
           rcases (show k = 0 ∨ k = 1 ∨ k = 2 by omega) with z | z | z
           · exact absurd (by rw [z]; rfl) c_21
           · exact absurd (by rw [z]; rfl) c_40
           · exact z
         subst k2
         exact fin _ (fun b q _ => up2_row q) (fun q => absurd q (by decide)) (fun _ => ⟨up2_row (by omega), up2_s _ _ _ _, fun j hj => up2_k hj⟩))
    refine Vw.aload_n (de_aload_0 (B 8 _ rfl)) 0 rfl (n := 9) rfl ?_
    refine Vw.iconst (v := -1) (de_iconst_m1 (B 9 _ rfl)) rfl (n := 10) rfl ?_
    refine Vw.ivi1 (mi' := mX11_refuse) (de_invokevirtual (B 10 _ rfl) (B 11 _ rfl) (B 12 _ rfl)) ml_X11_100 mv_X11_refuse hC.k (Nat.le_of_ble_eq_true rfl) (n := 13) rfl (c_X11_refuse (j := 1) hC rfl (by decide) ?_)
    exact Vw.iret (de_ireturn (B 13 _ rfl)) rfl ⟨_, rfl, (h1 (fun ⟨k2, q1, q2, q3⟩ => q3 (by rw [← nI_inj (by omega) (by omega) (ek.symm.trans q2)]; exact c_5)))⟩
  · refine Vw.if_ne (tgt := 14) (n := 8) (de_if_ne (B 5 _ rfl) (B 6 _ rfl) (B 7 _ rfl)) rfl rfl (fun c_5 => ?_) (fun c_5 => ?_)
    · exact absurd c_5 (by decide)
    refine Vw.aload_n (de_aload_0 (B 8 _ rfl)) 0 rfl (n := 9) rfl ?_
    refine Vw.iconst (v := -1) (de_iconst_m1 (B 9 _ rfl)) rfl (n := 10) rfl ?_
    refine Vw.ivi1 (mi' := mX11_refuse) (de_invokevirtual (B 10 _ rfl) (B 11 _ rfl) (B 12 _ rfl)) ml_X11_100 mv_X11_refuse hC.k (Nat.le_of_ble_eq_true rfl) (n := 13) rfl (c_X11_refuse (j := 1) hC rfl (by decide) ?_)
    exact Vw.iret (de_ireturn (B 13 _ rfl)) rfl ⟨_, rfl, (h1 (fun ⟨k2, q1, q2, _⟩ => nk ⟨k2, q1, q2⟩))⟩
theorem pr_terms {S : vS} {I : vI} {L : vL} {x r lb : Nat} {a v : Int32} (hR : REL S I x r lb) : PR mX11_terms mX12_terms 0 0 [.int a, .int v] x r lb S I L := by
  intro d Q h
  obtain ⟨l, np, nc, ns, nl, hCP, hL, h32, hWd, hSP⟩ := hR
  have hR : REL S I x r lb := ⟨l, np, nc, ns, nl, hCP, hL, h32, hWd, hSP⟩
  have hs := hCP.1
  have hH := hCP.2.1
  have hN := hs.tn
  obtain ⟨hC, hM, hst, er, el, hl2⟩ := id hSP
  refine k_terms hC hs hH (by omega) (fun c1 => h _ S _ L (fun _ _ => rfl) (fun d2 Q2 g => ?_)) (fun k hk ek c1 I2 f2 g0 g1 hc2 => h _ S _ L (fun _ _ => rfl) (fun d2 Q2 g => ?_))
  · refine c_X12_terms (d := d2 + 58) hM (fun _ => g _ _ (hR.ref (k := (-1)) (j := 1) (by decide)) (fun b hb => by rw [mRef_o (by omega) (by omega), cRef_o (by omega) (by omega)])) (fun k hk ek c2 => absurd ⟨k, hk, ek, c2⟩ c1)
  · have e2 : cAcc I2 x (r + 2) = I (r + 2) := by rw [cAcc_o (by omega), f2 _ (by omega) (by omega) (by omega)]
    refine c_X12_terms (d := d2 + 58) hM (fun q => ?_) (fun k2 hk2 ek2 c2 => ?_)
    · exfalso
      rcases q with q | ⟨k2, q1, q2, q3⟩
      · exact absurd q (by rw [ek, zLie_iff, nI_ti (by omega)]; show (0 : Int) ≤ _ ∧ _ ≤ (2 : Int); omega)
      · rw [nI_inj (a := k2) (b := k) (by omega) (by omega) (q2.symm.trans ek)] at q3; exact c1 q3
    obtain rfl : k2 = k := nI_inj (by omega) (by omega) (ek2.symm.trans ek)
    rw [e2]
    have eK : up2 (cAcc I2 x) (r + 2) (tmAt k2) v (r + 2) = upK (I (r + 2)) (tmAt k2) v := by rw [up2_rs, e2]
    have h8 := hN.1
    have h10 := hN.2.1
    have fin := REL.setl (I2 := I2) (Jr := up2 (cAcc I2 x) (r + 2) (tmAt k2) v) (np2 := np) (nc2 := nc) (ns2 := ns) (nl2 := nl) hCP hWd hSP (FA.of (fun b q1 q2 q3 q4 => f2 b (by omega) (by omega) q4)) (f2 _ (by omega) (by omega) (by omega)) (fun b hb => up2_row hb)
      (by
        rw [eK]
        rcases (show k2 = 0 ∨ k2 = 1 ∨ k2 = 2 by omega) with rfl | rfl | rfl
        · obtain ⟨p1, p2, p3⟩ := g0 rfl
          obtain ⟨cl, cl1, cl2⟩ := lie_c (N := 999) (by decide) c1
          refine hs.town (hs.tr.nw h8 h10 (fun b q1 q2 => f2 b (by omega) (by omega) (by omega)) (p3 4 (by decide)) (p3 5 (by decide)) p2) (hN.of (fun y q1 q2 => upK_n (by show y ≠ 121; omega))) (by show KB (upK _ 121 v) np nc; rw [cl2]; exact hs.kb.nw h8 h10 cl1) (fun y q1 q2 _ => upK_n (by show y ≠ 121; omega)) p1 (fun b q1 q2 => f2 b (by omega) (by omega) (by omega)) (fun b hb => f2 b (by omega) (by omega) (by omega))
        · obtain ⟨p1, p2, p3⟩ := g1 (by decide)
          obtain ⟨cl, cl1, cl2⟩ := lie_c (N := 10) (by decide) c1
          have row : ∀ b, b ≠ x + 1 → b ≠ x + 89 → I2 b = I b := fun b q1 q2 => by
            by_cases z : b = x + 2
            · rw [z]; exact p1
            · exact f2 b q1 z q2
          exact hs.sc (fun b q1 q2 => row b (by omega) (by omega)) (fun b hb => row b (by omega) (by omega)) (fun y q1 _ => upK_n (by show y ≠ 140; omega)) (upK_n (by decide)) (upK_n (by decide)) (p3 2 (by decide)) (Nat.le_refl _) ((p3 9 (by decide)).trans hs.sr.1) ((upK_n (by decide)).trans hs.n143) ((p3 3 (by decide)).trans (hs.fo.trans (upK_n (by decide)).symm)) (by rw [upK_n (by decide)]; exact hs.fr) (p2.trans (upK_s _ _ _).symm) ((p3 5 (by decide)).trans (hs.mo.trans (upK_n (by decide)).symm)) ⟨cl, cl1, (upK_s _ _ _).trans cl2⟩
        · obtain ⟨p1, p2, p3⟩ := g1 (by decide)
          have row : ∀ b, b ≠ x + 1 → b ≠ x + 89 → I2 b = I b := fun b q1 q2 => by
            by_cases z : b = x + 2
            · rw [z]; exact p1
            · exact f2 b q1 z q2
          exact hs.sc (fun b q1 q2 => row b (by omega) (by omega)) (fun b hb => row b (by omega) (by omega)) (fun y q1 _ => upK_n (by show y ≠ 141; omega)) (upK_n (by decide)) (upK_n (by decide)) (p3 2 (by decide)) (Nat.le_refl _) ((p3 9 (by decide)).trans hs.sr.1) ((upK_n (by decide)).trans hs.n143) ((p3 3 (by decide)).trans (hs.fo.trans (upK_n (by decide)).symm)) (by rw [upK_n (by decide)]; exact hs.fr) ((p3 4 (by decide)).trans (hs.fe.trans (upK_n (by decide)).symm)) (p2.trans (upK_s _ _ _).symm) (by rw [upK_n (by decide)]; exact hs.f10)) hc2
    exact g _ _ fin.1 fin.2
