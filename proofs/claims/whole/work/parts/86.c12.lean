theorem obeyL_c {W : tW} {K : Nat → Int32} {l : List tH} {np nc : Nat} {v a b a2 b2 : Int32} (h1 : ¬ v = 16 → a = a2) (h2 : v = 21 ∨ v = 23 → b = b2) (hv : v = 21 ∨ v = 23 ∨ v = 25 ∨ v = 26 ∨ v = 16) : obeyL W np nc K l v a b = obeyL W np nc K l v a2 b2 := by
  rcases hv with rfl | rfl | rfl | rfl | rfl
  · rw [h1 (by decide), h2 (by decide)]
  · rw [h1 (by decide), h2 (by decide)]
  · rw [h1 (by decide)]; unfold obeyL; rw [if_neg (show ¬ (25 : Int32) = 21 by decide), if_neg (show ¬ (25 : Int32) = 21 by decide)]
    rw [if_pos (show (25 : Int32) = 25 from rfl), if_pos (show (25 : Int32) = 25 from rfl)]
  · rw [h1 (by decide)]; unfold obeyL; rw [if_neg (show ¬ (26 : Int32) = 21 by decide), if_neg (show ¬ (26 : Int32) = 21 by decide), if_neg (show ¬ (26 : Int32) = 25 by decide), if_neg (show ¬ (26 : Int32) = 25 by decide)]
    rw [if_pos (show (26 : Int32) = 26 from rfl), if_pos (show (26 : Int32) = 26 from rfl)]
  · unfold obeyL; rw [if_neg (show ¬ (16 : Int32) = 21 by decide), if_neg (show ¬ (16 : Int32) = 21 by decide), if_neg (show ¬ (16 : Int32) = 25 by decide), if_neg (show ¬ (16 : Int32) = 25 by decide), if_neg (show ¬ (16 : Int32) = 26 by decide), if_neg (show ¬ (16 : Int32) = 26 by decide), if_neg (show ¬ (16 : Int32) = 23 by decide), if_neg (show ¬ (16 : Int32) = 23 by decide)]
theorem c_X10_runOrders {d : Nat} {S : vS} {I : vI} {L : vL} {Q : Int32 → vS → vI → vL → Prop} {s a g m lb np nc : Nat} {K : Nat → Int32} {l : List tH} {cs : List tC} {W : tW} (hw : WorksS S (s + 31) s (s + 28)) (hK : TR I (s + 1) K np nc) (hO : OkL np nc K) (hW : WC S I s lb W) (hlb : s + 30 ≤ lb) (hH : HistS S a) (hC : HC I a l np) (ha : s + 64 ≤ a) (hal : a + 371 ≤ lb) (hA : ScS S g 12 400) (hSc : ScR I g cs vbO 19 m 16 tD0) (hg : s + 33 ≤ g) (hga : g + 8 ≤ a) (hcs : ∀ c ∈ cs, (∃ tm, tm ≤ 20 ∧ c.2.2.2.1 = nI tm) ∧ (c.1 = 21 ∨ c.1 = 23 ∨ c.1 = 25 ∨ c.1 = 26 ∨ c.1 = 16)) (h0 : ∀ n I2 M l2, ordsL W np nc cs 0 (K, l, 0, 0) = .error n → FX s a I I2 → Lev (s + 28) L M → HC I2 a l2 np → Q (nI n) S I2 M) (h : ∀ s2 I2 M, ordsL W np nc cs 0 (K, l, 0, 0) = .ok s2 → FX s a I I2 → Lev (s + 28) L M → TR I2 (s + 1) s2.1 np nc → OkL np nc s2.1 → HC I2 a s2.2.1 np → I2 (s + 31) 3 = s2.2.2.1 → Q (-1) S I2 M) : Vc mX10_runOrders (d + 7) 0 0 [.ref (s + 31), .ref g, .ref a] S I L (ViQ Q) := by
  refine Vc.of rfl (Nat.le_of_ble_eq_true rfl) ?_
  have B := bs_X10_runOrders
  show Vw mX10_runOrders (d + 7) 0 0 0 0 (ViQ Q) 0 [(0, .ref (s + 31)), (1, .ref g), (2, .ref a)] [] S I L
  have hN := hO.1
  have h8 := hN.1
  have h10 := hN.2.1
  have hT := hw.p0.p0
  have hR := hw.p1
  obtain ⟨l0, l12, m4, cw, hcw, hcl⟩ := hSc
  have loop : ∀ n, n ≤ cs.length → ∀ st, ordsL W np nc cs 0 (K, l, 0, 0) = ordsL W np nc (cs.drop n) n st → ∀ J M, FX s a I J → Lev (s + 28) L M → TR J (s + 1) st.1 np nc → OkL np nc st.1 → HC J a st.2.1 np → J (s + 31) 3 = st.2.2.1 → J (s + 31) 4 = st.2.2.2 → Vw mX10_runOrders (d + 7) 0 0 0 0 (ViQ Q) 12 [(0, .ref (s + 31)), (1, .ref g), (2, .ref a), (3, .int (nI n))] [] S J M := by
    refine loop_up (fun n hn ih => ?_)
    intro st eO J M fJ fM kJ oJ cJ d3 d4
    have gJ : ∀ k, k < 8 → J (g + k) = I (g + k) := fun k hk => fJ _ (by omega) (by omega) (by omega) (by omega) (by omega) (by omega)
    by_cases hnl : n = cs.length
    · rw [hnl, List.drop_length, ordsL] at eO
      have g0 : J g 0 = nI cs.length := by have z := gJ 0 (by decide); rw [Nat.add_zero] at z; rw [z]; exact l0
      refine Vw.iload_n (de_iload_3 (B 12 _ rfl)) 3 rfl (n := 13) rfl ?_
      refine Vw.aload_n (de_aload_1 (B 13 _ rfl)) 1 rfl (n := 14) rfl ?_
      refine Vw.getI (de_getfield (B 14 _ rfl) (B 15 _ rfl) (B 16 _ rfl)) fl_X10_125 rfl hA.k (n := 17) rfl ?_
      rw [g0]
      refine Vw.icmp_ge (tgt := 94) (n := 20) (de_icmp_ge (B 17 _ rfl) (B 18 _ rfl) (B 19 _ rfl)) rfl rfl (fun c_17 => ?_) (fun c_17 => ?_)
      · refine Vw.iconst (v := -1) (de_iconst_m1 (B 94 _ rfl)) rfl (n := 95) rfl ?_
        exact Vw.iret (de_ireturn (B 95 _ rfl)) rfl ⟨_, rfl, (h st J M eO fJ fM kJ oJ cJ d3)⟩
      exact absurd ((nI_leI (a := cs.length) (b := n) (by omega) (by omega)).mpr (by omega)) c_17
    · have hnl2 : n < cs.length := by omega
      obtain ⟨c, ec⟩ : ∃ c, cs[n]? = some c := ⟨cs[n], List.getElem?_eq_getElem hnl2⟩
      have hcm : c ∈ cs := List.mem_of_getElem? ec
      obtain ⟨⟨tm, ht20, etm⟩, hv⟩ := hcs c hcm
      have edr : cs.drop n = c :: cs.drop (n + 1) := by
        rw [List.drop_eq_getElem_cons hnl2]
        have := List.getElem?_eq_getElem hnl2
        rw [ec] at this
        cases this
        rfl
      rw [edr, ordsL, etm, nI_cl (by omega)] at eO
      have inner : ∀ i, i ≤ tm → ∀ s2, rndsL W np nc c tm st = rndsL W np nc c (tm - i) s2 → ∀ J M, FX s a I J → Lev (s + 28) L M → TR J (s + 1) s2.1 np nc → OkL np nc s2.1 → HC J a s2.2.1 np → J (s + 31) 3 = s2.2.2.1 → J (s + 31) 4 = s2.2.2.2 → Vw mX10_runOrders (d + 7) 0 0 0 0 (ViQ Q) 23 [(0, .ref (s + 31)), (1, .ref g), (2, .ref a), (3, .int (nI n)), (4, .int (nI i))] [] S J M := by
        refine loop_up (fun i hi ih2 => ?_)
        intro s2 eR J M fJ fM kJ oJ cJ d3 d4
        have gJ : ∀ k, k < 8 → J (g + k) = I (g + k) := fun k hk => fJ _ (by omega) (by omega) (by omega) (by omega) (by omega) (by omega)
        have next82 : ∀ s3, rndsL W np nc c tm st = rndsL W np nc c (tm - (i + 1)) s3 → ∀ J M, FX s a I J → Lev (s + 28) L M → TR J (s + 1) s3.1 np nc → OkL np nc s3.1 → HC J a s3.2.1 np → J (s + 31) 3 = s3.2.2.1 → J (s + 31) 4 = s3.2.2.2 → i < tm → Vw mX10_runOrders (d + 7) 0 0 0 0 (ViQ Q) 82 [(0, .ref (s + 31)), (1, .ref g), (2, .ref a), (3, .int (nI n)), (4, .int (nI i))] [] S J M := by
          intro s3 eR J M fJ fM kJ oJ cJ d3 d4 hit
          refine Vw.iinc (v := nI (i + 1)) (lv2 := [(0, _), (1, _), (2, _), (3, _), (4, _)]) (de_iinc (B 82 _ rfl) (B 83 _ rfl) (B 84 _ rfl)) 4 rfl (nI_1 i) (by decide) [1, 2, 3, 4, 0] rfl (n := 85) rfl ?_
          refine Vw.goto_ (n := 23) (de_goto_ (B 85 _ rfl) (B 86 _ rfl) (B 87 _ rfl)) rfl ?_
          exact ih2 hit s3 eR J M fJ fM kJ oJ cJ d3 d4
        obtain ⟨v1, hclc⟩ := hcl n c ec
        have ctm : J (g + 2) n = nI tm := by
          rw [gJ 2 (by decide), ← etm]
          obtain ⟨_, _, _, _, _, _, _, _, _, _, _, _, z, _⟩ := hclc
          exact z
        refine Vw.iload (de_iload (B 23 _ rfl) (B 24 _ rfl)) 4 rfl (n := 25) rfl ?_
        refine Vw.aload_n (de_aload_1 (B 25 _ rfl)) 1 rfl (n := 26) rfl ?_
        refine Vw.getR (de_getfield (B 26 _ rfl) (B 27 _ rfl) (B 28 _ rfl)) fl_X10_130 rfl hA.k hA.f2 (n := 29) rfl ?_
        refine Vw.iload_n (de_iload_3 (B 29 _ rfl)) 3 rfl (n := 30) rfl ?_
        refine Vw.iald (de_iaload (B 30 _ rfl)) hA.r2 (vIx_n (k := n) rfl (by omega)) (n := 31) rfl ?_
        rw [ctm]
        refine Vw.icmp_ge (tgt := 88) (n := 34) (de_icmp_ge (B 31 _ rfl) (B 32 _ rfl) (B 33 _ rfl)) rfl rfl (fun c_31 => ?_) (fun c_31 => ?_)
        · refine Vw.iinc (v := nI (n + 1)) (lv2 := [(0, _), (1, _), (2, _), (3, _), (4, _)]) (de_iinc (B 88 _ rfl) (B 89 _ rfl) (B 90 _ rfl)) 3 rfl (nI_1 n) (by decide) [1, 2, 3, 0, 4] rfl (n := 91) rfl ?_
          refine Vw.goto_ (n := 12) (de_goto_ (B 91 _ rfl) (B 92 _ rfl) (B 93 _ rfl)) rfl ?_
          refine Vw.lvs (lv2 := [(0, _), (1, _), (2, _), (3, _)]) [0, 1, 2, 3] rfl ?_
          have z_31 : tm ≤ i := ((nI_leI (a := tm) (b := i) (by omega) (by omega)).mp c_31)
          rw [show tm - i = 0 by omega, rndsL] at eR
          rw [eR] at eO
          exact ih hnl2 s2 eO J M fJ fM kJ oJ cJ d3 d4
        have z_31 : i < tm := by rcases Nat.lt_or_ge i tm with z | z; exact z; exact absurd ((nI_leI (a := tm) (b := i) (by omega) (by omega)).mpr z) c_31
        rw [show tm - i = (tm - (i + 1)) + 1 by omega, rndsL] at eR
        refine Vw.aload_n (de_aload_0 (B 34 _ rfl)) 0 rfl (n := 35) rfl ?_
        refine Vw.ivv0 (mi' := mX10_fillWords) (de_invokevirtual (B 35 _ rfl) (B 36 _ rfl) (B 37 _ rfl)) ml_X10_133 mv_X10_fillWords hw.k (Nat.le_of_ble_eq_true rfl) (n := 38) rfl (c_X10_fillWords hw kJ oJ.1 (fun I3 f3 e3 => ?_))
        have fJ3 : FX s a I I3 := fJ.trans (fun b _ _ _ _ g5 _ => f3 b g5)
        have g3 : ∀ k, k < 8 → I3 (g + k) = I (g + k) := fun k hk => fJ3 _ (by omega) (by omega) (by omega) (by omega) (by omega) (by omega)
        have k3 : TR I3 (s + 1) s2.1 np nc := kJ.of (fun b z1 z2 => f3 b (by omega)) h8 h10
        have c3 : HC I3 a s2.2.1 np := cJ.of h8 (fun b z1 z2 => f3 b (by omega))
        have w3 : WC S I3 s lb W := hW.of (fJ3 s (by omega) (by omega) (by omega) (by omega) (by omega) (by omega)) (fun b hb => fJ3 b (by omega) (by omega) (by omega) (by omega) (by omega) (by omega))
        have cl3 : ClR I3 g n c cw 19 m 16 tD0 := hclc.of g3
        have cw3 : CWk (I3 (g + 7)) cw m := by rw [g3 7 (by decide)]; exact hcw
        rw [d3, d4] at e3
        have d33 : I3 (s + 31) 3 = s2.2.2.1 := by rw [f3 _ (by omega)]; exact d3
        have d34 : I3 (s + 31) 4 = s2.2.2.2 := by rw [f3 _ (by omega)]; exact d4
        refine Vw.aload_n (de_aload_0 (B 38 _ rfl)) 0 rfl (n := 39) rfl ?_
        refine Vw.aload_n (de_aload_1 (B 39 _ rfl)) 1 rfl (n := 40) rfl ?_
        refine Vw.iload_n (de_iload_3 (B 40 _ rfl)) 3 rfl (n := 41) rfl ?_
        refine Vw.ivi2 (mi' := mX10_isSo) (de_invokevirtual (B 41 _ rfl) (B 42 _ rfl) (B 43 _ rfl)) ml_X10_136 mv_X10_isSo hw.k (Nat.le_of_ble_eq_true rfl) (n := 44) rfl (c_X10_isSo (nv := (nvO s2.1 np s2.2.2.1 s2.2.2.2)) hw hA cl3 m4 (by omega) cw3 e3 (fun M3 m3 => ?_))
        · refine Vw.if_eq (tgt := 82) (n := 47) (de_if_eq (B 44 _ rfl) (B 45 _ rfl) (B 46 _ rfl)) rfl rfl (fun c_44 => ?_) (fun c_44 => ?_)
          · have hcF : clHolds c (nvO s2.1 np s2.2.2.1 s2.2.2.2) = false := by
              cases hb : clHolds c (nvO s2.1 np s2.2.2.1 s2.2.2.2) with
              | false => rfl
              | true => rw [hb] at c_44; exact absurd c_44 (by decide)
            rw [rndL_h hcF] at eR
            exact next82 _ eR I3 M3 fJ3 (fM.trans m3) k3 oJ c3 d33 d34 z_31
          have hcH : clHolds c (nvO s2.1 np s2.2.2.1 s2.2.2.2) = true := by
            cases hb : clHolds c (nvO s2.1 np s2.2.2.1 s2.2.2.2) with
            | true => rfl
            | false => rw [hb] at c_44; exact absurd rfl c_44
          refine Vw.aload_n (de_aload_0 (B 47 _ rfl)) 0 rfl (n := 48) rfl ?_
          refine Vw.aload_n (de_aload_1 (B 48 _ rfl)) 1 rfl (n := 49) rfl ?_
          refine Vw.iload_n (de_iload_3 (B 49 _ rfl)) 3 rfl (n := 50) rfl ?_
          refine Vw.ivi2 (mi' := mX10_findSums) (de_invokevirtual (B 50 _ rfl) (B 51 _ rfl) (B 52 _ rfl)) ml_X10_140 mv_X10_findSums hw.k (Nat.le_of_ble_eq_true rfl) (n := 53) rfl (c_X10_findSums (nv := (nvO s2.1 np s2.2.2.1 s2.2.2.2)) hw hA cl3 m4 (by omega) cw3 e3 hg (fun I4 M4 f4 z4 m4b bad => ?_) (fun I4 M4 f4 z4 m4b va vb eva evb sm => ?_))
          · refine Vw.if_eq (tgt := 70) (n := 56) (de_if_eq (B 53 _ rfl) (B 54 _ rfl) (B 55 _ rfl)) rfl rfl (fun c_53 => ?_) (fun c_53 => ?_)
            · refine Vw.iload_n (de_iload_3 (B 70 _ rfl)) 3 rfl (n := 71) rfl ?_
              exact Vw.iret (de_ireturn (B 71 _ rfl)) rfl ⟨_, rfl, (by rw [rndL_b hcH bad] at eR; rw [eR] at eO; exact h0 n I4 M4 s2.2.1 eO (fJ3.trans (fun b _ _ _ g4 _ _ => f4 b g4)) ((fM.trans m3).trans m4b) (c3.of h8 (fun b z1 z2 => f4 b (by omega))))⟩
            exact absurd c_53 (by decide)
          · refine Vw.if_eq (tgt := 70) (n := 56) (de_if_eq (B 53 _ rfl) (B 54 _ rfl) (B 55 _ rfl)) rfl rfl (fun c_53 => ?_) (fun c_53 => ?_)
            · exact absurd c_53 (by decide)
            have fJ4 : FX s a I I4 := fJ3.trans (fun b _ _ _ g4 _ _ => f4 b g4)
            have g4 : ∀ k, k < 8 → I4 (g + k) = I (g + k) := fun k hk => fJ4 _ (by omega) (by omega) (by omega) (by omega) (by omega) (by omega)
            have k4 : TR I4 (s + 1) s2.1 np nc := k3.of (fun b z1 z2 => f4 b (by omega)) h8 h10
            have c4 : HC I4 a s2.2.1 np := c3.of h8 (fun b z1 z2 => f4 b (by omega))
            have w4 : WC S I4 s lb W := w3.of (f4 s (by omega)) (fun b hb => f4 b (by omega))
            have hob : obeyL W np nc s2.1 s2.2.1 c.1 (I4 (s + 31) 5) (I4 (s + 31) 6) = obeyL W np nc s2.1 s2.2.1 c.1 va.toInt32 vb.toInt32 := obeyL_c sm.1 sm.2 hv
            have er := rndL_x (W := W) (np := np) (nc := nc) hcH eva evb rfl
            refine Vw.aload_n (de_aload_0 (B 56 _ rfl)) 0 rfl (n := 57) rfl ?_
            refine Vw.aload_n (de_aload_1 (B 57 _ rfl)) 1 rfl (n := 58) rfl ?_
            refine Vw.getR (de_getfield (B 58 _ rfl) (B 59 _ rfl) (B 60 _ rfl)) fl_X10_143 rfl hA.k hA.f1 (n := 61) rfl ?_
            refine Vw.iload_n (de_iload_3 (B 61 _ rfl)) 3 rfl (n := 62) rfl ?_
            refine Vw.iald (de_iaload (B 62 _ rfl)) hA.r1 (vIx_n (k := n) rfl (by omega)) (n := 63) rfl ?_
            rw [g4 1 (by decide), v1]
            refine Vw.aload_n (de_aload_2 (B 63 _ rfl)) 2 rfl (n := 64) rfl ?_
            refine Vw.ivi2 (mi' := mX10_run) (de_invokevirtual (B 64 _ rfl) (B 65 _ rfl) (B 66 _ rfl)) ml_X10_146 mv_X10_run hw.k (Nat.le_of_ble_eq_true rfl) (n := 67) rfl (c_X10_run hw k4 oJ w4 hlb hH c4 ha hal hv (fun ob I5 M5 eo f5 z5 p5 m5 k5 c5 => ?_))
            rw [hob] at eo
            subst eo
            refine Vw.if_ge (tgt := 72) (n := 70) (de_if_ge (B 67 _ rfl) (B 68 _ rfl) (B 69 _ rfl)) rfl rfl (fun c_67 => ?_) (fun c_67 => ?_)
            · rw [if_neg (Int32.not_lt.mpr c_67)] at er
              rw [er] at eR
              refine Vw.aload_n (de_aload_0 (B 72 _ rfl)) 0 rfl (n := 73) rfl ?_
              refine Vw.dup (de_dup (B 73 _ rfl)) rfl (n := 74) rfl ?_
              refine Vw.getI (de_getfield (B 74 _ rfl) (B 75 _ rfl) (B 76 _ rfl)) fl_X10_119 rfl hw.k (n := 77) rfl ?_
              rw [z5 3 (by decide), z4 3 (by decide) (by decide), d33]
              refine Vw.iconst (v := 1) (de_iconst_1 (B 77 _ rfl)) rfl (n := 78) rfl ?_
              refine Vw.iadd (de_iadd (B 78 _ rfl)) (n := 79) rfl ?_
              refine Vw.putI (de_putfield (B 79 _ rfl) (B 80 _ rfl) (B 81 _ rfl)) fl_X10_119 hw.k rfl rfl (n := 82) rfl ?_
              refine next82 _ eR _ M5 ((fJ4.trans f5).trans (fun b _ _ _ g4 _ _ => up2_row g4)) (((fM.trans m3).trans m4b).trans m5) (k5.of (fun b z1 z2 => up2_row (by omega)) h8 h10) (obeyL_ok oJ) (c5.of h8 (fun b z1 z2 => up2_row (by omega))) (up2_s _ _ _ _) ?_ z_31
              rw [up2_k (by decide), p5, z4 4 (by decide) (by decide), d34]
            refine Vw.iload_n (de_iload_3 (B 70 _ rfl)) 3 rfl (n := 71) rfl ?_
            exact Vw.iret (de_ireturn (B 71 _ rfl)) rfl ⟨_, rfl, (by rw [er, if_pos (Int32.not_le.mp c_67)] at eR; rw [eR] at eO; exact h0 n I5 M5 _ eO (fJ4.trans f5) (((fM.trans m3).trans m4b).trans m5) c5)⟩
      have g0 : J g 0 = nI cs.length := by have z := gJ 0 (by decide); rw [Nat.add_zero] at z; rw [z]; exact l0
      refine Vw.iload_n (de_iload_3 (B 12 _ rfl)) 3 rfl (n := 13) rfl ?_
      refine Vw.aload_n (de_aload_1 (B 13 _ rfl)) 1 rfl (n := 14) rfl ?_
      refine Vw.getI (de_getfield (B 14 _ rfl) (B 15 _ rfl) (B 16 _ rfl)) fl_X10_125 rfl hA.k (n := 17) rfl ?_
      rw [g0]
      refine Vw.icmp_ge (tgt := 94) (n := 20) (de_icmp_ge (B 17 _ rfl) (B 18 _ rfl) (B 19 _ rfl)) rfl rfl (fun c_17 => ?_) (fun c_17 => ?_)
      · exact absurd ((nI_leI (a := cs.length) (b := n) (by omega) (by omega)).mp c_17) (by omega)
      refine Vw.iconst (v := 0) (de_iconst_0 (B 20 _ rfl)) rfl (n := 21) rfl ?_
      refine Vw.istore (lv2 := [(0, _), (1, _), (2, _), (3, _), (4, _)]) (de_istore (B 21 _ rfl) (B 22 _ rfl)) (by decide) [1, 2, 3, 4, 0] rfl (n := 23) rfl ?_
      exact inner 0 (Nat.zero_le _) st rfl J M fJ fM kJ oJ cJ d3 d4
  refine Vw.aload_n (de_aload_0 (B 0 _ rfl)) 0 rfl (n := 1) rfl ?_
  refine Vw.iconst (v := 0) (de_iconst_0 (B 1 _ rfl)) rfl (n := 2) rfl ?_
  refine Vw.putI (de_putfield (B 2 _ rfl) (B 3 _ rfl) (B 4 _ rfl)) fl_X10_119 hw.k rfl rfl (n := 5) rfl ?_
  refine Vw.aload_n (de_aload_0 (B 5 _ rfl)) 0 rfl (n := 6) rfl ?_
  refine Vw.iconst (v := 0) (de_iconst_0 (B 6 _ rfl)) rfl (n := 7) rfl ?_
  refine Vw.putI (de_putfield (B 7 _ rfl) (B 8 _ rfl) (B 9 _ rfl)) fl_X10_122 hw.k rfl rfl (n := 10) rfl ?_
  refine Vw.iconst (v := 0) (de_iconst_0 (B 10 _ rfl)) rfl (n := 11) rfl ?_
  refine Vw.istore_n (lv2 := [(0, _), (1, _), (2, _), (3, _)]) (de_istore_3 (B 11 _ rfl)) rfl (by decide) [1, 2, 3, 0] rfl (n := 12) rfl ?_
  exact loop 0 (Nat.zero_le _) (K, l, 0, 0) rfl (up2 (up2 I (s + 31) 3 0) (s + 31) 4 0) L (fun b _ _ _ g4 _ _ => by rw [up2_row g4, up2_row g4]) Lev.rfl (hK.of (fun b z1 z2 => by rw [up2_row (by omega), up2_row (by omega)]) h8 h10) hO (hC.of h8 (fun b z1 z2 => by rw [up2_row (by omega), up2_row (by omega)])) (by rw [up2_k (by decide), up2_s]) (up2_s _ _ _ _)
