theorem inc_m1 (x : Int32) : x + Int32.ofInt (Reader.signed 8 255) = x - 1 := (congrArg (fun z => x + z) (by decide : Int32.ofInt (Reader.signed 8 255) = (-1 : Int32))).trans (Int32.sub_eq_add_neg _ _).symm
/-- what lies in the rows of dress(): one's way up to j ends -/
def DW (I J : vI) (r q : Nat) (W : tW) (j : Nat) : Prop := Fdr r I J ∧ J r 29 = (perP (I (r + 2)) q).2.2.2 ∧ ∀ i, i < j → J (r + 21) i = (walkP W (nI q) (I (r + 2) 121) (perP (I (r + 2)) q) i).2.1 ∧ J (r + 22) i = (walkP W (nI q) (I (r + 2) 121) (perP (I (r + 2)) q) i).2.2.1 ∧ J (r + 23) i = (walkP W (nI q) (I (r + 2) 121) (perP (I (r + 2)) q) i).1
theorem DW.fr {I J J2 : vI} {r q j : Nat} {W : tW} (h : DW I J r q W j) (f : Fr r J J2) (e : J2 r 29 = J r 29) : DW I J2 r q W j :=
  ⟨h.1.trans f.fdr, e.trans h.2.1, fun i hi => ⟨(f _ _ (by omega) (by omega)).trans (h.2.2 i hi).1, (f _ _ (by omega) (by omega)).trans (h.2.2 i hi).2.1, (f _ _ (by omega) (by omega)).trans (h.2.2 i hi).2.2⟩⟩
theorem DW.l {I J : vI} {r q j k : Nat} {v : Int32} {W : tW} (h : DW I J r q W j) : DW I (up2 J (r + 24) k v) r q W j :=
  ⟨h.1.trans (fun a j h1 h2 h3 => up2_a (by omega)), by rw [up2_a (by omega)]; exact h.2.1, fun i hi => ⟨by rw [up2_a (by omega)]; exact (h.2.2 i hi).1, by rw [up2_a (by omega)]; exact (h.2.2 i hi).2.1, by rw [up2_a (by omega)]; exact (h.2.2 i hi).2.2⟩⟩
theorem DW.cl {I J : vI} {r q n a t : Nat} {W : tW} (h : DW I J r q W (n + 1)) (h1 : a < t) (h2 : t ≤ n + 1) : clothP W (nI q) (-1) (dMax (J (r + 21)) a (t - a)) (dMax (J (r + 22)) a (t - a)) (J (r + 2) 121 + nI a) (J (r + 23) a, J r 27, J r 28, J r 29) = (dCl W (I (r + 2)) q) a t := by
  unfold dCl
  rw [h.1.k, dMax_c (f := J (r + 21)) (g := fun k => (walkP W (nI q) (I (r + 2) 121) (perP (I (r + 2)) q) k).2.1) (fun i hi => (h.2.2 (a + i) (by omega)).1), dMax_c (f := J (r + 22)) (g := fun k => (walkP W (nI q) (I (r + 2) 121) (perP (I (r + 2)) q) k).2.2.1) (fun i hi => (h.2.2 (a + i) (by omega)).2.1)]
  exact clothP_c (h.2.2 a (by omega)).2.2 (h.2.1.trans walkP_fed.symm)
theorem c_X12_dress {d : Nat} {S : vS} {I : vI} {L : vL} {Q : Int32 → vS → vI → vL → Prop} {r : Nat} {p y x : Int32} {np nc : Nat} {W : tW} (hM : MS S r) (hW : WD (I (r + 2)) W) (hT : TN (I (r + 2)) np nc) (hB : ∀ q, q < np → PBt (perP (I (r + 2)) q)) (h : (∀ I2, Fdr r I I2 → Q (dressP W (I (r + 2)) np p y x) S I2 L)) : Vc mX12_dress (d + 45) 0 0 [.ref r, .int p, .int y, .int x] S I L (ViQ Q) := by
  refine Vc.of rfl (Nat.le_of_ble_eq_true rfl) ?_
  have B := bs_X12_dress
  show Vw mX12_dress (d + 45) 0 0 0 0 (ViQ Q) 0 [(0, .ref r), (1, .int p), (2, .int y), (3, .int x)] [] S I L
  have hnp := hT.1
  have hnc := hT.2.1
  have e142 := hT.2.2.1
  have e112 := hT.2.2.2.1
  have go : ∀ q n, q < np → n ≤ 24 → (x = -1 → ∀ J, Fdr r I J → Q (leastT (dCl W (I (r + 2)) q) n (n + 1) 0) S J L) → (∀ i, i ≤ n → x = nI i → ∀ J, Fdr r I J → Q (reachC (dCl W (I (r + 2)) q) n i 25 0) S J L) → (¬ x = -1 → ∃ i, i ≤ n ∧ x = nI i) → ∀ f k i, x = nI i → i ≤ n → i ≤ k + f → k ≤ n + 1 → f ≤ 25 → reachC (dCl W (I (r + 2)) q) n i 25 0 = reachC (dCl W (I (r + 2)) q) n i f k → ∀ J, DW I J r q W (n + 1) → (∀ j, j ≤ n + 1 → J (r + 24) j = leastT (dCl W (I (r + 2)) q) n (n + 1) j) → Vw mX12_dress (d + 45) 0 0 0 0 (ViQ Q) 198 [(0, .ref r), (1, .int (nI q)), (2, .int (nI n)), (3, .int x), (4, .int (nI k))] [] S J L := by
    intro q n hq hn fin1 fin2 hx f
    induction f with
    | zero =>
      intro k i ex hi hik hk hf er J dJ lJ
      have fin := fin2 i hi ex J dJ.1
      rw [er, reachC_ge (by omega)] at fin
      subst ex
      refine Vw.iload (de_iload (B 198 _ rfl) (B 199 _ rfl)) 4 rfl (n := 200) rfl ?_
      refine Vw.iload_n (de_iload_3 (B 200 _ rfl)) 3 rfl (n := 201) rfl ?_
      refine Vw.icmp_ge (tgt := 250) (n := 204) (de_icmp_ge (B 201 _ rfl) (B 202 _ rfl) (B 203 _ rfl)) rfl rfl (fun c_201 => ?_) (fun c_201 => ?_)
      · refine Vw.iload (de_iload (B 250 _ rfl) (B 251 _ rfl)) 4 rfl (n := 252) rfl ?_
        refine Vw.iload_n (de_iload_3 (B 252 _ rfl)) 3 rfl (n := 253) rfl ?_
        refine Vw.icmp_ne (tgt := 260) (n := 256) (de_icmp_ne (B 253 _ rfl) (B 254 _ rfl) (B 255 _ rfl)) rfl rfl (fun c_253 => ?_) (fun c_253 => ?_)
        · refine Vw.iconst (v := 0) (de_iconst_0 (B 260 _ rfl)) rfl (n := 261) rfl ?_
          exact Vw.iret (de_ireturn (B 261 _ rfl)) rfl ⟨_, rfl, (by first | (rw [if_pos (nI_inj (by omega) (by omega) c_253)] at fin; exact fin) | (rw [if_neg (fun z => c_253 (by rw [z]))] at fin; exact fin))⟩
        refine Vw.iconst (v := 1) (de_iconst_1 (B 256 _ rfl)) rfl (n := 257) rfl ?_
        refine Vw.goto_ (n := 261) (de_goto_ (B 257 _ rfl) (B 258 _ rfl) (B 259 _ rfl)) rfl ?_
        exact Vw.iret (de_ireturn (B 261 _ rfl)) rfl ⟨_, rfl, (by first | (rw [if_pos (nI_inj (by omega) (by omega) c_253)] at fin; exact fin) | (rw [if_neg (fun z => c_253 (by rw [z]))] at fin; exact fin))⟩
      exact absurd ((nI_leI (a := i) (b := k) (by omega) (by omega)).mpr (by omega)) c_201
    | succ f ih =>
      intro k i ex hi hik hk hf er J dJ lJ
      have fin := fin2 i hi ex
      have ex0 := ex
      subst ex
      have srch : k < i → ∀ g t, t + g = n + 1 → k + 1 ≤ t → nxtC (dCl W (I (r + 2)) q) n k = nxtF ((dCl W (I (r + 2)) q) k) (leastT (dCl W (I (r + 2)) q) n (n + 1)) (leastT (dCl W (I (r + 2)) q) n (n + 1) k) g t → (∃ t2, t ≤ t2 ∧ t2 ≤ n + 1 ∧ (dCl W (I (r + 2)) q) k t2 + leastT (dCl W (I (r + 2)) q) n (n + 1) t2 = leastT (dCl W (I (r + 2)) q) n (n + 1) k) → ∀ J, DW I J r q W (n + 1) → (∀ j, j ≤ n + 1 → J (r + 24) j = leastT (dCl W (I (r + 2)) q) n (n + 1) j) → Vw mX12_dress (d + 45) 0 0 0 0 (ViQ Q) 210 [(0, .ref r), (1, .int (nI q)), (2, .int (nI n)), (3, .int (nI i)), (4, .int (nI k)), (5, .int (nI t))] [] S J L := by
        intro hki g
        induction g with
        | zero =>
          intro t ht hkt et hex J dJ lJ
          obtain ⟨t2, ht1, ht2, ht3⟩ := hex
          obtain rfl : t2 = t := by omega
          rw [nxtF] at et
          refine Vw.aload_n (de_aload_0 (B 210 _ rfl)) 0 rfl (n := 211) rfl ?_
          refine Vw.iload_n (de_iload_1 (B 211 _ rfl)) 1 rfl (n := 212) rfl ?_
          refine Vw.iload (de_iload (B 212 _ rfl) (B 213 _ rfl)) 4 rfl (n := 214) rfl ?_
          refine Vw.iload (de_iload (B 214 _ rfl) (B 215 _ rfl)) 5 rfl (n := 216) rfl ?_
          refine Vw.ivi3 (mi' := mX12_clothFor) (de_invokevirtual (B 216 _ rfl) (B 217 _ rfl) (B 218 _ rfl)) ml_X12_419 mv_X12_clothFor hM.k (Nat.le_of_ble_eq_true rfl) (n := 219) rfl (c_X12_clothFor (W := W) (q := q) (a := k) (t := t2) hM (by rw [dJ.1.k]; exact hW) (by omega) (by omega) (fun I3 f3 e3 => ?_))
          rw [dJ.cl (n := n) (by omega) (by omega)]
          have d3 := dJ.fr f3 e3
          have l3 : ∀ j, j ≤ n + 1 → I3 (r + 24) j = leastT (dCl W (I (r + 2)) q) n (n + 1) j := fun j hj => (f3 _ _ (by omega) (by omega)).trans (lJ j hj)
          refine Vw.aload_n (de_aload_0 (B 219 _ rfl)) 0 rfl (n := 220) rfl ?_
          refine Vw.getR (de_getfield (B 220 _ rfl) (B 221 _ rfl) (B 222 _ rfl)) fl_X12_96 rfl hM.k (MS_least hM).1 (n := 223) rfl ?_
          refine Vw.iload (de_iload (B 223 _ rfl) (B 224 _ rfl)) 5 rfl (n := 225) rfl ?_
          refine Vw.iald (de_iaload (B 225 _ rfl)) (MS_least hM).2 (vIx_n (k := t2) (by simp only [nI_A, nI_M, Int32.zero_add, Int32.add_zero] <;> rfl) (by omega)) (n := 226) rfl ?_
          rw [l3 t2 (by omega)]
          refine Vw.iadd (de_iadd (B 226 _ rfl)) (n := 227) rfl ?_
          refine Vw.aload_n (de_aload_0 (B 227 _ rfl)) 0 rfl (n := 228) rfl ?_
          refine Vw.getR (de_getfield (B 228 _ rfl) (B 229 _ rfl) (B 230 _ rfl)) fl_X12_96 rfl hM.k (MS_least hM).1 (n := 231) rfl ?_
          refine Vw.iload (de_iload (B 231 _ rfl) (B 232 _ rfl)) 4 rfl (n := 233) rfl ?_
          refine Vw.iald (de_iaload (B 233 _ rfl)) (MS_least hM).2 (vIx_n (k := k) (by simp only [nI_A, nI_M, Int32.zero_add, Int32.add_zero] <;> rfl) (by omega)) (n := 234) rfl ?_
          rw [l3 k (by omega)]
          refine Vw.icmp_eq (tgt := 243) (n := 237) (de_icmp_eq (B 234 _ rfl) (B 235 _ rfl) (B 236 _ rfl)) rfl rfl (fun c_234 => ?_) (fun c_234 => ?_)
          · refine Vw.iload (de_iload (B 243 _ rfl) (B 244 _ rfl)) 5 rfl (n := 245) rfl ?_
            refine Vw.istore (lv2 := [(0, _), (1, _), (2, _), (3, _), (4, _), (5, _)]) (de_istore (B 245 _ rfl) (B 246 _ rfl)) (by decide) [1, 2, 3, 4, 0, 5] rfl (n := 247) rfl ?_
            refine Vw.goto_ (n := 198) (de_goto_ (B 247 _ rfl) (B 248 _ rfl) (B 249 _ rfl)) rfl ?_
            refine Vw.lvs (lv2 := [(0, _), (1, _), (2, _), (3, _), (4, _)]) [0, 1, 2, 3, 4] rfl ?_
            exact ih t2 i ex0 hi (by omega) (by omega) (by omega) (by rw [er, reachC, if_pos hki, et]) I3 d3 l3
          exact absurd ht3 c_234
        | succ g ih2 =>
          intro t ht hkt et hex J dJ lJ
          rw [nxtF] at et
          refine Vw.aload_n (de_aload_0 (B 210 _ rfl)) 0 rfl (n := 211) rfl ?_
          refine Vw.iload_n (de_iload_1 (B 211 _ rfl)) 1 rfl (n := 212) rfl ?_
          refine Vw.iload (de_iload (B 212 _ rfl) (B 213 _ rfl)) 4 rfl (n := 214) rfl ?_
          refine Vw.iload (de_iload (B 214 _ rfl) (B 215 _ rfl)) 5 rfl (n := 216) rfl ?_
          refine Vw.ivi3 (mi' := mX12_clothFor) (de_invokevirtual (B 216 _ rfl) (B 217 _ rfl) (B 218 _ rfl)) ml_X12_419 mv_X12_clothFor hM.k (Nat.le_of_ble_eq_true rfl) (n := 219) rfl (c_X12_clothFor (W := W) (q := q) (a := k) (t := t) hM (by rw [dJ.1.k]; exact hW) (by omega) (by omega) (fun I3 f3 e3 => ?_))
          rw [dJ.cl (n := n) (by omega) (by omega)]
          have d3 := dJ.fr f3 e3
          have l3 : ∀ j, j ≤ n + 1 → I3 (r + 24) j = leastT (dCl W (I (r + 2)) q) n (n + 1) j := fun j hj => (f3 _ _ (by omega) (by omega)).trans (lJ j hj)
          refine Vw.aload_n (de_aload_0 (B 219 _ rfl)) 0 rfl (n := 220) rfl ?_
          refine Vw.getR (de_getfield (B 220 _ rfl) (B 221 _ rfl) (B 222 _ rfl)) fl_X12_96 rfl hM.k (MS_least hM).1 (n := 223) rfl ?_
          refine Vw.iload (de_iload (B 223 _ rfl) (B 224 _ rfl)) 5 rfl (n := 225) rfl ?_
          refine Vw.iald (de_iaload (B 225 _ rfl)) (MS_least hM).2 (vIx_n (k := t) (by simp only [nI_A, nI_M, Int32.zero_add, Int32.add_zero] <;> rfl) (by omega)) (n := 226) rfl ?_
          rw [l3 t (by omega)]
          refine Vw.iadd (de_iadd (B 226 _ rfl)) (n := 227) rfl ?_
          refine Vw.aload_n (de_aload_0 (B 227 _ rfl)) 0 rfl (n := 228) rfl ?_
          refine Vw.getR (de_getfield (B 228 _ rfl) (B 229 _ rfl) (B 230 _ rfl)) fl_X12_96 rfl hM.k (MS_least hM).1 (n := 231) rfl ?_
          refine Vw.iload (de_iload (B 231 _ rfl) (B 232 _ rfl)) 4 rfl (n := 233) rfl ?_
          refine Vw.iald (de_iaload (B 233 _ rfl)) (MS_least hM).2 (vIx_n (k := k) (by simp only [nI_A, nI_M, Int32.zero_add, Int32.add_zero] <;> rfl) (by omega)) (n := 234) rfl ?_
          rw [l3 k (by omega)]
          refine Vw.icmp_eq (tgt := 243) (n := 237) (de_icmp_eq (B 234 _ rfl) (B 235 _ rfl) (B 236 _ rfl)) rfl rfl (fun c_234 => ?_) (fun c_234 => ?_)
          · refine Vw.iload (de_iload (B 243 _ rfl) (B 244 _ rfl)) 5 rfl (n := 245) rfl ?_
            refine Vw.istore (lv2 := [(0, _), (1, _), (2, _), (3, _), (4, _), (5, _)]) (de_istore (B 245 _ rfl) (B 246 _ rfl)) (by decide) [1, 2, 3, 4, 0, 5] rfl (n := 247) rfl ?_
            refine Vw.goto_ (n := 198) (de_goto_ (B 247 _ rfl) (B 248 _ rfl) (B 249 _ rfl)) rfl ?_
            refine Vw.lvs (lv2 := [(0, _), (1, _), (2, _), (3, _), (4, _)]) [0, 1, 2, 3, 4] rfl ?_
            exact ih t i ex0 hi (by omega) (by omega) (by omega) (by rw [er, reachC, if_pos hki, et, if_pos c_234]) I3 d3 l3
          refine Vw.iinc (v := nI (t + 1)) (lv2 := [(0, _), (1, _), (2, _), (3, _), (4, _), (5, _)]) (de_iinc (B 237 _ rfl) (B 238 _ rfl) (B 239 _ rfl)) 5 rfl (nI_1 t) (by decide) [1, 2, 3, 4, 5, 0] rfl (n := 240) rfl ?_
          refine Vw.goto_ (n := 210) (de_goto_ (B 240 _ rfl) (B 241 _ rfl) (B 242 _ rfl)) rfl ?_
          exact ih2 (t + 1) (by omega) (by omega) (by rw [et, if_neg c_234]) (by
            obtain ⟨t2, h1, h2, h3⟩ := hex
            refine ⟨t2, ?_, h2, h3⟩
            rcases Nat.lt_or_ge t t2 with z | z
            · exact z
            · rw [show t2 = t by omega] at h3; exact absurd h3 c_234) I3 d3 l3
      refine Vw.iload (de_iload (B 198 _ rfl) (B 199 _ rfl)) 4 rfl (n := 200) rfl ?_
      refine Vw.iload_n (de_iload_3 (B 200 _ rfl)) 3 rfl (n := 201) rfl ?_
      refine Vw.icmp_ge (tgt := 250) (n := 204) (de_icmp_ge (B 201 _ rfl) (B 202 _ rfl) (B 203 _ rfl)) rfl rfl (fun c_201 => ?_) (fun c_201 => ?_)
      · have hki : i ≤ k := (nI_leI (a := i) (b := k) (by omega) (by omega)).mp c_201
        have fin := fin J dJ.1
        rw [er, reachC_ge hki] at fin
        refine Vw.iload (de_iload (B 250 _ rfl) (B 251 _ rfl)) 4 rfl (n := 252) rfl ?_
        refine Vw.iload_n (de_iload_3 (B 252 _ rfl)) 3 rfl (n := 253) rfl ?_
        refine Vw.icmp_ne (tgt := 260) (n := 256) (de_icmp_ne (B 253 _ rfl) (B 254 _ rfl) (B 255 _ rfl)) rfl rfl (fun c_253 => ?_) (fun c_253 => ?_)
        · refine Vw.iconst (v := 0) (de_iconst_0 (B 260 _ rfl)) rfl (n := 261) rfl ?_
          exact Vw.iret (de_ireturn (B 261 _ rfl)) rfl ⟨_, rfl, (by first | (rw [if_pos (nI_inj (by omega) (by omega) c_253)] at fin; exact fin) | (rw [if_neg (fun z => c_253 (by rw [z]))] at fin; exact fin))⟩
        refine Vw.iconst (v := 1) (de_iconst_1 (B 256 _ rfl)) rfl (n := 257) rfl ?_
        refine Vw.goto_ (n := 261) (de_goto_ (B 257 _ rfl) (B 258 _ rfl) (B 259 _ rfl)) rfl ?_
        exact Vw.iret (de_ireturn (B 261 _ rfl)) rfl ⟨_, rfl, (by first | (rw [if_pos (nI_inj (by omega) (by omega) c_253)] at fin; exact fin) | (rw [if_neg (fun z => c_253 (by rw [z]))] at fin; exact fin))⟩
      have hki : k < i := by rcases Nat.lt_or_ge k i with z | z; exact z; exact absurd ((nI_leI (a := i) (b := k) (by omega) (by omega)).mpr z) c_201
      refine Vw.iload (de_iload (B 204 _ rfl) (B 205 _ rfl)) 4 rfl (n := 206) rfl ?_
      refine Vw.iconst (v := 1) (de_iconst_1 (B 206 _ rfl)) rfl (n := 207) rfl ?_
      skip
      refine Vw.iadd (de_iadd (B 207 _ rfl)) (n := 208) rfl ?_
      rw [nI_1]
      refine Vw.istore (lv2 := [(0, _), (1, _), (2, _), (3, _), (4, _), (5, _)]) (de_istore (B 208 _ rfl) (B 209 _ rfl)) (by decide) [1, 2, 3, 4, 5, 0] rfl (n := 210) rfl ?_
      exact srch hki (n - k) (k + 1) (by omega) (by omega) rfl (least_ex hn (dCl_b (hB q hq)) (by omega)) J dJ lJ
  have fill : ∀ q n, q < np → n ≤ 24 → (x = -1 → ∀ J, Fdr r I J → Q (leastT (dCl W (I (r + 2)) q) n (n + 1) 0) S J L) → (∀ i, i ≤ n → x = nI i → ∀ J, Fdr r I J → Q (reachC (dCl W (I (r + 2)) q) n i 25 0) S J L) → (¬ x = -1 → ∃ i, i ≤ n ∧ x = nI i) → ∀ m, m ≤ n + 1 → ∀ J, DW I J r q W (n + 1) → (∀ j, n + 1 - m ≤ j → j ≤ n + 1 → J (r + 24) j = leastT (dCl W (I (r + 2)) q) n m j) → Vw mX12_dress (d + 45) 0 0 0 0 (ViQ Q) 109 [(0, .ref r), (1, .int (nI q)), (2, .int (nI n)), (3, .int x), (4, .int (nI (n + 1 - m) - 1))] [] S J L := by
    intro q n hq hn fin1 fin2 hx
    refine loop_up (fun m hm ih => ?_)
    intro J dJ lJ
    by_cases hmn : m = n + 1
    · subst hmn
      rw [Nat.sub_self]
      refine Vw.iload (de_iload (B 109 _ rfl) (B 110 _ rfl)) 4 rfl (n := 111) rfl ?_
      refine Vw.if_lt (tgt := 183) (n := 114) (de_if_lt (B 111 _ rfl) (B 112 _ rfl) (B 113 _ rfl)) rfl rfl (fun c_111 => ?_) (fun c_111 => ?_)
      · refine Vw.iload_n (de_iload_3 (B 183 _ rfl)) 3 rfl (n := 184) rfl ?_
        refine Vw.iconst (v := -1) (de_iconst_m1 (B 184 _ rfl)) rfl (n := 185) rfl ?_
        refine Vw.icmp_ne (tgt := 195) (n := 188) (de_icmp_ne (B 185 _ rfl) (B 186 _ rfl) (B 187 _ rfl)) rfl rfl (fun c_185 => ?_) (fun c_185 => ?_)
        · refine Vw.iconst (v := 0) (de_iconst_0 (B 195 _ rfl)) rfl (n := 196) rfl ?_
          refine Vw.istore (lv2 := [(0, _), (1, _), (2, _), (3, _), (4, _)]) (de_istore (B 196 _ rfl) (B 197 _ rfl)) (by decide) [1, 2, 3, 4, 0] rfl (n := 198) rfl ?_
          obtain ⟨i, hi, ex⟩ := hx c_185
          exact go q n hq hn fin1 fin2 hx 25 0 i ex hi (by omega) (by omega) (by omega) rfl J dJ (fun j hj => lJ j (by omega) hj)
        refine Vw.aload_n (de_aload_0 (B 188 _ rfl)) 0 rfl (n := 189) rfl ?_
        refine Vw.getR (de_getfield (B 189 _ rfl) (B 190 _ rfl) (B 191 _ rfl)) fl_X12_96 rfl hM.k (MS_least hM).1 (n := 192) rfl ?_
        refine Vw.iconst (v := 0) (de_iconst_0 (B 192 _ rfl)) rfl (n := 193) rfl ?_
        refine Vw.iald (de_iaload (B 193 _ rfl)) (MS_least hM).2 (j := 0) ⟨rfl, by decide, by decide⟩ (n := 194) rfl ?_
        rw [lJ 0 (by omega) (by omega)]
        exact Vw.iret (de_ireturn (B 194 _ rfl)) rfl ⟨_, rfl, (fin1 c_185 J dJ.1)⟩
      exact absurd (by decide) c_111
    · have hk : n + 1 - m = n - m + 1 := by omega
      have hk2 : n + 1 - (m + 1) = n - m := by omega
      have hCB := dCl_b (W := W) (n := n) (hB q hq)
      rw [hk, dn_p]
      have inner : ∀ j, j ≤ m + 1 → ∀ J, DW I J r q W (n + 1) → (∀ i, n + 1 - m ≤ i → i ≤ n + 1 → J (r + 24) i = leastT (dCl W (I (r + 2)) q) n m i) → J (r + 24) (n - m) = minOv ((dCl W (I (r + 2)) q) (n - m)) (leastT (dCl W (I (r + 2)) q) n m) (n - m) j → Vw mX12_dress (d + 45) 0 0 0 0 (ViQ Q) 129 [(0, .ref r), (1, .int (nI q)), (2, .int (nI n)), (3, .int x), (4, .int (nI (n - m))), (5, .int (nI (n - m + 1 + j)))] [] S J L := by
        refine loop_up (fun j hj ih2 => ?_)
        intro J dJ lJ mJ
        refine Vw.iload (de_iload (B 129 _ rfl) (B 130 _ rfl)) 5 rfl (n := 131) rfl ?_
        refine Vw.iload_n (de_iload_2 (B 131 _ rfl)) 2 rfl (n := 132) rfl ?_
        refine Vw.iconst (v := 1) (de_iconst_1 (B 132 _ rfl)) rfl (n := 133) rfl ?_
        skip
        refine Vw.iadd (de_iadd (B 133 _ rfl)) (n := 134) rfl ?_
        rw [nI_1]
        refine Vw.icmp_gt (tgt := 177) (n := 137) (de_icmp_gt (B 134 _ rfl) (B 135 _ rfl) (B 136 _ rfl)) rfl rfl (fun c_134 => ?_) (fun c_134 => ?_)
        · have z_134 : j = m + 1 := by rcases Nat.lt_or_ge j (m + 1) with z | z; exact absurd ((nI_leI (a := n - m + 1 + j) (b := n + 1) (by omega) (by omega)).mpr (by omega)) (Int32.not_le.mpr c_134); omega
          subst z_134
          refine Vw.iinc (v := nI (n - m) - 1) (lv2 := [(0, _), (1, _), (2, _), (3, _), (4, _), (5, _)]) (de_iinc (B 177 _ rfl) (B 178 _ rfl) (B 179 _ rfl)) 4 rfl (inc_m1 _) (by decide) [1, 2, 3, 4, 0, 5] rfl (n := 180) rfl ?_
          refine Vw.goto_ (n := 109) (de_goto_ (B 180 _ rfl) (B 181 _ rfl) (B 182 _ rfl)) rfl ?_
          refine Vw.lvs (lv2 := [(0, _), (1, _), (2, _), (3, _), (4, _)]) [0, 1, 2, 3, 4] rfl ?_
          have g := ih (by omega) J dJ (fun i h1 h2 => by
            rw [leastT]
            simp only
            by_cases e : i = n - m
            · rw [if_pos e, e]; exact mJ
            · rw [if_neg e]; exact lJ i (by omega) h2)
          rw [hk2] at g
          exact g
        have z_134 : j < m + 1 := by rcases Nat.lt_or_ge j (m + 1) with z | z; exact z; exact absurd (Int32.not_le.mp (fun q => absurd ((nI_leI (a := n - m + 1 + j) (b := n + 1) (by omega) (by omega)).mp q) (by omega))) c_134
        refine Vw.aload_n (de_aload_0 (B 137 _ rfl)) 0 rfl (n := 138) rfl ?_
        refine Vw.getR (de_getfield (B 138 _ rfl) (B 139 _ rfl) (B 140 _ rfl)) fl_X12_96 rfl hM.k (MS_least hM).1 (n := 141) rfl ?_
        refine Vw.iload (de_iload (B 141 _ rfl) (B 142 _ rfl)) 4 rfl (n := 143) rfl ?_
        refine Vw.aload_n (de_aload_0 (B 143 _ rfl)) 0 rfl (n := 144) rfl ?_
        refine Vw.getR (de_getfield (B 144 _ rfl) (B 145 _ rfl) (B 146 _ rfl)) fl_X12_96 rfl hM.k (MS_least hM).1 (n := 147) rfl ?_
        refine Vw.iload (de_iload (B 147 _ rfl) (B 148 _ rfl)) 4 rfl (n := 149) rfl ?_
        refine Vw.iald (de_iaload (B 149 _ rfl)) (MS_least hM).2 (vIx_n (k := n - m) (by simp only [nI_A, nI_M, Int32.zero_add, Int32.add_zero] <;> rfl) (by omega)) (n := 150) rfl ?_
        rw [mJ]
        refine Vw.aload_n (de_aload_0 (B 150 _ rfl)) 0 rfl (n := 151) rfl ?_
        refine Vw.iload_n (de_iload_1 (B 151 _ rfl)) 1 rfl (n := 152) rfl ?_
        refine Vw.iload (de_iload (B 152 _ rfl) (B 153 _ rfl)) 4 rfl (n := 154) rfl ?_
        refine Vw.iload (de_iload (B 154 _ rfl) (B 155 _ rfl)) 5 rfl (n := 156) rfl ?_
        refine Vw.ivi3 (mi' := mX12_clothFor) (de_invokevirtual (B 156 _ rfl) (B 157 _ rfl) (B 158 _ rfl)) ml_X12_419 mv_X12_clothFor hM.k (Nat.le_of_ble_eq_true rfl) (n := 159) rfl (c_X12_clothFor (W := W) (q := q) (a := n - m) (t := n - m + 1 + j) hM (by rw [dJ.1.k]; exact hW) (by omega) (by omega) (fun I3 f3 e3 => ?_))
        rw [dJ.cl (n := n) (by omega) (by omega)]
        have d3 := dJ.fr f3 e3
        have l3 : ∀ i, n + 1 - m ≤ i → i ≤ n + 1 → I3 (r + 24) i = leastT (dCl W (I (r + 2)) q) n m i := fun i h1 h2 => (f3 _ _ (by omega) (by omega)).trans (lJ i h1 h2)
        refine Vw.aload_n (de_aload_0 (B 159 _ rfl)) 0 rfl (n := 160) rfl ?_
        refine Vw.getR (de_getfield (B 160 _ rfl) (B 161 _ rfl) (B 162 _ rfl)) fl_X12_96 rfl hM.k (MS_least hM).1 (n := 163) rfl ?_
        refine Vw.iload (de_iload (B 163 _ rfl) (B 164 _ rfl)) 5 rfl (n := 165) rfl ?_
        refine Vw.iald (de_iaload (B 165 _ rfl)) (MS_least hM).2 (vIx_n (k := n - m + 1 + j) (by simp only [nI_A, nI_M, Int32.zero_add, Int32.add_zero] <;> rfl) (by omega)) (n := 166) rfl ?_
        rw [l3 (n - m + 1 + j) (by omega) (by omega)]
        refine Vw.iadd (de_iadd (B 166 _ rfl)) (n := 167) rfl ?_
        refine Vw.isi2 (mi' := mX12_lesser) (de_invokestatic (B 167 _ rfl) (B 168 _ rfl) (B 169 _ rfl)) ml_X12_341 ms_X12_lesser (Nat.le_of_ble_eq_true rfl) (n := 170) rfl (c_X12_lesser ?_)
        refine Vw.iast (de_iastore (B 170 _ rfl)) (MS_least hM).2 (vIx_n (k := n - m) (by simp only [nI_A, nI_M, Int32.zero_add, Int32.add_zero] <;> rfl) (by omega)) (n := 171) rfl ?_
        refine Vw.iinc (v := nI (n - m + 1 + (j + 1))) (lv2 := [(0, _), (1, _), (2, _), (3, _), (4, _), (5, _)]) (de_iinc (B 171 _ rfl) (B 172 _ rfl) (B 173 _ rfl)) 5 rfl (nI_1 (n - m + 1 + j)) (by decide) [1, 2, 3, 4, 5, 0] rfl (n := 174) rfl ?_
        refine Vw.goto_ (n := 129) (de_goto_ (B 174 _ rfl) (B 175 _ rfl) (B 176 _ rfl)) rfl ?_
        exact ih2 z_134 _ d3.l (fun i h1 h2 => by rw [up2_k (by omega)]; exact l3 i h1 h2) (by rw [up2_s, minOv])
      refine Vw.iload (de_iload (B 109 _ rfl) (B 110 _ rfl)) 4 rfl (n := 111) rfl ?_
      refine Vw.if_lt (tgt := 183) (n := 114) (de_if_lt (B 111 _ rfl) (B 112 _ rfl) (B 113 _ rfl)) rfl rfl (fun c_111 => ?_) (fun c_111 => ?_)
      · exact absurd c_111 (Int32.not_lt.mpr ((nI_leI (a := 0) (b := n - m) (by omega) (by omega)).mpr (Nat.zero_le _)))
      refine Vw.aload_n (de_aload_0 (B 114 _ rfl)) 0 rfl (n := 115) rfl ?_
      refine Vw.getR (de_getfield (B 115 _ rfl) (B 116 _ rfl) (B 117 _ rfl)) fl_X12_96 rfl hM.k (MS_least hM).1 (n := 118) rfl ?_
      refine Vw.iload (de_iload (B 118 _ rfl) (B 119 _ rfl)) 4 rfl (n := 120) rfl ?_
      refine Vw.ldc (de_ldc (B 120 _ rfl) (B 121 _ rfl)) kc_X12_187 (n := 122) rfl ?_
      refine Vw.iast (de_iastore (B 122 _ rfl)) (MS_least hM).2 (vIx_n (k := n - m) (by simp only [nI_A, nI_M, Int32.zero_add, Int32.add_zero] <;> rfl) (by omega)) (n := 123) rfl ?_
      refine Vw.iload (de_iload (B 123 _ rfl) (B 124 _ rfl)) 4 rfl (n := 125) rfl ?_
      refine Vw.iconst (v := 1) (de_iconst_1 (B 125 _ rfl)) rfl (n := 126) rfl ?_
      refine Vw.iadd (de_iadd (B 126 _ rfl)) (n := 127) rfl ?_
      rw [nI_1]
      refine Vw.istore (lv2 := [(0, _), (1, _), (2, _), (3, _), (4, _), (5, _)]) (de_istore (B 127 _ rfl) (B 128 _ rfl)) (by decide) [1, 2, 3, 4, 5, 0] rfl (n := 129) rfl ?_
      exact inner 0 (Nat.zero_le _) _ dJ.l (fun i h1 h2 => by rw [up2_k (by omega)]; exact lJ i h1 h2) (by rw [up2_s]; rfl)
  have walk1 : ∀ q n, q < np → n ≤ 24 → (x = -1 → ∀ J, Fdr r I J → Q (leastT (dCl W (I (r + 2)) q) n (n + 1) 0) S J L) → (∀ i, i ≤ n → x = nI i → ∀ J, Fdr r I J → Q (reachC (dCl W (I (r + 2)) q) n i 25 0) S J L) → (¬ x = -1 → ∃ i, i ≤ n ∧ x = nI i) → ∀ k, k ≤ n + 1 → ∀ J, DW I J r q W k → PP J r = walkP W (nI q) (I (r + 2) 121) (perP (I (r + 2)) q) k → Vw mX12_dress (d + 45) 0 0 0 0 (ViQ Q) 37 [(0, .ref r), (1, .int (nI q)), (2, .int (nI n)), (3, .int x), (4, .int (nI k))] [] S J L := by
    intro q n hq hn fin1 fin2 hx
    refine loop_up (fun k hk ih => ?_)
    intro J dJ pJ
    have kJ := dJ.1.k
    refine Vw.iload (de_iload (B 37 _ rfl) (B 38 _ rfl)) 4 rfl (n := 39) rfl ?_
    refine Vw.iload_n (de_iload_2 (B 39 _ rfl)) 2 rfl (n := 40) rfl ?_
    refine Vw.icmp_gt (tgt := 97) (n := 43) (de_icmp_gt (B 40 _ rfl) (B 41 _ rfl) (B 42 _ rfl)) rfl rfl (fun c_40 => ?_) (fun c_40 => ?_)
    · have z_40 : k = n + 1 := by rcases Nat.lt_or_ge k (n + 1) with z | z; exact absurd ((nI_leI (a := k) (b := n) (by omega) (by omega)).mpr (by omega)) (Int32.not_le.mpr c_40); omega
      subst z_40
      refine Vw.aload_n (de_aload_0 (B 97 _ rfl)) 0 rfl (n := 98) rfl ?_
      refine Vw.getR (de_getfield (B 98 _ rfl) (B 99 _ rfl) (B 100 _ rfl)) fl_X12_96 rfl hM.k (MS_least hM).1 (n := 101) rfl ?_
      refine Vw.iload_n (de_iload_2 (B 101 _ rfl)) 2 rfl (n := 102) rfl ?_
      refine Vw.iconst (v := 1) (de_iconst_1 (B 102 _ rfl)) rfl (n := 103) rfl ?_
      refine Vw.iadd (de_iadd (B 103 _ rfl)) (n := 104) rfl ?_
      rw [nI_1]
      refine Vw.iconst (v := 0) (de_iconst_0 (B 104 _ rfl)) rfl (n := 105) rfl ?_
      refine Vw.iast (de_iastore (B 105 _ rfl)) (MS_least hM).2 (vIx_n (k := n + 1) (by simp only [nI_A, nI_M, Int32.zero_add, Int32.add_zero] <;> rfl) (by omega)) (n := 106) rfl ?_
      refine Vw.iload_n (de_iload_2 (B 106 _ rfl)) 2 rfl (n := 107) rfl ?_
      refine Vw.istore (lv2 := [(0, _), (1, _), (2, _), (3, _), (4, _)]) (de_istore (B 107 _ rfl) (B 108 _ rfl)) (by decide) [1, 2, 3, 4, 0] rfl (n := 109) rfl ?_
      have g := fill q n hq hn fin1 fin2 hx 0 (Nat.zero_le _) _ (dJ.l (k := n + 1) (v := 0)) (fun j h1 h2 => by rw [show j = n + 1 by omega, up2_s]; rfl)
      rw [Nat.sub_zero, dn_p] at g
      exact g
    have z_40 : k < n + 1 := by rcases Nat.lt_or_ge k (n + 1) with z | z; exact z; exact absurd (Int32.not_le.mp (fun q => absurd ((nI_leI (a := k) (b := n) (by omega) (by omega)).mp q) (by omega))) c_40
    refine Vw.aload_n (de_aload_0 (B 43 _ rfl)) 0 rfl (n := 44) rfl ?_
    refine Vw.getR (de_getfield (B 44 _ rfl) (B 45 _ rfl) (B 46 _ rfl)) fl_X12_87 rfl hM.k (MS_willLong hM).1 (n := 47) rfl ?_
    refine Vw.iload (de_iload (B 47 _ rfl) (B 48 _ rfl)) 4 rfl (n := 49) rfl ?_
    refine Vw.aload_n (de_aload_0 (B 49 _ rfl)) 0 rfl (n := 50) rfl ?_
    refine Vw.getI (de_getfield (B 50 _ rfl) (B 51 _ rfl) (B 52 _ rfl)) fl_X12_321 rfl hM.k (n := 53) rfl ?_
    refine Vw.iast (de_iastore (B 53 _ rfl)) (MS_willLong hM).2 (vIx_n (k := k) (by simp only [nI_A, nI_M, Int32.zero_add, Int32.add_zero] <;> rfl) (by omega)) (n := 54) rfl ?_
    refine Vw.aload_n (de_aload_0 (B 54 _ rfl)) 0 rfl (n := 55) rfl ?_
    refine Vw.getR (de_getfield (B 55 _ rfl) (B 56 _ rfl) (B 57 _ rfl)) fl_X12_90 rfl hM.k (MS_willWide hM).1 (n := 58) rfl ?_
    refine Vw.iload (de_iload (B 58 _ rfl) (B 59 _ rfl)) 4 rfl (n := 60) rfl ?_
    skip
    refine Vw.aload_n (de_aload_0 (B 60 _ rfl)) 0 rfl (n := 61) rfl ?_
    skip
    refine Vw.getI (de_getfield (B 61 _ rfl) (B 62 _ rfl) (B 63 _ rfl)) fl_X12_324 rfl hM.k (n := 64) rfl ?_
    rw [up2_a (show r ≠ r + 21 by omega)]
    refine Vw.iast (de_iastore (B 64 _ rfl)) (MS_willWide hM).2 (vIx_n (k := k) (by simp only [nI_A, nI_M, Int32.zero_add, Int32.add_zero] <;> rfl) (by omega)) (n := 65) rfl ?_
    refine Vw.aload_n (de_aload_0 (B 65 _ rfl)) 0 rfl (n := 66) rfl ?_
    refine Vw.getR (de_getfield (B 66 _ rfl) (B 67 _ rfl) (B 68 _ rfl)) fl_X12_93 rfl hM.k (MS_willAge hM).1 (n := 69) rfl ?_
    refine Vw.iload (de_iload (B 69 _ rfl) (B 70 _ rfl)) 4 rfl (n := 71) rfl ?_
    refine Vw.aload_n (de_aload_0 (B 71 _ rfl)) 0 rfl (n := 72) rfl ?_
    refine Vw.getI (de_getfield (B 72 _ rfl) (B 73 _ rfl) (B 74 _ rfl)) fl_X12_318 rfl hM.k (n := 75) rfl ?_
    rw [up2_a (show r ≠ r + 22 by omega), up2_a (show r ≠ r + 21 by omega)]
    refine Vw.iast (de_iastore (B 75 _ rfl)) (MS_willAge hM).2 (vIx_n (k := k) (by simp only [nI_A, nI_M, Int32.zero_add, Int32.add_zero] <;> rfl) (by omega)) (n := 76) rfl ?_
    have pU : PP (up2 (up2 (up2 J (r + 21) k (J r 27)) (r + 22) k (J r 28)) (r + 23) k (J r 26)) r = walkP W (nI q) (I (r + 2) 121) (perP (I (r + 2)) q) k := by rw [← pJ]; unfold PP; simp (disch := omega) only [up2_a]
    have dU : DW I (up2 (up2 (up2 J (r + 21) k (J r 27)) (r + 22) k (J r 28)) (r + 23) k (J r 26)) r q W (k + 1) := by
      refine ⟨dJ.1.trans (fun a j h1 h2 h3 => by rw [up2_a (by omega), up2_a (by omega), up2_a (by omega)]), by rw [up2_a (by omega), up2_a (by omega), up2_a (by omega)]; exact dJ.2.1, fun i hi => ?_⟩
      have e := PPe pJ
      by_cases z : i = k
      · subst z
        refine ⟨?_, ?_, ?_⟩
        · rw [up2_a (by omega), up2_a (by omega), up2_s]; exact e.2.1
        · rw [up2_a (by omega), up2_s]; exact e.2.2.1
        · rw [up2_s]; exact e.1
      · have g := dJ.2.2 i (by omega)
        refine ⟨?_, ?_, ?_⟩
        · rw [up2_a (by omega), up2_a (by omega), up2_k z]; exact g.1
        · rw [up2_a (by omega), up2_k z, up2_a (by omega)]; exact g.2.1
        · rw [up2_k z, up2_a (by omega), up2_a (by omega)]; exact g.2.2
    have kU := dU.1.k
    refine Vw.aload_n (de_aload_0 (B 76 _ rfl)) 0 rfl (n := 77) rfl ?_
    refine Vw.iload_n (de_iload_1 (B 77 _ rfl)) 1 rfl (n := 78) rfl ?_
    refine Vw.aload_n (de_aload_0 (B 78 _ rfl)) 0 rfl (n := 79) rfl ?_
    refine Vw.getR (de_getfield (B 79 _ rfl) (B 80 _ rfl) (B 81 _ rfl)) fl_X12_24 rfl hM.k (MS_kept hM).1 (n := 82) rfl ?_
    refine Vw.bipush (v := 121) (de_bipush (B 82 _ rfl) (B 83 _ rfl)) rfl (n := 84) rfl ?_
    refine Vw.iald (de_iaload (B 84 _ rfl)) (MS_kept hM).2 (j := 121) ⟨rfl, by decide, by decide⟩ (n := 85) rfl ?_
    rw [kU]
    refine Vw.iload (de_iload (B 85 _ rfl) (B 86 _ rfl)) 4 rfl (n := 87) rfl ?_
    refine Vw.iadd (de_iadd (B 87 _ rfl)) (n := 88) rfl ?_
    refine Vw.ivv2 (mi' := mX12_goesOn) (de_invokevirtual (B 88 _ rfl) (B 89 _ rfl) (B 90 _ rfl)) ml_X12_375 mv_X12_goesOn hM.k (Nat.le_of_ble_eq_true rfl) (n := 91) rfl (c_X12_goesOn (W := W) hM (by rw [kU]; exact hW) (fun I3 f3 e3 => ?_))
    refine Vw.iinc (v := nI (k + 1)) (lv2 := [(0, _), (1, _), (2, _), (3, _), (4, _)]) (de_iinc (B 91 _ rfl) (B 92 _ rfl) (B 93 _ rfl)) 4 rfl (nI_1 k) (by decide) [1, 2, 3, 4, 0] rfl (n := 94) rfl ?_
    refine Vw.goto_ (n := 37) (de_goto_ (B 94 _ rfl) (B 95 _ rfl) (B 96 _ rfl)) rfl ?_
    exact ih z_40 I3 (dU.fr f3 (by rw [(PPe e3).2.2.2, (PPe pU.symm.symm).2.2.2, pU]; rfl)) (by rw [e3, pU, walkP])
  refine Vw.aload_n (de_aload_0 (B 0 _ rfl)) 0 rfl (n := 1) rfl ?_
  refine Vw.iload_n (de_iload_1 (B 1 _ rfl)) 1 rfl (n := 2) rfl ?_
  refine Vw.ivi1 (mi' := mX12_isPerson) (de_invokevirtual (B 2 _ rfl) (B 3 _ rfl) (B 4 _ rfl)) ml_X12_132 mv_X12_isPerson hM.k (Nat.le_of_ble_eq_true rfl) (n := 5) rfl (c_X12_isPerson hM ?_)
  rw [e142]
  refine Vw.if_eq (tgt := 27) (n := 8) (de_if_eq (B 5 _ rfl) (B 6 _ rfl) (B 7 _ rfl)) rfl rfl (fun c_5 => ?_) (fun c_5 => ?_)
  · refine Vw.iconst (v := -1) (de_iconst_m1 (B 27 _ rfl)) rfl (n := 28) rfl ?_
    exact Vw.iret (de_ireturn (B 28 _ rfl)) rfl ⟨_, rfl, (qv (by unfold dressP; rw [if_pos (by first | exact Or.inl c_5 | exact Or.inr (Or.inl c_15) | exact Or.inr (Or.inr c_24))]) (h I Fdr.rfl))⟩
  refine Vw.iload_n (de_iload_2 (B 8 _ rfl)) 2 rfl (n := 9) rfl ?_
  refine Vw.iconst (v := 0) (de_iconst_0 (B 9 _ rfl)) rfl (n := 10) rfl ?_
  refine Vw.bipush (v := 24) (de_bipush (B 10 _ rfl) (B 11 _ rfl)) rfl (n := 12) rfl ?_
  refine Vw.isi3 (mi' := mX12_lies) (de_invokestatic (B 12 _ rfl) (B 13 _ rfl) (B 14 _ rfl)) ml_X12_111 ms_X12_lies (Nat.le_of_ble_eq_true rfl) (n := 15) rfl (c_X12_lies ?_)
  refine Vw.if_eq (tgt := 27) (n := 18) (de_if_eq (B 15 _ rfl) (B 16 _ rfl) (B 17 _ rfl)) rfl rfl (fun c_15 => ?_) (fun c_15 => ?_)
  · refine Vw.iconst (v := -1) (de_iconst_m1 (B 27 _ rfl)) rfl (n := 28) rfl ?_
    exact Vw.iret (de_ireturn (B 28 _ rfl)) rfl ⟨_, rfl, (qv (by unfold dressP; rw [if_pos (by first | exact Or.inl c_5 | exact Or.inr (Or.inl c_15) | exact Or.inr (Or.inr c_24))]) (h I Fdr.rfl))⟩
  obtain ⟨n, hn, en⟩ := lie_n (N := 24) (by decide) c_15
  subst en
  refine Vw.iload_n (de_iload_3 (B 18 _ rfl)) 3 rfl (n := 19) rfl ?_
  refine Vw.iconst (v := -1) (de_iconst_m1 (B 19 _ rfl)) rfl (n := 20) rfl ?_
  refine Vw.iload_n (de_iload_2 (B 20 _ rfl)) 2 rfl (n := 21) rfl ?_
  refine Vw.isi3 (mi' := mX12_lies) (de_invokestatic (B 21 _ rfl) (B 22 _ rfl) (B 23 _ rfl)) ml_X12_111 ms_X12_lies (Nat.le_of_ble_eq_true rfl) (n := 24) rfl (c_X12_lies ?_)
  refine Vw.if_ne (tgt := 29) (n := 27) (de_if_ne (B 24 _ rfl) (B 25 _ rfl) (B 26 _ rfl)) rfl rfl (fun c_24 => ?_) (fun c_24 => ?_)
  · obtain ⟨q, hq, eq⟩ := lie_ex (by omega) c_5
    subst eq
    refine Vw.aload_n (de_aload_0 (B 29 _ rfl)) 0 rfl (n := 30) rfl ?_
    refine Vw.iload_n (de_iload_1 (B 30 _ rfl)) 1 rfl (n := 31) rfl ?_
    refine Vw.ivv1 (mi' := mX12_takes) (de_invokevirtual (B 31 _ rfl) (B 32 _ rfl) (B 33 _ rfl)) ml_X12_140 mv_X12_takes hM.k (Nat.le_of_ble_eq_true rfl) (n := 34) rfl (c_X12_takes hM (by omega) (fun I2 f2 e2 => ?_))
    refine Vw.iconst (v := 0) (de_iconst_0 (B 34 _ rfl)) rfl (n := 35) rfl ?_
    refine Vw.istore (lv2 := [(0, _), (1, _), (2, _), (3, _), (4, _)]) (de_istore (B 35 _ rfl) (B 36 _ rfl)) (by decide) [1, 2, 3, 4, 0] rfl (n := 37) rfl ?_
    refine walk1 q n hq hn (fun ex J fJ => ?_) (fun i hi ex J fJ => ?_) (fun z => lie_m1 (by omega) c_24 z) 0 (Nat.zero_le _) I2 ⟨f2.fdr, (PPe e2).2.2.2, fun i hi => absurd hi (Nat.not_lt_zero _)⟩ e2
    · refine qv ?_ (h J fJ)
      unfold dressP
      rw [if_neg (fun z => z.elim c_5 (fun z => z.elim c_15 c_24)), if_pos ex, nI_cl (by omega), nI_cl (by omega)]
    · refine qv ?_ (h J fJ)
      unfold dressP
      rw [if_neg (fun z => z.elim c_5 (fun z => z.elim c_15 c_24)), if_neg (by rw [ex]; exact nI_m1 (by omega)), nI_cl (by omega), nI_cl (by omega), ex, nI_cl (by omega)]
  refine Vw.iconst (v := -1) (de_iconst_m1 (B 27 _ rfl)) rfl (n := 28) rfl ?_
  exact Vw.iret (de_ireturn (B 28 _ rfl)) rfl ⟨_, rfl, (qv (by unfold dressP; rw [if_pos (by first | exact Or.inl c_5 | exact Or.inr (Or.inl c_15) | exact Or.inr (Or.inr c_24))]) (h I Fdr.rfl))⟩
