/-! evaluate() -/
def evR : Option (List Int64) → Option Int64
  | some (v :: _) => some v
  | _ => none
theorem evalP_R {cw : Nat → Nat × Nat} {nv : Nat → Int32} {kl a to : Nat} : evalP cw nv kl a to = evR (mGo cw nv kl to 400 a []) := by
  unfold evalP evR; rfl
def Lev (u : Nat) (L M : vL) : Prop := ∀ b k, ¬ (b = u ∧ k = 3) → b ≠ u + 2 → M b k = L b k
theorem Lev.up {u k : Nat} {L M : vL} {v : Int64} (h : Lev u L M) : Lev u L (up2 M (u + 2) k v) := fun b j h1 h2 => by rw [up2_a h2]; exact h b j h1 h2
theorem Lev.val {u : Nat} {L M : vL} {v : Int64} (h : Lev u L M) : Lev u L (up2 M u 3 v) := fun b j h1 h2 => by rw [up2_n h1]; exact h b j h1 h2
theorem Lev.rfl {u : Nat} {L : vL} : Lev u L L := fun _ _ _ _ => Eq.refl _
theorem tb0 : tBnd 0 = some 0 := tBnd_s (by decide) (by decide)
theorem tb1 : tBnd 1 = some 1 := tBnd_s (by decide) (by decide)
section MS
variable {cw : Nat → Nat × Nat} {nv : Nat → Int32} {kl a : Nat} {st r : List Int64} {v w : Int64}
theorem ms_full (h : (cw a).1 ≤ 1) (h2 : 40 ≤ st.length) : mStep cw nv kl a st = none := by unfold mStep; rw [if_pos h, if_pos h2]
theorem ms_num (h : (cw a).1 = 0) (h2 : ¬ 40 ≤ st.length) : mStep cw nv kl a st = some (a + 1, (nI (cw a).2).toInt64 :: st) := by unfold mStep; rw [if_pos (by omega), if_neg h2, if_neg (by omega)]
theorem ms_word (h : (cw a).1 = 1) (h2 : ¬ 40 ≤ st.length) (h3 : (cw a).2 < kl) : mStep cw nv kl a st = some (a + 1, (nv (cw a).2).toInt64 :: st) := by unfold mStep; rw [if_pos (by omega), if_neg h2, if_pos h, if_neg (by omega)]
theorem ms_wordN (h : (cw a).1 = 1) (h3 : kl ≤ (cw a).2) : mStep cw nv kl a st = none := by
  unfold mStep; rw [if_pos (by omega)]
  by_cases h2 : 40 ≤ st.length
  · rw [if_pos h2]
  · rw [if_neg h2, if_pos h, if_pos h3]
theorem ms_nil (h : ¬ (cw a).1 ≤ 1) : mStep cw nv kl a [] = none := by unfold mStep; rw [if_neg h]
theorem ms_and0 (h : (cw a).1 = 2) (hv : v = 0) : mStep cw nv kl a (v :: r) = some ((cw a).2, v :: r) := by unfold mStep; rw [if_neg (by omega)]; simp only; rw [if_pos (by omega), if_neg (by omega), if_pos hv]
theorem ms_and1 (h : (cw a).1 = 2) (hv : ¬ v = 0) : mStep cw nv kl a (v :: r) = some (a + 1, r) := by unfold mStep; rw [if_neg (by omega)]; simp only; rw [if_pos (by omega), if_neg (by omega), if_neg hv]
theorem ms_or0 (h : (cw a).1 = 3) (hv : v = 0) : mStep cw nv kl a (v :: r) = some (a + 1, r) := by unfold mStep; rw [if_neg (by omega)]; simp only; rw [if_pos (by omega), if_pos h, if_pos hv]
theorem ms_or1 (h : (cw a).1 = 3) (hv : ¬ v = 0) : mStep cw nv kl a (v :: r) = some ((cw a).2, v :: r) := by unfold mStep; rw [if_neg (by omega)]; simp only; rw [if_pos (by omega), if_pos h, if_neg hv]
theorem ms_not (h : (cw a).1 = 4) : mStep cw nv kl a (v :: r) = some (a + 1, (1 - v) :: r) := by unfold mStep; rw [if_neg (by omega)]; simp only; rw [if_neg (by omega), if_pos h]
theorem ms_one (h : 5 ≤ (cw a).1) : mStep cw nv kl a [v] = none := by unfold mStep; rw [if_neg (by omega)]; simp only; rw [if_neg (by omega), if_neg (by omega)]
theorem ms_ar (h : 5 ≤ (cw a).1) {x : Int64} (hx : arOp (cw a).1 w v = some x) : mStep cw nv kl a (v :: w :: r) = some (a + 1, x :: r) := by unfold mStep; rw [if_neg (by omega)]; simp only; rw [if_neg (by omega), if_neg (by omega), hx]
theorem ms_arN (h : 5 ≤ (cw a).1) (hx : arOp (cw a).1 w v = none) : mStep cw nv kl a (v :: w :: r) = none := by unfold mStep; rw [if_neg (by omega)]; simp only; rw [if_neg (by omega), if_neg (by omega), hx]
end MS
theorem c_X6_evaluate {d : Nat} {S : vS} {I : vI} {L : vL} {Q : Int32 → vS → vI → vL → Prop} {u ca ka a0 to kl cl : Nat} {cw : Nat → Nat × Nat} {nv : Nat → Int32} (hu : (S.1 u).1 = 6) (hst : S.2.1 u 2 = some (u + 2)) (hsk : S.1 (u + 2) = (103, 40)) (hca : S.1 ca = (100, cl)) (hka : S.1 ka = (100, kl)) (hcl : cl ≤ 400) (hto : to ≤ cl) (ha0 : a0 ≤ 400) (hkl : kl ≤ 100) (hcw : CWk (I ca) cw to) (hnv : ∀ x, x < kl → I ka x = nv x)
  (h1 : ∀ v M, Lev u L M → evalP cw nv kl a0 to = some v → M u 3 = v → Q 1 S I M) (h0 : ∀ M, Lev u L M → evalP cw nv kl a0 to = none → Q 0 S I M) : Vc mX6_evaluate d 0 0 [.ref u, .ref ca, .int (nI a0), .int (nI to), .ref ka] S I L (ViQ Q) := by
  refine Vc.of rfl (Nat.le_of_ble_eq_true rfl) ?_
  have B := bs_X6_evaluate
  show Vw mX6_evaluate d 0 0 0 0 (ViQ Q) 0 [(0, .ref u), (1, .ref ca), (2, .int (nI a0)), (3, .int (nI to)), (4, .ref ka)] [] S I L
  have fin : ∀ st M top, evalP cw nv kl a0 to = evR (some st) → Lev u L M → StR (M (u + 2)) st → top = st.length → st.length ≤ 40 → Vw mX6_evaluate d 0 0 0 0 (ViQ Q) 432 [(0, .ref u), (1, .ref ca), (2, .int (nI a0)), (3, .int (nI to)), (4, .ref ka), (5, .int (nI top))] [] S I M := by
    intro st M top hE fM sM ht h40
    cases st with
    | nil =>
      obtain rfl : top = 0 := ht
      refine Vw.aload_n (de_aload_0 (B 432 _ rfl)) 0 rfl (n := 433) rfl ?_
      refine Vw.iload (de_iload (B 433 _ rfl) (B 434 _ rfl)) 5 rfl (n := 435) rfl ?_
      refine Vw.if_le (tgt := 450) (n := 438) (de_if_le (B 435 _ rfl) (B 436 _ rfl) (B 437 _ rfl)) rfl rfl (fun c_435 => ?_) (fun c_435 => ?_)
      · refine Vw.lconst (v := 0) (de_lconst_0 (B 450 _ rfl)) rfl (n := 451) rfl ?_
        refine Vw.putL (de_putfield (B 451 _ rfl) (B 452 _ rfl) (B 453 _ rfl)) fl_X6_102 hu rfl rfl (n := 454) rfl ?_
        refine Vw.iload (de_iload (B 454 _ rfl) (B 455 _ rfl)) 5 rfl (n := 456) rfl ?_
        refine Vw.if_le (tgt := 463) (n := 459) (de_if_le (B 456 _ rfl) (B 457 _ rfl) (B 458 _ rfl)) rfl rfl (fun c_456 => ?_) (fun c_456 => ?_)
        · refine Vw.iconst (v := 0) (de_iconst_0 (B 463 _ rfl)) rfl (n := 464) rfl ?_
          exact Vw.zret (de_ireturn (B 464 _ rfl)) rfl rfl ⟨_, rfl, (h0 _ fM.val hE)⟩
        exact absurd c_456 (by decide)
      exact absurd c_435 (by decide)
    | cons v r =>
      obtain rfl : top = r.length + 1 := ht
      have hl : r.length < 40 := by simp only [List.length_cons] at h40; omega
      have hp : ¬ nI (r.length + 1) ≤ 0 := fun z => absurd ((nI_leI (a := r.length + 1) (b := 0) (by omega) (by omega)).mp z) (by omega)
      refine Vw.aload_n (de_aload_0 (B 432 _ rfl)) 0 rfl (n := 433) rfl ?_
      refine Vw.iload (de_iload (B 433 _ rfl) (B 434 _ rfl)) 5 rfl (n := 435) rfl ?_
      refine Vw.if_le (tgt := 450) (n := 438) (de_if_le (B 435 _ rfl) (B 436 _ rfl) (B 437 _ rfl)) rfl rfl (fun c_435 => ?_) (fun c_435 => ?_)
      · exact absurd c_435 hp
      refine Vw.aload_n (de_aload_0 (B 438 _ rfl)) 0 rfl (n := 439) rfl ?_
      refine Vw.getR (de_getfield (B 439 _ rfl) (B 440 _ rfl) (B 441 _ rfl)) fl_X6_15 rfl hu hst (n := 442) rfl ?_
      refine Vw.iload (de_iload (B 442 _ rfl) (B 443 _ rfl)) 5 rfl (n := 444) rfl ?_
      refine Vw.iconst (v := 1) (de_iconst_1 (B 444 _ rfl)) rfl (n := 445) rfl ?_
      refine Vw.isub (de_isub (B 445 _ rfl)) (n := 446) rfl ?_
      rw [dn_p]
      refine Vw.lald (de_laload (B 446 _ rfl)) hsk (vIx_n (k := r.length) (by simp only [nI_A, nI_M, Int32.zero_add, Int32.add_zero] <;> rfl) (by omega)) (n := 447) rfl ?_
      rw [sM.1]
      refine Vw.goto_ (n := 451) (de_goto_ (B 447 _ rfl) (B 448 _ rfl) (B 449 _ rfl)) rfl ?_
      refine Vw.putL (de_putfield (B 451 _ rfl) (B 452 _ rfl) (B 453 _ rfl)) fl_X6_102 hu rfl rfl (n := 454) rfl ?_
      refine Vw.iload (de_iload (B 454 _ rfl) (B 455 _ rfl)) 5 rfl (n := 456) rfl ?_
      refine Vw.if_le (tgt := 463) (n := 459) (de_if_le (B 456 _ rfl) (B 457 _ rfl) (B 458 _ rfl)) rfl rfl (fun c_456 => ?_) (fun c_456 => ?_)
      · exact absurd c_456 hp
      refine Vw.iconst (v := 1) (de_iconst_1 (B 459 _ rfl)) rfl (n := 460) rfl ?_
      refine Vw.goto_ (n := 464) (de_goto_ (B 460 _ rfl) (B 461 _ rfl) (B 462 _ rfl)) rfl ?_
      exact Vw.zret (de_ireturn (B 464 _ rfl)) rfl rfl ⟨_, rfl, (h1 v _ fM.val hE (up2_s _ _ _ _))⟩
  have loop : ∀ f i a st M top, i + f = 400 → a ≤ 2000000 → evalP cw nv kl a0 to = evR (mGo cw nv kl to f a st) → Lev u L M → StR (M (u + 2)) st → top = st.length → st.length ≤ 40 → Vw mX6_evaluate d 0 0 0 0 (ViQ Q) 9 [(0, .ref u), (1, .ref ca), (2, .int (nI a0)), (3, .int (nI to)), (4, .ref ka), (5, .int (nI top)), (6, .int (nI a)), (7, .int (nI i))] [] S I M := by
    intro f
    induction f with
    | zero =>
      intro i a st M top hi ha hE fM sM ht h40
      obtain rfl : i = 400 := by omega
      refine Vw.iload (de_iload (B 9 _ rfl) (B 10 _ rfl)) 7 rfl (n := 11) rfl ?_
      refine Vw.sipush (v := 400) (de_sipush (B 11 _ rfl) (B 12 _ rfl) (B 13 _ rfl)) rfl (n := 14) rfl ?_
      refine Vw.icmp_ge (tgt := 432) (n := 17) (de_icmp_ge (B 14 _ rfl) (B 15 _ rfl) (B 16 _ rfl)) rfl rfl (fun c_14 => ?_) (fun c_14 => ?_)
      · refine Vw.lvs (lv2 := [(0, _), (1, _), (2, _), (3, _), (4, _), (5, _)]) [0, 1, 2, 3, 4, 5] rfl ?_
        exact fin st M top hE fM sM ht h40
      exact absurd c_14 (by decide)
    | succ f ih =>
      intro i a st M top hi ha hE fM sM ht h40
      have hi4 : ¬ (400 : Int32) ≤ nI i := fun z => absurd ((nI_leI (a := 400) (b := i) (by omega) (by omega)).mp z) (by omega)
      by_cases hat : a < to
      · rw [mGo_s hat] at hE
        obtain ⟨w1, w2, w3⟩ := hcw a hat
        have nxt : ∀ a2 st2 top2 M2, mStep cw nv kl a st = some (a2, st2) → top2 = st2.length → a2 ≤ 2000000 → Lev u L M2 → StR (M2 (u + 2)) st2 → st2.length ≤ 40 → Vw mX6_evaluate d 0 0 0 0 (ViQ Q) 426 [(0, .ref u), (1, .ref ca), (2, .int (nI a0)), (3, .int (nI to)), (4, .ref ka), (5, .int (nI top2)), (6, .int (nI a2)), (7, .int (nI i))] [] S I M2 := by
          intro a2 st2 top2 M2 hm h2 h3 h4 h5 h6
          rw [hm] at hE
          refine Vw.iinc (v := nI (i + 1)) (lv2 := [(0, _), (1, _), (2, _), (3, _), (4, _), (5, _), (6, _), (7, _)]) (de_iinc (B 426 _ rfl) (B 427 _ rfl) (B 428 _ rfl)) 7 rfl (nI_1 i) (by decide) [1, 2, 3, 4, 5, 6, 7, 0] rfl (n := 429) rfl ?_
          refine Vw.goto_ (n := 9) (de_goto_ (B 429 _ rfl) (B 430 _ rfl) (B 431 _ rfl)) rfl ?_
          exact ih (i + 1) a2 st2 M2 top2 (by omega) h3 hE h4 h5 h2 h6
        have bad : ∀ M2, Lev u L M2 → mStep cw nv kl a st = none → Q 0 S I M2 := by
          intro M2 h4 hm
          rw [hm] at hE
          exact h0 M2 h4 hE
        have d0 : (cw a).1 = 0 → Vw mX6_evaluate d 0 0 0 0 (ViQ Q) 50 [(0, .ref u), (1, .ref ca), (2, .int (nI a0)), (3, .int (nI to)), (4, .ref ka), (5, .int (nI top)), (6, .int (nI (a + 1))), (7, .int (nI i)), (8, .int 0), (9, .int (nI (cw a).2))] [] S I M := by
          intro hk
          refine Vw.iload (de_iload (B 50 _ rfl) (B 51 _ rfl)) 8 rfl (n := 52) rfl ?_
          refine Vw.iconst (v := 1) (de_iconst_1 (B 52 _ rfl)) rfl (n := 53) rfl ?_
          refine Vw.icmp_gt (tgt := 110) (n := 56) (de_icmp_gt (B 53 _ rfl) (B 54 _ rfl) (B 55 _ rfl)) rfl rfl (fun c_53 => ?_) (fun c_53 => ?_)
          · exact absurd c_53 (by decide)
          refine Vw.iload (de_iload (B 56 _ rfl) (B 57 _ rfl)) 5 rfl (n := 58) rfl ?_
          refine Vw.bipush (v := 40) (de_bipush (B 58 _ rfl) (B 59 _ rfl)) rfl (n := 60) rfl ?_
          refine Vw.icmp_ge (tgt := 77) (n := 63) (de_icmp_ge (B 60 _ rfl) (B 61 _ rfl) (B 62 _ rfl)) rfl rfl (fun c_60 => ?_) (fun c_60 => ?_)
          · refine Vw.iconst (v := 0) (de_iconst_0 (B 77 _ rfl)) rfl (n := 78) rfl ?_
            exact Vw.zret (de_ireturn (B 78 _ rfl)) rfl rfl ⟨_, rfl, (bad M fM (ms_full (by omega) (by have := (nI_leI (a := 40) (b := top) (by omega) (by omega)).mp c_60; omega)))⟩
          refine Vw.iload (de_iload (B 63 _ rfl) (B 64 _ rfl)) 8 rfl (n := 65) rfl ?_
          refine Vw.iconst (v := 1) (de_iconst_1 (B 65 _ rfl)) rfl (n := 66) rfl ?_
          refine Vw.icmp_ne (tgt := 79) (n := 69) (de_icmp_ne (B 66 _ rfl) (B 67 _ rfl) (B 68 _ rfl)) rfl rfl (fun c_66 => ?_) (fun c_66 => ?_)
          · have h40b : ¬ 40 ≤ st.length := fun z => c_60 ((nI_leI (a := 40) (b := top) (by omega) (by omega)).mpr (by omega))
            refine Vw.aload_n (de_aload_0 (B 79 _ rfl)) 0 rfl (n := 80) rfl ?_
            refine Vw.getR (de_getfield (B 80 _ rfl) (B 81 _ rfl) (B 82 _ rfl)) fl_X6_15 rfl hu hst (n := 83) rfl ?_
            refine Vw.iload (de_iload (B 83 _ rfl) (B 84 _ rfl)) 5 rfl (n := 85) rfl ?_
            refine Vw.iload (de_iload (B 85 _ rfl) (B 86 _ rfl)) 8 rfl (n := 87) rfl ?_
            refine Vw.iconst (v := 1) (de_iconst_1 (B 87 _ rfl)) rfl (n := 88) rfl ?_
            refine Vw.icmp_ne (tgt := 100) (n := 91) (de_icmp_ne (B 88 _ rfl) (B 89 _ rfl) (B 90 _ rfl)) rfl rfl (fun c_88 => ?_) (fun c_88 => ?_)
            · refine Vw.iload (de_iload (B 100 _ rfl) (B 101 _ rfl)) 9 rfl (n := 102) rfl ?_
              refine Vw.i2l (de_i2l (B 102 _ rfl)) (n := 103) rfl ?_
              refine Vw.last (de_lastore (B 103 _ rfl)) hsk (vIx_n (k := top) (by simp only [nI_A, nI_M, Int32.zero_add, Int32.add_zero] <;> rfl) (by omega)) (n := 104) rfl ?_
              refine Vw.iinc (v := nI (top + 1)) (lv2 := [(0, _), (1, _), (2, _), (3, _), (4, _), (5, _), (6, _), (7, _), (8, _), (9, _)]) (de_iinc (B 104 _ rfl) (B 105 _ rfl) (B 106 _ rfl)) 5 rfl (nI_1 top) (by decide) [1, 2, 3, 4, 5, 0, 6, 7, 8, 9] rfl (n := 107) rfl ?_
              refine Vw.goto_ (n := 426) (de_goto_ (B 107 _ rfl) (B 108 _ rfl) (B 109 _ rfl)) rfl ?_
              refine Vw.lvs (lv2 := [(0, _), (1, _), (2, _), (3, _), (4, _), (5, _), (6, _), (7, _)]) [0, 1, 2, 3, 4, 5, 6, 7] rfl ?_
              exact nxt _ _ (top + 1) _ (ms_num hk h40b) (by simp only [List.length_cons]; omega) (by omega) fM.up ⟨by rw [up2_rl, ← ht, upL_s], by rw [up2_rl]; exact StR_up (by omega) sM⟩ (by simp only [List.length_cons]; omega)
            exact absurd c_88 (by decide)
          exact absurd c_66 (by decide)
        have d1 : (cw a).1 = 1 → Vw mX6_evaluate d 0 0 0 0 (ViQ Q) 50 [(0, .ref u), (1, .ref ca), (2, .int (nI a0)), (3, .int (nI to)), (4, .ref ka), (5, .int (nI top)), (6, .int (nI (a + 1))), (7, .int (nI i)), (8, .int 1), (9, .int (nI (cw a).2))] [] S I M := by
          intro hk
          refine Vw.iload (de_iload (B 50 _ rfl) (B 51 _ rfl)) 8 rfl (n := 52) rfl ?_
          refine Vw.iconst (v := 1) (de_iconst_1 (B 52 _ rfl)) rfl (n := 53) rfl ?_
          refine Vw.icmp_gt (tgt := 110) (n := 56) (de_icmp_gt (B 53 _ rfl) (B 54 _ rfl) (B 55 _ rfl)) rfl rfl (fun c_53 => ?_) (fun c_53 => ?_)
          · exact absurd c_53 (by decide)
          refine Vw.iload (de_iload (B 56 _ rfl) (B 57 _ rfl)) 5 rfl (n := 58) rfl ?_
          refine Vw.bipush (v := 40) (de_bipush (B 58 _ rfl) (B 59 _ rfl)) rfl (n := 60) rfl ?_
          refine Vw.icmp_ge (tgt := 77) (n := 63) (de_icmp_ge (B 60 _ rfl) (B 61 _ rfl) (B 62 _ rfl)) rfl rfl (fun c_60 => ?_) (fun c_60 => ?_)
          · refine Vw.iconst (v := 0) (de_iconst_0 (B 77 _ rfl)) rfl (n := 78) rfl ?_
            exact Vw.zret (de_ireturn (B 78 _ rfl)) rfl rfl ⟨_, rfl, (bad M fM (by first | exact ms_full (by omega) (by have := (nI_leI (a := 40) (b := top) (by omega) (by omega)).mp c_60; omega) | exact ms_wordN hk ((nI_leI (a := kl) (b := (cw a).2) (by omega) (by omega)).mp (Int32.not_lt.mp c_74))))⟩
          refine Vw.iload (de_iload (B 63 _ rfl) (B 64 _ rfl)) 8 rfl (n := 65) rfl ?_
          refine Vw.iconst (v := 1) (de_iconst_1 (B 65 _ rfl)) rfl (n := 66) rfl ?_
          refine Vw.icmp_ne (tgt := 79) (n := 69) (de_icmp_ne (B 66 _ rfl) (B 67 _ rfl) (B 68 _ rfl)) rfl rfl (fun c_66 => ?_) (fun c_66 => ?_)
          · exact absurd c_66 (by decide)
          refine Vw.iload (de_iload (B 69 _ rfl) (B 70 _ rfl)) 9 rfl (n := 71) rfl ?_
          refine Vw.aload (de_aload (B 71 _ rfl) (B 72 _ rfl)) 4 rfl (n := 73) rfl ?_
          refine Vw.alen (de_arraylength (B 73 _ rfl)) hka (i := nI kl) rfl (n := 74) rfl ?_
          refine Vw.icmp_lt (tgt := 79) (n := 77) (de_icmp_lt (B 74 _ rfl) (B 75 _ rfl) (B 76 _ rfl)) rfl rfl (fun c_74 => ?_) (fun c_74 => ?_)
          · have h40b : ¬ 40 ≤ st.length := fun z => c_60 ((nI_leI (a := 40) (b := top) (by omega) (by omega)).mpr (by omega))
            have hkr : (cw a).2 < kl := by rcases Nat.lt_or_ge (cw a).2 kl with z | z; exact z; exact absurd ((nI_leI (a := kl) (b := (cw a).2) (by omega) (by omega)).mpr z) (Int32.not_le.mpr c_74)
            refine Vw.aload_n (de_aload_0 (B 79 _ rfl)) 0 rfl (n := 80) rfl ?_
            refine Vw.getR (de_getfield (B 80 _ rfl) (B 81 _ rfl) (B 82 _ rfl)) fl_X6_15 rfl hu hst (n := 83) rfl ?_
            refine Vw.iload (de_iload (B 83 _ rfl) (B 84 _ rfl)) 5 rfl (n := 85) rfl ?_
            refine Vw.iload (de_iload (B 85 _ rfl) (B 86 _ rfl)) 8 rfl (n := 87) rfl ?_
            refine Vw.iconst (v := 1) (de_iconst_1 (B 87 _ rfl)) rfl (n := 88) rfl ?_
            refine Vw.icmp_ne (tgt := 100) (n := 91) (de_icmp_ne (B 88 _ rfl) (B 89 _ rfl) (B 90 _ rfl)) rfl rfl (fun c_88 => ?_) (fun c_88 => ?_)
            · exact absurd c_88 (by decide)
            refine Vw.aload (de_aload (B 91 _ rfl) (B 92 _ rfl)) 4 rfl (n := 93) rfl ?_
            refine Vw.iload (de_iload (B 93 _ rfl) (B 94 _ rfl)) 9 rfl (n := 95) rfl ?_
            refine Vw.iald (de_iaload (B 95 _ rfl)) hka (vIx_n (k := (cw a).2) rfl hkr (by omega)) (n := 96) rfl ?_
            rw [hnv _ hkr]
            refine Vw.i2l (de_i2l (B 96 _ rfl)) (n := 97) rfl ?_
            refine Vw.goto_ (n := 103) (de_goto_ (B 97 _ rfl) (B 98 _ rfl) (B 99 _ rfl)) rfl ?_
            refine Vw.last (de_lastore (B 103 _ rfl)) hsk (vIx_n (k := top) (by simp only [nI_A, nI_M, Int32.zero_add, Int32.add_zero] <;> rfl) (by omega)) (n := 104) rfl ?_
            refine Vw.iinc (v := nI (top + 1)) (lv2 := [(0, _), (1, _), (2, _), (3, _), (4, _), (5, _), (6, _), (7, _), (8, _), (9, _)]) (de_iinc (B 104 _ rfl) (B 105 _ rfl) (B 106 _ rfl)) 5 rfl (nI_1 top) (by decide) [1, 2, 3, 4, 5, 0, 6, 7, 8, 9] rfl (n := 107) rfl ?_
            refine Vw.goto_ (n := 426) (de_goto_ (B 107 _ rfl) (B 108 _ rfl) (B 109 _ rfl)) rfl ?_
            refine Vw.lvs (lv2 := [(0, _), (1, _), (2, _), (3, _), (4, _), (5, _), (6, _), (7, _)]) [0, 1, 2, 3, 4, 5, 6, 7] rfl ?_
            exact nxt _ _ (top + 1) _ (ms_word hk h40b hkr) (by simp only [List.length_cons]; omega) (by omega) fM.up ⟨by rw [up2_rl, ← ht, upL_s], by rw [up2_rl]; exact StR_up (by omega) sM⟩ (by simp only [List.length_cons]; omega)
          refine Vw.iconst (v := 0) (de_iconst_0 (B 77 _ rfl)) rfl (n := 78) rfl ?_
          exact Vw.zret (de_ireturn (B 78 _ rfl)) rfl rfl ⟨_, rfl, (bad M fM (by first | exact ms_full (by omega) (by have := (nI_leI (a := 40) (b := top) (by omega) (by omega)).mp c_60; omega) | exact ms_wordN hk ((nI_leI (a := kl) (b := (cw a).2) (by omega) (by omega)).mp (Int32.not_lt.mp c_74))))⟩
        have d2 : (cw a).1 = 2 → Vw mX6_evaluate d 0 0 0 0 (ViQ Q) 50 [(0, .ref u), (1, .ref ca), (2, .int (nI a0)), (3, .int (nI to)), (4, .ref ka), (5, .int (nI top)), (6, .int (nI (a + 1))), (7, .int (nI i)), (8, .int 2), (9, .int (nI (cw a).2))] [] S I M := by
          intro hk
          refine Vw.iload (de_iload (B 50 _ rfl) (B 51 _ rfl)) 8 rfl (n := 52) rfl ?_
          refine Vw.iconst (v := 1) (de_iconst_1 (B 52 _ rfl)) rfl (n := 53) rfl ?_
          refine Vw.icmp_gt (tgt := 110) (n := 56) (de_icmp_gt (B 53 _ rfl) (B 54 _ rfl) (B 55 _ rfl)) rfl rfl (fun c_53 => ?_) (fun c_53 => ?_)
          · refine Vw.iload (de_iload (B 110 _ rfl) (B 111 _ rfl)) 5 rfl (n := 112) rfl ?_
            refine Vw.iconst (v := 1) (de_iconst_1 (B 112 _ rfl)) rfl (n := 113) rfl ?_
            refine Vw.icmp_ge (tgt := 118) (n := 116) (de_icmp_ge (B 113 _ rfl) (B 114 _ rfl) (B 115 _ rfl)) rfl rfl (fun c_113 => ?_) (fun c_113 => ?_)
            · obtain ⟨v, r, hs⟩ : ∃ v r, st = v :: r := by
                cases st with
                | nil => have := (nI_leI (a := 1) (b := top) (by omega) (by omega)).mp c_113; simp at ht; omega
                | cons v r => exact ⟨v, r, rfl⟩
              have sM2 := sM
              have h402 := h40
              have ht2 := ht
              rw [hs] at sM2 h402 ht2
              simp only [List.length_cons] at h402 ht2
              have hl : r.length < 40 := by omega
              rw [ht2]
              refine Vw.iload (de_iload (B 118 _ rfl) (B 119 _ rfl)) 8 rfl (n := 120) rfl ?_
              refine Vw.iconst (v := 3) (de_iconst_3 (B 120 _ rfl)) rfl (n := 121) rfl ?_
              refine Vw.icmp_gt (tgt := 170) (n := 124) (de_icmp_gt (B 121 _ rfl) (B 122 _ rfl) (B 123 _ rfl)) rfl rfl (fun c_121 => ?_) (fun c_121 => ?_)
              · exact absurd c_121 (by decide)
              refine Vw.aload_n (de_aload_0 (B 124 _ rfl)) 0 rfl (n := 125) rfl ?_
              refine Vw.getR (de_getfield (B 125 _ rfl) (B 126 _ rfl) (B 127 _ rfl)) fl_X6_15 rfl hu hst (n := 128) rfl ?_
              refine Vw.iload (de_iload (B 128 _ rfl) (B 129 _ rfl)) 5 rfl (n := 130) rfl ?_
              refine Vw.iconst (v := 1) (de_iconst_1 (B 130 _ rfl)) rfl (n := 131) rfl ?_
              refine Vw.isub (de_isub (B 131 _ rfl)) (n := 132) rfl ?_
              rw [dn_p]
              refine Vw.lald (de_laload (B 132 _ rfl)) hsk (vIx_n (k := r.length) (by simp only [nI_A, nI_M, Int32.zero_add, Int32.add_zero] <;> rfl) (by omega)) (n := 133) rfl ?_
              rw [sM2.1]
              refine Vw.lconst (v := 0) (de_lconst_0 (B 133 _ rfl)) rfl (n := 134) rfl ?_
              refine Vw.lcmp (de_lcmp (B 134 _ rfl)) (n := 135) rfl ?_
              refine Vw.if_eq (tgt := 142) (n := 138) (de_if_eq (B 135 _ rfl) (B 136 _ rfl) (B 137 _ rfl)) rfl rfl (fun c_135 => ?_) (fun c_135 => ?_)
              · refine Vw.iconst (v := 0) (de_iconst_0 (B 142 _ rfl)) rfl (n := 143) rfl ?_
                refine Vw.iload (de_iload (B 143 _ rfl) (B 144 _ rfl)) 8 rfl (n := 145) rfl ?_
                refine Vw.iconst (v := 3) (de_iconst_3 (B 145 _ rfl)) rfl (n := 146) rfl ?_
                refine Vw.icmp_ne (tgt := 153) (n := 149) (de_icmp_ne (B 146 _ rfl) (B 147 _ rfl) (B 148 _ rfl)) rfl rfl (fun c_146 => ?_) (fun c_146 => ?_)
                · refine Vw.iconst (v := 0) (de_iconst_0 (B 153 _ rfl)) rfl (n := 154) rfl ?_
                  refine Vw.icmp_ne (tgt := 164) (n := 157) (de_icmp_ne (B 154 _ rfl) (B 155 _ rfl) (B 156 _ rfl)) rfl rfl (fun c_154 => ?_) (fun c_154 => ?_)
                  · exact absurd c_154 (by decide)
                  refine Vw.iload (de_iload (B 157 _ rfl) (B 158 _ rfl)) 9 rfl (n := 159) rfl ?_
                  refine Vw.istore (lv2 := [(0, _), (1, _), (2, _), (3, _), (4, _), (5, _), (6, _), (7, _), (8, _), (9, _)]) (de_istore (B 159 _ rfl) (B 160 _ rfl)) (by decide) [1, 2, 3, 4, 5, 6, 0, 7, 8, 9] rfl (n := 161) rfl ?_
                  refine Vw.goto_ (n := 426) (de_goto_ (B 161 _ rfl) (B 162 _ rfl) (B 163 _ rfl)) rfl ?_
                  refine Vw.lvs (lv2 := [(0, _), (1, _), (2, _), (3, _), (4, _), (5, _), (6, _), (7, _)]) [0, 1, 2, 3, 4, 5, 6, 7] rfl ?_
                  first
                  | exact nxt _ _ _ M (by rw [hs]; exact ms_and0 hk ((lg_cmp_eq _ _).mp c_135)) (by first | rfl | simp) (by omega) fM (by first | exact sM2 | exact sM2.2) (by first | omega | (simp only [List.length_cons]; omega))
                  | exact nxt _ _ _ M (by rw [hs]; exact ms_and1 hk (fun z => c_135 ((lg_cmp_eq _ _).mpr z))) (by first | rfl | simp) (by omega) fM (by first | exact sM2 | exact sM2.2) (by first | omega | (simp only [List.length_cons]; omega))
                exact absurd c_146 (by decide)
              refine Vw.iconst (v := 1) (de_iconst_1 (B 138 _ rfl)) rfl (n := 139) rfl ?_
              refine Vw.goto_ (n := 143) (de_goto_ (B 139 _ rfl) (B 140 _ rfl) (B 141 _ rfl)) rfl ?_
              refine Vw.iload (de_iload (B 143 _ rfl) (B 144 _ rfl)) 8 rfl (n := 145) rfl ?_
              refine Vw.iconst (v := 3) (de_iconst_3 (B 145 _ rfl)) rfl (n := 146) rfl ?_
              refine Vw.icmp_ne (tgt := 153) (n := 149) (de_icmp_ne (B 146 _ rfl) (B 147 _ rfl) (B 148 _ rfl)) rfl rfl (fun c_146 => ?_) (fun c_146 => ?_)
              · refine Vw.iconst (v := 0) (de_iconst_0 (B 153 _ rfl)) rfl (n := 154) rfl ?_
                refine Vw.icmp_ne (tgt := 164) (n := 157) (de_icmp_ne (B 154 _ rfl) (B 155 _ rfl) (B 156 _ rfl)) rfl rfl (fun c_154 => ?_) (fun c_154 => ?_)
                · refine Vw.iinc (v := nI r.length) (lv2 := [(0, _), (1, _), (2, _), (3, _), (4, _), (5, _), (6, _), (7, _), (8, _), (9, _)]) (de_iinc (B 164 _ rfl) (B 165 _ rfl) (B 166 _ rfl)) 5 rfl ((inc_m1 _).trans (dn_p _)) (by decide) [1, 2, 3, 4, 5, 0, 6, 7, 8, 9] rfl (n := 167) rfl ?_
                  refine Vw.goto_ (n := 426) (de_goto_ (B 167 _ rfl) (B 168 _ rfl) (B 169 _ rfl)) rfl ?_
                  refine Vw.lvs (lv2 := [(0, _), (1, _), (2, _), (3, _), (4, _), (5, _), (6, _), (7, _)]) [0, 1, 2, 3, 4, 5, 6, 7] rfl ?_
                  first
                  | exact nxt _ _ _ M (by rw [hs]; exact ms_and0 hk ((lg_cmp_eq _ _).mp c_135)) (by first | rfl | simp) (by omega) fM (by first | exact sM2 | exact sM2.2) (by first | omega | (simp only [List.length_cons]; omega))
                  | exact nxt _ _ _ M (by rw [hs]; exact ms_and1 hk (fun z => c_135 ((lg_cmp_eq _ _).mpr z))) (by first | rfl | simp) (by omega) fM (by first | exact sM2 | exact sM2.2) (by first | omega | (simp only [List.length_cons]; omega))
                exact absurd c_154 (by decide)
              exact absurd c_146 (by decide)
            refine Vw.iconst (v := 0) (de_iconst_0 (B 116 _ rfl)) rfl (n := 117) rfl ?_
            exact Vw.zret (de_ireturn (B 117 _ rfl)) rfl rfl ⟨_, rfl, (bad M fM (by cases st with | nil => exact ms_nil (by omega) | cons v r => exact absurd ((nI_leI (a := 1) (b := top) (by omega) (by omega)).mpr (by rw [ht]; simp)) c_113))⟩
          exact absurd c_53 (by decide)
        have d3 : (cw a).1 = 3 → Vw mX6_evaluate d 0 0 0 0 (ViQ Q) 50 [(0, .ref u), (1, .ref ca), (2, .int (nI a0)), (3, .int (nI to)), (4, .ref ka), (5, .int (nI top)), (6, .int (nI (a + 1))), (7, .int (nI i)), (8, .int 3), (9, .int (nI (cw a).2))] [] S I M := by
          intro hk
          refine Vw.iload (de_iload (B 50 _ rfl) (B 51 _ rfl)) 8 rfl (n := 52) rfl ?_
          refine Vw.iconst (v := 1) (de_iconst_1 (B 52 _ rfl)) rfl (n := 53) rfl ?_
          refine Vw.icmp_gt (tgt := 110) (n := 56) (de_icmp_gt (B 53 _ rfl) (B 54 _ rfl) (B 55 _ rfl)) rfl rfl (fun c_53 => ?_) (fun c_53 => ?_)
          · refine Vw.iload (de_iload (B 110 _ rfl) (B 111 _ rfl)) 5 rfl (n := 112) rfl ?_
            refine Vw.iconst (v := 1) (de_iconst_1 (B 112 _ rfl)) rfl (n := 113) rfl ?_
            refine Vw.icmp_ge (tgt := 118) (n := 116) (de_icmp_ge (B 113 _ rfl) (B 114 _ rfl) (B 115 _ rfl)) rfl rfl (fun c_113 => ?_) (fun c_113 => ?_)
            · obtain ⟨v, r, hs⟩ : ∃ v r, st = v :: r := by
                cases st with
                | nil => have := (nI_leI (a := 1) (b := top) (by omega) (by omega)).mp c_113; simp at ht; omega
                | cons v r => exact ⟨v, r, rfl⟩
              have sM2 := sM
              have h402 := h40
              have ht2 := ht
              rw [hs] at sM2 h402 ht2
              simp only [List.length_cons] at h402 ht2
              have hl : r.length < 40 := by omega
              rw [ht2]
              refine Vw.iload (de_iload (B 118 _ rfl) (B 119 _ rfl)) 8 rfl (n := 120) rfl ?_
              refine Vw.iconst (v := 3) (de_iconst_3 (B 120 _ rfl)) rfl (n := 121) rfl ?_
              refine Vw.icmp_gt (tgt := 170) (n := 124) (de_icmp_gt (B 121 _ rfl) (B 122 _ rfl) (B 123 _ rfl)) rfl rfl (fun c_121 => ?_) (fun c_121 => ?_)
              · exact absurd c_121 (by decide)
              refine Vw.aload_n (de_aload_0 (B 124 _ rfl)) 0 rfl (n := 125) rfl ?_
              refine Vw.getR (de_getfield (B 125 _ rfl) (B 126 _ rfl) (B 127 _ rfl)) fl_X6_15 rfl hu hst (n := 128) rfl ?_
              refine Vw.iload (de_iload (B 128 _ rfl) (B 129 _ rfl)) 5 rfl (n := 130) rfl ?_
              refine Vw.iconst (v := 1) (de_iconst_1 (B 130 _ rfl)) rfl (n := 131) rfl ?_
              refine Vw.isub (de_isub (B 131 _ rfl)) (n := 132) rfl ?_
              rw [dn_p]
              refine Vw.lald (de_laload (B 132 _ rfl)) hsk (vIx_n (k := r.length) (by simp only [nI_A, nI_M, Int32.zero_add, Int32.add_zero] <;> rfl) (by omega)) (n := 133) rfl ?_
              rw [sM2.1]
              refine Vw.lconst (v := 0) (de_lconst_0 (B 133 _ rfl)) rfl (n := 134) rfl ?_
              refine Vw.lcmp (de_lcmp (B 134 _ rfl)) (n := 135) rfl ?_
              refine Vw.if_eq (tgt := 142) (n := 138) (de_if_eq (B 135 _ rfl) (B 136 _ rfl) (B 137 _ rfl)) rfl rfl (fun c_135 => ?_) (fun c_135 => ?_)
              · refine Vw.iconst (v := 0) (de_iconst_0 (B 142 _ rfl)) rfl (n := 143) rfl ?_
                refine Vw.iload (de_iload (B 143 _ rfl) (B 144 _ rfl)) 8 rfl (n := 145) rfl ?_
                refine Vw.iconst (v := 3) (de_iconst_3 (B 145 _ rfl)) rfl (n := 146) rfl ?_
                refine Vw.icmp_ne (tgt := 153) (n := 149) (de_icmp_ne (B 146 _ rfl) (B 147 _ rfl) (B 148 _ rfl)) rfl rfl (fun c_146 => ?_) (fun c_146 => ?_)
                · exact absurd c_146 (by decide)
                refine Vw.iconst (v := 1) (de_iconst_1 (B 149 _ rfl)) rfl (n := 150) rfl ?_
                refine Vw.goto_ (n := 154) (de_goto_ (B 150 _ rfl) (B 151 _ rfl) (B 152 _ rfl)) rfl ?_
                refine Vw.icmp_ne (tgt := 164) (n := 157) (de_icmp_ne (B 154 _ rfl) (B 155 _ rfl) (B 156 _ rfl)) rfl rfl (fun c_154 => ?_) (fun c_154 => ?_)
                · refine Vw.iinc (v := nI r.length) (lv2 := [(0, _), (1, _), (2, _), (3, _), (4, _), (5, _), (6, _), (7, _), (8, _), (9, _)]) (de_iinc (B 164 _ rfl) (B 165 _ rfl) (B 166 _ rfl)) 5 rfl ((inc_m1 _).trans (dn_p _)) (by decide) [1, 2, 3, 4, 5, 0, 6, 7, 8, 9] rfl (n := 167) rfl ?_
                  refine Vw.goto_ (n := 426) (de_goto_ (B 167 _ rfl) (B 168 _ rfl) (B 169 _ rfl)) rfl ?_
                  refine Vw.lvs (lv2 := [(0, _), (1, _), (2, _), (3, _), (4, _), (5, _), (6, _), (7, _)]) [0, 1, 2, 3, 4, 5, 6, 7] rfl ?_
                  first
                  | exact nxt _ _ _ M (by rw [hs]; exact ms_or0 hk ((lg_cmp_eq _ _).mp c_135)) (by first | rfl | simp) (by omega) fM (by first | exact sM2 | exact sM2.2) (by first | omega | (simp only [List.length_cons]; omega))
                  | exact nxt _ _ _ M (by rw [hs]; exact ms_or1 hk (fun z => c_135 ((lg_cmp_eq _ _).mpr z))) (by first | rfl | simp) (by omega) fM (by first | exact sM2 | exact sM2.2) (by first | omega | (simp only [List.length_cons]; omega))
                exact absurd c_154 (by decide)
              refine Vw.iconst (v := 1) (de_iconst_1 (B 138 _ rfl)) rfl (n := 139) rfl ?_
              refine Vw.goto_ (n := 143) (de_goto_ (B 139 _ rfl) (B 140 _ rfl) (B 141 _ rfl)) rfl ?_
              refine Vw.iload (de_iload (B 143 _ rfl) (B 144 _ rfl)) 8 rfl (n := 145) rfl ?_
              refine Vw.iconst (v := 3) (de_iconst_3 (B 145 _ rfl)) rfl (n := 146) rfl ?_
              refine Vw.icmp_ne (tgt := 153) (n := 149) (de_icmp_ne (B 146 _ rfl) (B 147 _ rfl) (B 148 _ rfl)) rfl rfl (fun c_146 => ?_) (fun c_146 => ?_)
              · exact absurd c_146 (by decide)
              refine Vw.iconst (v := 1) (de_iconst_1 (B 149 _ rfl)) rfl (n := 150) rfl ?_
              refine Vw.goto_ (n := 154) (de_goto_ (B 150 _ rfl) (B 151 _ rfl) (B 152 _ rfl)) rfl ?_
              refine Vw.icmp_ne (tgt := 164) (n := 157) (de_icmp_ne (B 154 _ rfl) (B 155 _ rfl) (B 156 _ rfl)) rfl rfl (fun c_154 => ?_) (fun c_154 => ?_)
              · exact absurd c_154 (by decide)
              refine Vw.iload (de_iload (B 157 _ rfl) (B 158 _ rfl)) 9 rfl (n := 159) rfl ?_
              refine Vw.istore (lv2 := [(0, _), (1, _), (2, _), (3, _), (4, _), (5, _), (6, _), (7, _), (8, _), (9, _)]) (de_istore (B 159 _ rfl) (B 160 _ rfl)) (by decide) [1, 2, 3, 4, 5, 6, 0, 7, 8, 9] rfl (n := 161) rfl ?_
              refine Vw.goto_ (n := 426) (de_goto_ (B 161 _ rfl) (B 162 _ rfl) (B 163 _ rfl)) rfl ?_
              refine Vw.lvs (lv2 := [(0, _), (1, _), (2, _), (3, _), (4, _), (5, _), (6, _), (7, _)]) [0, 1, 2, 3, 4, 5, 6, 7] rfl ?_
              first
              | exact nxt _ _ _ M (by rw [hs]; exact ms_or0 hk ((lg_cmp_eq _ _).mp c_135)) (by first | rfl | simp) (by omega) fM (by first | exact sM2 | exact sM2.2) (by first | omega | (simp only [List.length_cons]; omega))
              | exact nxt _ _ _ M (by rw [hs]; exact ms_or1 hk (fun z => c_135 ((lg_cmp_eq _ _).mpr z))) (by first | rfl | simp) (by omega) fM (by first | exact sM2 | exact sM2.2) (by first | omega | (simp only [List.length_cons]; omega))
            refine Vw.iconst (v := 0) (de_iconst_0 (B 116 _ rfl)) rfl (n := 117) rfl ?_
            exact Vw.zret (de_ireturn (B 117 _ rfl)) rfl rfl ⟨_, rfl, (bad M fM (by cases st with | nil => exact ms_nil (by omega) | cons v r => exact absurd ((nI_leI (a := 1) (b := top) (by omega) (by omega)).mpr (by rw [ht]; simp)) c_113))⟩
          exact absurd c_53 (by decide)
        have d4 : (cw a).1 = 4 → Vw mX6_evaluate d 0 0 0 0 (ViQ Q) 50 [(0, .ref u), (1, .ref ca), (2, .int (nI a0)), (3, .int (nI to)), (4, .ref ka), (5, .int (nI top)), (6, .int (nI (a + 1))), (7, .int (nI i)), (8, .int 4), (9, .int (nI (cw a).2))] [] S I M := by
          intro hk
          refine Vw.iload (de_iload (B 50 _ rfl) (B 51 _ rfl)) 8 rfl (n := 52) rfl ?_
          refine Vw.iconst (v := 1) (de_iconst_1 (B 52 _ rfl)) rfl (n := 53) rfl ?_
          refine Vw.icmp_gt (tgt := 110) (n := 56) (de_icmp_gt (B 53 _ rfl) (B 54 _ rfl) (B 55 _ rfl)) rfl rfl (fun c_53 => ?_) (fun c_53 => ?_)
          · refine Vw.iload (de_iload (B 110 _ rfl) (B 111 _ rfl)) 5 rfl (n := 112) rfl ?_
            refine Vw.iconst (v := 1) (de_iconst_1 (B 112 _ rfl)) rfl (n := 113) rfl ?_
            refine Vw.icmp_ge (tgt := 118) (n := 116) (de_icmp_ge (B 113 _ rfl) (B 114 _ rfl) (B 115 _ rfl)) rfl rfl (fun c_113 => ?_) (fun c_113 => ?_)
            · obtain ⟨v, r, hs⟩ : ∃ v r, st = v :: r := by
                cases st with
                | nil => have := (nI_leI (a := 1) (b := top) (by omega) (by omega)).mp c_113; simp at ht; omega
                | cons v r => exact ⟨v, r, rfl⟩
              have sM2 := sM
              have h402 := h40
              have ht2 := ht
              rw [hs] at sM2 h402 ht2
              simp only [List.length_cons] at h402 ht2
              have hl : r.length < 40 := by omega
              rw [ht2]
              refine Vw.iload (de_iload (B 118 _ rfl) (B 119 _ rfl)) 8 rfl (n := 120) rfl ?_
              refine Vw.iconst (v := 3) (de_iconst_3 (B 120 _ rfl)) rfl (n := 121) rfl ?_
              refine Vw.icmp_gt (tgt := 170) (n := 124) (de_icmp_gt (B 121 _ rfl) (B 122 _ rfl) (B 123 _ rfl)) rfl rfl (fun c_121 => ?_) (fun c_121 => ?_)
              · refine Vw.iload (de_iload (B 170 _ rfl) (B 171 _ rfl)) 8 rfl (n := 172) rfl ?_
                refine Vw.iconst (v := 4) (de_iconst_4 (B 172 _ rfl)) rfl (n := 173) rfl ?_
                refine Vw.icmp_ne (tgt := 199) (n := 176) (de_icmp_ne (B 173 _ rfl) (B 174 _ rfl) (B 175 _ rfl)) rfl rfl (fun c_173 => ?_) (fun c_173 => ?_)
                · exact absurd c_173 (by decide)
                refine Vw.aload_n (de_aload_0 (B 176 _ rfl)) 0 rfl (n := 177) rfl ?_
                refine Vw.getR (de_getfield (B 177 _ rfl) (B 178 _ rfl) (B 179 _ rfl)) fl_X6_15 rfl hu hst (n := 180) rfl ?_
                refine Vw.iload (de_iload (B 180 _ rfl) (B 181 _ rfl)) 5 rfl (n := 182) rfl ?_
                refine Vw.iconst (v := 1) (de_iconst_1 (B 182 _ rfl)) rfl (n := 183) rfl ?_
                refine Vw.isub (de_isub (B 183 _ rfl)) (n := 184) rfl ?_
                rw [dn_p]
                refine Vw.lconst (v := 1) (de_lconst_1 (B 184 _ rfl)) rfl (n := 185) rfl ?_
                refine Vw.aload_n (de_aload_0 (B 185 _ rfl)) 0 rfl (n := 186) rfl ?_
                refine Vw.getR (de_getfield (B 186 _ rfl) (B 187 _ rfl) (B 188 _ rfl)) fl_X6_15 rfl hu hst (n := 189) rfl ?_
                refine Vw.iload (de_iload (B 189 _ rfl) (B 190 _ rfl)) 5 rfl (n := 191) rfl ?_
                refine Vw.iconst (v := 1) (de_iconst_1 (B 191 _ rfl)) rfl (n := 192) rfl ?_
                refine Vw.isub (de_isub (B 192 _ rfl)) (n := 193) rfl ?_
                rw [dn_p]
                refine Vw.lald (de_laload (B 193 _ rfl)) hsk (vIx_n (k := r.length) (by simp only [nI_A, nI_M, Int32.zero_add, Int32.add_zero] <;> rfl) (by omega)) (n := 194) rfl ?_
                rw [sM2.1]
                refine Vw.lsub (de_lsub (B 194 _ rfl)) (n := 195) rfl ?_
                refine Vw.last (de_lastore (B 195 _ rfl)) hsk (vIx_n (k := r.length) (by simp only [nI_A, nI_M, Int32.zero_add, Int32.add_zero] <;> rfl) (by omega)) (n := 196) rfl ?_
                refine Vw.goto_ (n := 426) (de_goto_ (B 196 _ rfl) (B 197 _ rfl) (B 198 _ rfl)) rfl ?_
                refine Vw.lvs (lv2 := [(0, _), (1, _), (2, _), (3, _), (4, _), (5, _), (6, _), (7, _)]) [0, 1, 2, 3, 4, 5, 6, 7] rfl ?_
                exact nxt _ ((1 - v) :: r) _ _ (by rw [hs]; exact ms_not hk) (by simp) (by omega) fM.up ⟨by rw [up2_rl, upL_s], by rw [up2_rl]; exact StR_up (Nat.le_refl _) sM2.2⟩ (by simp only [List.length_cons]; omega)
              exact absurd c_121 (by decide)
            refine Vw.iconst (v := 0) (de_iconst_0 (B 116 _ rfl)) rfl (n := 117) rfl ?_
            exact Vw.zret (de_ireturn (B 117 _ rfl)) rfl rfl ⟨_, rfl, (bad M fM (by cases st with | nil => exact ms_nil (by omega) | cons v r => exact absurd ((nI_leI (a := 1) (b := top) (by omega) (by omega)).mpr (by rw [ht]; simp)) c_113))⟩
          exact absurd c_53 (by decide)
        have j395 : ∀ v w r x, st = v :: w :: r → 5 ≤ (cw a).1 → arOp (cw a).1 w v = tBnd x → Vw mX6_evaluate d 0 0 0 0 (ViQ Q) 395 [(0, .ref u), (1, .ref ca), (2, .int (nI a0)), (3, .int (nI to)), (4, .ref ka), (5, .int (nI (r.length + 1))), (6, .int (nI (a + 1))), (7, .int (nI i)), (14, .long x)] [] S I M := by
          intro v w r x hs h5 hx
          have sM2 := sM
          have h402 := h40
          rw [hs] at sM2 h402
          have hl : r.length + 1 < 40 := by simp only [List.length_cons] at h402; omega
          refine Vw.lload (de_lload (B 395 _ rfl) (B 396 _ rfl)) 8 rfl (n := 397) rfl ?_
          refine Vw.ldc2 (de_ldc2_w (B 397 _ rfl) (B 398 _ rfl) (B 399 _ rfl)) kc_X6_121 (n := 400) rfl ?_
          refine Vw.lcmp (de_lcmp (B 400 _ rfl)) (n := 401) rfl ?_
          refine Vw.if_gt (tgt := 413) (n := 404) (de_if_gt (B 401 _ rfl) (B 402 _ rfl) (B 403 _ rfl)) rfl rfl (fun c_401 => ?_) (fun c_401 => ?_)
          · refine Vw.iconst (v := 0) (de_iconst_0 (B 413 _ rfl)) rfl (n := 414) rfl ?_
            exact Vw.zret (de_ireturn (B 414 _ rfl)) rfl rfl ⟨_, rfl, (bad M fM (by rw [hs]; exact ms_arN h5 (hx.trans (tBnd_n (by first | exact Or.inl ((lg_cmp_gt _ _).mp c_401) | exact Or.inr (Int64.not_le.mp (fun z => c_410 ((lg_cmp_ge _ _).mpr z))))))))⟩
          refine Vw.lload (de_lload (B 404 _ rfl) (B 405 _ rfl)) 8 rfl (n := 406) rfl ?_
          refine Vw.ldc2 (de_ldc2_w (B 406 _ rfl) (B 407 _ rfl) (B 408 _ rfl)) kc_X6_123 (n := 409) rfl ?_
          refine Vw.lcmp (de_lcmp (B 409 _ rfl)) (n := 410) rfl ?_
          refine Vw.if_ge (tgt := 415) (n := 413) (de_if_ge (B 410 _ rfl) (B 411 _ rfl) (B 412 _ rfl)) rfl rfl (fun c_410 => ?_) (fun c_410 => ?_)
          · refine Vw.aload_n (de_aload_0 (B 415 _ rfl)) 0 rfl (n := 416) rfl ?_
            refine Vw.getR (de_getfield (B 416 _ rfl) (B 417 _ rfl) (B 418 _ rfl)) fl_X6_15 rfl hu hst (n := 419) rfl ?_
            refine Vw.iload (de_iload (B 419 _ rfl) (B 420 _ rfl)) 5 rfl (n := 421) rfl ?_
            refine Vw.iconst (v := 1) (de_iconst_1 (B 421 _ rfl)) rfl (n := 422) rfl ?_
            refine Vw.isub (de_isub (B 422 _ rfl)) (n := 423) rfl ?_
            rw [dn_p]
            refine Vw.lload (de_lload (B 423 _ rfl) (B 424 _ rfl)) 8 rfl (n := 425) rfl ?_
            refine Vw.last (de_lastore (B 425 _ rfl)) hsk (vIx_n (k := r.length) (by simp only [nI_A, nI_M, Int32.zero_add, Int32.add_zero] <;> rfl) (by omega)) (n := 426) rfl ?_
            refine Vw.lvs (lv2 := [(0, _), (1, _), (2, _), (3, _), (4, _), (5, _), (6, _), (7, _)]) [0, 1, 2, 3, 4, 5, 6, 7] rfl ?_
            exact nxt _ (x :: r) _ _ (by rw [hs]; exact ms_ar h5 (hx.trans (tBnd_s (fun z => c_401 ((lg_cmp_gt _ _).mpr z)) (Int64.not_lt.mpr ((lg_cmp_ge _ _).mp c_410))))) (by simp) (by omega) fM.up ⟨by rw [up2_rl, upL_s], by rw [up2_rl]; exact StR_up (Nat.le_refl _) sM2.2.2⟩ (by simp only [List.length_cons]; omega)
          refine Vw.iconst (v := 0) (de_iconst_0 (B 413 _ rfl)) rfl (n := 414) rfl ?_
          exact Vw.zret (de_ireturn (B 414 _ rfl)) rfl rfl ⟨_, rfl, (bad M fM (by rw [hs]; exact ms_arN h5 (hx.trans (tBnd_n (by first | exact Or.inl ((lg_cmp_gt _ _).mp c_401) | exact Or.inr (Int64.not_le.mp (fun z => c_410 ((lg_cmp_ge _ _).mpr z))))))))⟩
        have d5 : (cw a).1 = 5 → Vw mX6_evaluate d 0 0 0 0 (ViQ Q) 50 [(0, .ref u), (1, .ref ca), (2, .int (nI a0)), (3, .int (nI to)), (4, .ref ka), (5, .int (nI top)), (6, .int (nI (a + 1))), (7, .int (nI i)), (8, .int 5), (9, .int (nI (cw a).2))] [] S I M := by
          intro hk
          refine Vw.iload (de_iload (B 50 _ rfl) (B 51 _ rfl)) 8 rfl (n := 52) rfl ?_
          refine Vw.iconst (v := 1) (de_iconst_1 (B 52 _ rfl)) rfl (n := 53) rfl ?_
          refine Vw.icmp_gt (tgt := 110) (n := 56) (de_icmp_gt (B 53 _ rfl) (B 54 _ rfl) (B 55 _ rfl)) rfl rfl (fun c_53 => ?_) (fun c_53 => ?_)
          · refine Vw.iload (de_iload (B 110 _ rfl) (B 111 _ rfl)) 5 rfl (n := 112) rfl ?_
            refine Vw.iconst (v := 1) (de_iconst_1 (B 112 _ rfl)) rfl (n := 113) rfl ?_
            refine Vw.icmp_ge (tgt := 118) (n := 116) (de_icmp_ge (B 113 _ rfl) (B 114 _ rfl) (B 115 _ rfl)) rfl rfl (fun c_113 => ?_) (fun c_113 => ?_)
            · skip
              refine Vw.iload (de_iload (B 118 _ rfl) (B 119 _ rfl)) 8 rfl (n := 120) rfl ?_
              refine Vw.iconst (v := 3) (de_iconst_3 (B 120 _ rfl)) rfl (n := 121) rfl ?_
              refine Vw.icmp_gt (tgt := 170) (n := 124) (de_icmp_gt (B 121 _ rfl) (B 122 _ rfl) (B 123 _ rfl)) rfl rfl (fun c_121 => ?_) (fun c_121 => ?_)
              · refine Vw.iload (de_iload (B 170 _ rfl) (B 171 _ rfl)) 8 rfl (n := 172) rfl ?_
                refine Vw.iconst (v := 4) (de_iconst_4 (B 172 _ rfl)) rfl (n := 173) rfl ?_
                refine Vw.icmp_ne (tgt := 199) (n := 176) (de_icmp_ne (B 173 _ rfl) (B 174 _ rfl) (B 175 _ rfl)) rfl rfl (fun c_173 => ?_) (fun c_173 => ?_)
                · refine Vw.iload (de_iload (B 199 _ rfl) (B 200 _ rfl)) 5 rfl (n := 201) rfl ?_
                  refine Vw.iconst (v := 2) (de_iconst_2 (B 201 _ rfl)) rfl (n := 202) rfl ?_
                  refine Vw.icmp_ge (tgt := 207) (n := 205) (de_icmp_ge (B 202 _ rfl) (B 203 _ rfl) (B 204 _ rfl)) rfl rfl (fun c_202 => ?_) (fun c_202 => ?_)
                  · obtain ⟨v, w, r, hs⟩ : ∃ v w r, st = v :: w :: r := by
                      have z := (nI_leI (a := 2) (b := top) (by omega) (by omega)).mp c_202
                      cases st with
                      | nil => simp at ht; omega
                      | cons v r => cases r with
                        | nil => simp at ht; omega
                        | cons w r => exact ⟨v, w, r, rfl⟩
                    have sM2 := sM
                    have h402 := h40
                    have ht2 := ht
                    rw [hs] at sM2 h402 ht2
                    simp only [List.length_cons] at h402 ht2
                    have ht3 : top = r.length + 2 := by omega
                    rw [ht3]
                    refine Vw.iinc (v := nI (r.length + 1)) (lv2 := [(0, _), (1, _), (2, _), (3, _), (4, _), (5, _), (6, _), (7, _), (8, _), (9, _)]) (de_iinc (B 207 _ rfl) (B 208 _ rfl) (B 209 _ rfl)) 5 rfl ((inc_m1 _).trans (dn_p _)) (by decide) [1, 2, 3, 4, 5, 0, 6, 7, 8, 9] rfl (n := 210) rfl ?_
                    refine Vw.aload_n (de_aload_0 (B 210 _ rfl)) 0 rfl (n := 211) rfl ?_
                    refine Vw.getR (de_getfield (B 211 _ rfl) (B 212 _ rfl) (B 213 _ rfl)) fl_X6_15 rfl hu hst (n := 214) rfl ?_
                    refine Vw.iload (de_iload (B 214 _ rfl) (B 215 _ rfl)) 5 rfl (n := 216) rfl ?_
                    refine Vw.iconst (v := 1) (de_iconst_1 (B 216 _ rfl)) rfl (n := 217) rfl ?_
                    refine Vw.isub (de_isub (B 217 _ rfl)) (n := 218) rfl ?_
                    rw [dn_p]
                    refine Vw.lald (de_laload (B 218 _ rfl)) hsk (vIx_n (k := r.length) (by simp only [nI_A, nI_M, Int32.zero_add, Int32.add_zero] <;> rfl) (by omega)) (n := 219) rfl ?_
                    rw [sM2.2.1]
                    refine Vw.lstore (lv2 := [(0, _), (1, _), (2, _), (3, _), (4, _), (5, _), (6, _), (7, _), (8, _), (9, _), (10, _)]) (de_lstore (B 219 _ rfl) (B 220 _ rfl)) (by decide) [1, 2, 3, 4, 5, 6, 7, 8, 9, 10, 0] rfl (n := 221) rfl ?_
                    refine Vw.aload_n (de_aload_0 (B 221 _ rfl)) 0 rfl (n := 222) rfl ?_
                    refine Vw.getR (de_getfield (B 222 _ rfl) (B 223 _ rfl) (B 224 _ rfl)) fl_X6_15 rfl hu hst (n := 225) rfl ?_
                    refine Vw.iload (de_iload (B 225 _ rfl) (B 226 _ rfl)) 5 rfl (n := 227) rfl ?_
                    refine Vw.lald (de_laload (B 227 _ rfl)) hsk (vIx_n (k := r.length + 1) (by simp only [nI_A, nI_M, Int32.zero_add, Int32.add_zero] <;> rfl) (by omega)) (n := 228) rfl ?_
                    rw [show M (u + 2) (r.length + 1) = v from sM2.1]
                    refine Vw.lstore (lv2 := [(0, _), (1, _), (2, _), (3, _), (4, _), (5, _), (6, _), (7, _), (8, _), (9, _), (10, _), (12, _)]) (de_lstore (B 228 _ rfl) (B 229 _ rfl)) (by decide) [1, 2, 3, 4, 5, 6, 7, 8, 9, 10, 11, 0] rfl (n := 230) rfl ?_
                    refine Vw.iload (de_iload (B 230 _ rfl) (B 231 _ rfl)) 8 rfl (n := 232) rfl ?_
                    have hts_232 : decode mX6_evaluate.2.1 232 = .ok (.tableswitch 132 5 12 #[48, 58, 68, 132, 132, 78, 96, 114], 48) := by decide +kernel
                    refine Vw.tsIn (n := 280) hts_232 (by decide) (by decide) rfl rfl ?_
                    refine Vw.lload (de_lload (B 280 _ rfl) (B 281 _ rfl)) 10 rfl (n := 282) rfl ?_
                    refine Vw.lload (de_lload (B 282 _ rfl) (B 283 _ rfl)) 11 rfl (n := 284) rfl ?_
                    refine Vw.ladd (de_ladd (B 284 _ rfl)) (n := 285) rfl ?_
                    refine Vw.lstore (lv2 := [(0, _), (1, _), (2, _), (3, _), (4, _), (5, _), (6, _), (7, _), (8, _), (9, _), (10, _), (12, _), (14, _)]) (de_lstore (B 285 _ rfl) (B 286 _ rfl)) (by decide) [1, 2, 3, 4, 5, 6, 7, 8, 9, 10, 11, 12, 0] rfl (n := 287) rfl ?_
                    refine Vw.goto_ (n := 395) (de_goto_ (B 287 _ rfl) (B 288 _ rfl) (B 289 _ rfl)) rfl ?_
                    refine Vw.lvs (lv2 := [(0, _), (1, _), (2, _), (3, _), (4, _), (5, _), (6, _), (7, _), (14, _)]) [0, 1, 2, 3, 4, 5, 6, 7, 12] rfl ?_
                    exact j395 v w r _ hs (by omega) (by rw [hk]; unfold arOp; rw [if_pos rfl])
                  refine Vw.iconst (v := 0) (de_iconst_0 (B 205 _ rfl)) rfl (n := 206) rfl ?_
                  exact Vw.zret (de_ireturn (B 206 _ rfl)) rfl rfl ⟨_, rfl, (bad M fM (by
    cases st with
    | nil => exact ms_nil (by omega)
    | cons v r => cases r with
      | nil => exact ms_one (by omega)
      | cons w r => exact absurd ((nI_leI (a := 2) (b := top) (by omega) (by omega)).mpr (by rw [ht]; simp)) c_202))⟩
                exact absurd c_173 (by decide)
              exact absurd c_121 (by decide)
            refine Vw.iconst (v := 0) (de_iconst_0 (B 116 _ rfl)) rfl (n := 117) rfl ?_
            exact Vw.zret (de_ireturn (B 117 _ rfl)) rfl rfl ⟨_, rfl, (bad M fM (by cases st with | nil => exact ms_nil (by omega) | cons v r => exact absurd ((nI_leI (a := 1) (b := top) (by omega) (by omega)).mpr (by rw [ht]; simp)) c_113))⟩
          exact absurd c_53 (by decide)
        have d6 : (cw a).1 = 6 → Vw mX6_evaluate d 0 0 0 0 (ViQ Q) 50 [(0, .ref u), (1, .ref ca), (2, .int (nI a0)), (3, .int (nI to)), (4, .ref ka), (5, .int (nI top)), (6, .int (nI (a + 1))), (7, .int (nI i)), (8, .int 6), (9, .int (nI (cw a).2))] [] S I M := by
          intro hk
          refine Vw.iload (de_iload (B 50 _ rfl) (B 51 _ rfl)) 8 rfl (n := 52) rfl ?_
          refine Vw.iconst (v := 1) (de_iconst_1 (B 52 _ rfl)) rfl (n := 53) rfl ?_
          refine Vw.icmp_gt (tgt := 110) (n := 56) (de_icmp_gt (B 53 _ rfl) (B 54 _ rfl) (B 55 _ rfl)) rfl rfl (fun c_53 => ?_) (fun c_53 => ?_)
          · refine Vw.iload (de_iload (B 110 _ rfl) (B 111 _ rfl)) 5 rfl (n := 112) rfl ?_
            refine Vw.iconst (v := 1) (de_iconst_1 (B 112 _ rfl)) rfl (n := 113) rfl ?_
            refine Vw.icmp_ge (tgt := 118) (n := 116) (de_icmp_ge (B 113 _ rfl) (B 114 _ rfl) (B 115 _ rfl)) rfl rfl (fun c_113 => ?_) (fun c_113 => ?_)
            · skip
              refine Vw.iload (de_iload (B 118 _ rfl) (B 119 _ rfl)) 8 rfl (n := 120) rfl ?_
              refine Vw.iconst (v := 3) (de_iconst_3 (B 120 _ rfl)) rfl (n := 121) rfl ?_
              refine Vw.icmp_gt (tgt := 170) (n := 124) (de_icmp_gt (B 121 _ rfl) (B 122 _ rfl) (B 123 _ rfl)) rfl rfl (fun c_121 => ?_) (fun c_121 => ?_)
              · refine Vw.iload (de_iload (B 170 _ rfl) (B 171 _ rfl)) 8 rfl (n := 172) rfl ?_
                refine Vw.iconst (v := 4) (de_iconst_4 (B 172 _ rfl)) rfl (n := 173) rfl ?_
                refine Vw.icmp_ne (tgt := 199) (n := 176) (de_icmp_ne (B 173 _ rfl) (B 174 _ rfl) (B 175 _ rfl)) rfl rfl (fun c_173 => ?_) (fun c_173 => ?_)
                · refine Vw.iload (de_iload (B 199 _ rfl) (B 200 _ rfl)) 5 rfl (n := 201) rfl ?_
                  refine Vw.iconst (v := 2) (de_iconst_2 (B 201 _ rfl)) rfl (n := 202) rfl ?_
                  refine Vw.icmp_ge (tgt := 207) (n := 205) (de_icmp_ge (B 202 _ rfl) (B 203 _ rfl) (B 204 _ rfl)) rfl rfl (fun c_202 => ?_) (fun c_202 => ?_)
                  · obtain ⟨v, w, r, hs⟩ : ∃ v w r, st = v :: w :: r := by
                      have z := (nI_leI (a := 2) (b := top) (by omega) (by omega)).mp c_202
                      cases st with
                      | nil => simp at ht; omega
                      | cons v r => cases r with
                        | nil => simp at ht; omega
                        | cons w r => exact ⟨v, w, r, rfl⟩
                    have sM2 := sM
                    have h402 := h40
                    have ht2 := ht
                    rw [hs] at sM2 h402 ht2
                    simp only [List.length_cons] at h402 ht2
                    have ht3 : top = r.length + 2 := by omega
                    rw [ht3]
                    refine Vw.iinc (v := nI (r.length + 1)) (lv2 := [(0, _), (1, _), (2, _), (3, _), (4, _), (5, _), (6, _), (7, _), (8, _), (9, _)]) (de_iinc (B 207 _ rfl) (B 208 _ rfl) (B 209 _ rfl)) 5 rfl ((inc_m1 _).trans (dn_p _)) (by decide) [1, 2, 3, 4, 5, 0, 6, 7, 8, 9] rfl (n := 210) rfl ?_
                    refine Vw.aload_n (de_aload_0 (B 210 _ rfl)) 0 rfl (n := 211) rfl ?_
                    refine Vw.getR (de_getfield (B 211 _ rfl) (B 212 _ rfl) (B 213 _ rfl)) fl_X6_15 rfl hu hst (n := 214) rfl ?_
                    refine Vw.iload (de_iload (B 214 _ rfl) (B 215 _ rfl)) 5 rfl (n := 216) rfl ?_
                    refine Vw.iconst (v := 1) (de_iconst_1 (B 216 _ rfl)) rfl (n := 217) rfl ?_
                    refine Vw.isub (de_isub (B 217 _ rfl)) (n := 218) rfl ?_
                    rw [dn_p]
                    refine Vw.lald (de_laload (B 218 _ rfl)) hsk (vIx_n (k := r.length) (by simp only [nI_A, nI_M, Int32.zero_add, Int32.add_zero] <;> rfl) (by omega)) (n := 219) rfl ?_
                    rw [sM2.2.1]
                    refine Vw.lstore (lv2 := [(0, _), (1, _), (2, _), (3, _), (4, _), (5, _), (6, _), (7, _), (8, _), (9, _), (10, _)]) (de_lstore (B 219 _ rfl) (B 220 _ rfl)) (by decide) [1, 2, 3, 4, 5, 6, 7, 8, 9, 10, 0] rfl (n := 221) rfl ?_
                    refine Vw.aload_n (de_aload_0 (B 221 _ rfl)) 0 rfl (n := 222) rfl ?_
                    refine Vw.getR (de_getfield (B 222 _ rfl) (B 223 _ rfl) (B 224 _ rfl)) fl_X6_15 rfl hu hst (n := 225) rfl ?_
                    refine Vw.iload (de_iload (B 225 _ rfl) (B 226 _ rfl)) 5 rfl (n := 227) rfl ?_
                    refine Vw.lald (de_laload (B 227 _ rfl)) hsk (vIx_n (k := r.length + 1) (by simp only [nI_A, nI_M, Int32.zero_add, Int32.add_zero] <;> rfl) (by omega)) (n := 228) rfl ?_
                    rw [show M (u + 2) (r.length + 1) = v from sM2.1]
                    refine Vw.lstore (lv2 := [(0, _), (1, _), (2, _), (3, _), (4, _), (5, _), (6, _), (7, _), (8, _), (9, _), (10, _), (12, _)]) (de_lstore (B 228 _ rfl) (B 229 _ rfl)) (by decide) [1, 2, 3, 4, 5, 6, 7, 8, 9, 10, 11, 0] rfl (n := 230) rfl ?_
                    refine Vw.iload (de_iload (B 230 _ rfl) (B 231 _ rfl)) 8 rfl (n := 232) rfl ?_
                    have hts_232 : decode mX6_evaluate.2.1 232 = .ok (.tableswitch 132 5 12 #[48, 58, 68, 132, 132, 78, 96, 114], 48) := by decide +kernel
                    refine Vw.tsIn (n := 290) hts_232 (by decide) (by decide) rfl rfl ?_
                    refine Vw.lload (de_lload (B 290 _ rfl) (B 291 _ rfl)) 10 rfl (n := 292) rfl ?_
                    refine Vw.lload (de_lload (B 292 _ rfl) (B 293 _ rfl)) 11 rfl (n := 294) rfl ?_
                    refine Vw.lsub (de_lsub (B 294 _ rfl)) (n := 295) rfl ?_
                    refine Vw.lstore (lv2 := [(0, _), (1, _), (2, _), (3, _), (4, _), (5, _), (6, _), (7, _), (8, _), (9, _), (10, _), (12, _), (14, _)]) (de_lstore (B 295 _ rfl) (B 296 _ rfl)) (by decide) [1, 2, 3, 4, 5, 6, 7, 8, 9, 10, 11, 12, 0] rfl (n := 297) rfl ?_
                    refine Vw.goto_ (n := 395) (de_goto_ (B 297 _ rfl) (B 298 _ rfl) (B 299 _ rfl)) rfl ?_
                    refine Vw.lvs (lv2 := [(0, _), (1, _), (2, _), (3, _), (4, _), (5, _), (6, _), (7, _), (14, _)]) [0, 1, 2, 3, 4, 5, 6, 7, 12] rfl ?_
                    exact j395 v w r _ hs (by omega) (by rw [hk]; unfold arOp; rw [if_neg (by decide), if_pos rfl])
                  refine Vw.iconst (v := 0) (de_iconst_0 (B 205 _ rfl)) rfl (n := 206) rfl ?_
                  exact Vw.zret (de_ireturn (B 206 _ rfl)) rfl rfl ⟨_, rfl, (bad M fM (by
    cases st with
    | nil => exact ms_nil (by omega)
    | cons v r => cases r with
      | nil => exact ms_one (by omega)
      | cons w r => exact absurd ((nI_leI (a := 2) (b := top) (by omega) (by omega)).mpr (by rw [ht]; simp)) c_202))⟩
                exact absurd c_173 (by decide)
              exact absurd c_121 (by decide)
            refine Vw.iconst (v := 0) (de_iconst_0 (B 116 _ rfl)) rfl (n := 117) rfl ?_
            exact Vw.zret (de_ireturn (B 117 _ rfl)) rfl rfl ⟨_, rfl, (bad M fM (by cases st with | nil => exact ms_nil (by omega) | cons v r => exact absurd ((nI_leI (a := 1) (b := top) (by omega) (by omega)).mpr (by rw [ht]; simp)) c_113))⟩
          exact absurd c_53 (by decide)
        have d7 : (cw a).1 = 7 → Vw mX6_evaluate d 0 0 0 0 (ViQ Q) 50 [(0, .ref u), (1, .ref ca), (2, .int (nI a0)), (3, .int (nI to)), (4, .ref ka), (5, .int (nI top)), (6, .int (nI (a + 1))), (7, .int (nI i)), (8, .int 7), (9, .int (nI (cw a).2))] [] S I M := by
          intro hk
          refine Vw.iload (de_iload (B 50 _ rfl) (B 51 _ rfl)) 8 rfl (n := 52) rfl ?_
          refine Vw.iconst (v := 1) (de_iconst_1 (B 52 _ rfl)) rfl (n := 53) rfl ?_
          refine Vw.icmp_gt (tgt := 110) (n := 56) (de_icmp_gt (B 53 _ rfl) (B 54 _ rfl) (B 55 _ rfl)) rfl rfl (fun c_53 => ?_) (fun c_53 => ?_)
          · refine Vw.iload (de_iload (B 110 _ rfl) (B 111 _ rfl)) 5 rfl (n := 112) rfl ?_
            refine Vw.iconst (v := 1) (de_iconst_1 (B 112 _ rfl)) rfl (n := 113) rfl ?_
            refine Vw.icmp_ge (tgt := 118) (n := 116) (de_icmp_ge (B 113 _ rfl) (B 114 _ rfl) (B 115 _ rfl)) rfl rfl (fun c_113 => ?_) (fun c_113 => ?_)
            · skip
              refine Vw.iload (de_iload (B 118 _ rfl) (B 119 _ rfl)) 8 rfl (n := 120) rfl ?_
              refine Vw.iconst (v := 3) (de_iconst_3 (B 120 _ rfl)) rfl (n := 121) rfl ?_
              refine Vw.icmp_gt (tgt := 170) (n := 124) (de_icmp_gt (B 121 _ rfl) (B 122 _ rfl) (B 123 _ rfl)) rfl rfl (fun c_121 => ?_) (fun c_121 => ?_)
              · refine Vw.iload (de_iload (B 170 _ rfl) (B 171 _ rfl)) 8 rfl (n := 172) rfl ?_
                refine Vw.iconst (v := 4) (de_iconst_4 (B 172 _ rfl)) rfl (n := 173) rfl ?_
                refine Vw.icmp_ne (tgt := 199) (n := 176) (de_icmp_ne (B 173 _ rfl) (B 174 _ rfl) (B 175 _ rfl)) rfl rfl (fun c_173 => ?_) (fun c_173 => ?_)
                · refine Vw.iload (de_iload (B 199 _ rfl) (B 200 _ rfl)) 5 rfl (n := 201) rfl ?_
                  refine Vw.iconst (v := 2) (de_iconst_2 (B 201 _ rfl)) rfl (n := 202) rfl ?_
                  refine Vw.icmp_ge (tgt := 207) (n := 205) (de_icmp_ge (B 202 _ rfl) (B 203 _ rfl) (B 204 _ rfl)) rfl rfl (fun c_202 => ?_) (fun c_202 => ?_)
                  · obtain ⟨v, w, r, hs⟩ : ∃ v w r, st = v :: w :: r := by
                      have z := (nI_leI (a := 2) (b := top) (by omega) (by omega)).mp c_202
                      cases st with
                      | nil => simp at ht; omega
                      | cons v r => cases r with
                        | nil => simp at ht; omega
                        | cons w r => exact ⟨v, w, r, rfl⟩
                    have sM2 := sM
                    have h402 := h40
                    have ht2 := ht
                    rw [hs] at sM2 h402 ht2
                    simp only [List.length_cons] at h402 ht2
                    have ht3 : top = r.length + 2 := by omega
                    rw [ht3]
                    refine Vw.iinc (v := nI (r.length + 1)) (lv2 := [(0, _), (1, _), (2, _), (3, _), (4, _), (5, _), (6, _), (7, _), (8, _), (9, _)]) (de_iinc (B 207 _ rfl) (B 208 _ rfl) (B 209 _ rfl)) 5 rfl ((inc_m1 _).trans (dn_p _)) (by decide) [1, 2, 3, 4, 5, 0, 6, 7, 8, 9] rfl (n := 210) rfl ?_
                    refine Vw.aload_n (de_aload_0 (B 210 _ rfl)) 0 rfl (n := 211) rfl ?_
                    refine Vw.getR (de_getfield (B 211 _ rfl) (B 212 _ rfl) (B 213 _ rfl)) fl_X6_15 rfl hu hst (n := 214) rfl ?_
                    refine Vw.iload (de_iload (B 214 _ rfl) (B 215 _ rfl)) 5 rfl (n := 216) rfl ?_
                    refine Vw.iconst (v := 1) (de_iconst_1 (B 216 _ rfl)) rfl (n := 217) rfl ?_
                    refine Vw.isub (de_isub (B 217 _ rfl)) (n := 218) rfl ?_
                    rw [dn_p]
                    refine Vw.lald (de_laload (B 218 _ rfl)) hsk (vIx_n (k := r.length) (by simp only [nI_A, nI_M, Int32.zero_add, Int32.add_zero] <;> rfl) (by omega)) (n := 219) rfl ?_
                    rw [sM2.2.1]
                    refine Vw.lstore (lv2 := [(0, _), (1, _), (2, _), (3, _), (4, _), (5, _), (6, _), (7, _), (8, _), (9, _), (10, _)]) (de_lstore (B 219 _ rfl) (B 220 _ rfl)) (by decide) [1, 2, 3, 4, 5, 6, 7, 8, 9, 10, 0] rfl (n := 221) rfl ?_
                    refine Vw.aload_n (de_aload_0 (B 221 _ rfl)) 0 rfl (n := 222) rfl ?_
                    refine Vw.getR (de_getfield (B 222 _ rfl) (B 223 _ rfl) (B 224 _ rfl)) fl_X6_15 rfl hu hst (n := 225) rfl ?_
                    refine Vw.iload (de_iload (B 225 _ rfl) (B 226 _ rfl)) 5 rfl (n := 227) rfl ?_
                    refine Vw.lald (de_laload (B 227 _ rfl)) hsk (vIx_n (k := r.length + 1) (by simp only [nI_A, nI_M, Int32.zero_add, Int32.add_zero] <;> rfl) (by omega)) (n := 228) rfl ?_
                    rw [show M (u + 2) (r.length + 1) = v from sM2.1]
                    refine Vw.lstore (lv2 := [(0, _), (1, _), (2, _), (3, _), (4, _), (5, _), (6, _), (7, _), (8, _), (9, _), (10, _), (12, _)]) (de_lstore (B 228 _ rfl) (B 229 _ rfl)) (by decide) [1, 2, 3, 4, 5, 6, 7, 8, 9, 10, 11, 0] rfl (n := 230) rfl ?_
                    refine Vw.iload (de_iload (B 230 _ rfl) (B 231 _ rfl)) 8 rfl (n := 232) rfl ?_
                    have hts_232 : decode mX6_evaluate.2.1 232 = .ok (.tableswitch 132 5 12 #[48, 58, 68, 132, 132, 78, 96, 114], 48) := by decide +kernel
                    refine Vw.tsIn (n := 300) hts_232 (by decide) (by decide) rfl rfl ?_
                    refine Vw.lload (de_lload (B 300 _ rfl) (B 301 _ rfl)) 10 rfl (n := 302) rfl ?_
                    refine Vw.lload (de_lload (B 302 _ rfl) (B 303 _ rfl)) 11 rfl (n := 304) rfl ?_
                    refine Vw.lmul (de_lmul (B 304 _ rfl)) (n := 305) rfl ?_
                    refine Vw.lstore (lv2 := [(0, _), (1, _), (2, _), (3, _), (4, _), (5, _), (6, _), (7, _), (8, _), (9, _), (10, _), (12, _), (14, _)]) (de_lstore (B 305 _ rfl) (B 306 _ rfl)) (by decide) [1, 2, 3, 4, 5, 6, 7, 8, 9, 10, 11, 12, 0] rfl (n := 307) rfl ?_
                    refine Vw.goto_ (n := 395) (de_goto_ (B 307 _ rfl) (B 308 _ rfl) (B 309 _ rfl)) rfl ?_
                    refine Vw.lvs (lv2 := [(0, _), (1, _), (2, _), (3, _), (4, _), (5, _), (6, _), (7, _), (14, _)]) [0, 1, 2, 3, 4, 5, 6, 7, 12] rfl ?_
                    exact j395 v w r _ hs (by omega) (by rw [hk]; unfold arOp; rw [if_neg (by decide), if_neg (by decide), if_pos rfl])
                  refine Vw.iconst (v := 0) (de_iconst_0 (B 205 _ rfl)) rfl (n := 206) rfl ?_
                  exact Vw.zret (de_ireturn (B 206 _ rfl)) rfl rfl ⟨_, rfl, (bad M fM (by
    cases st with
    | nil => exact ms_nil (by omega)
    | cons v r => cases r with
      | nil => exact ms_one (by omega)
      | cons w r => exact absurd ((nI_leI (a := 2) (b := top) (by omega) (by omega)).mpr (by rw [ht]; simp)) c_202))⟩
                exact absurd c_173 (by decide)
              exact absurd c_121 (by decide)
            refine Vw.iconst (v := 0) (de_iconst_0 (B 116 _ rfl)) rfl (n := 117) rfl ?_
            exact Vw.zret (de_ireturn (B 117 _ rfl)) rfl rfl ⟨_, rfl, (bad M fM (by cases st with | nil => exact ms_nil (by omega) | cons v r => exact absurd ((nI_leI (a := 1) (b := top) (by omega) (by omega)).mpr (by rw [ht]; simp)) c_113))⟩
          exact absurd c_53 (by decide)
        have d8 : (cw a).1 = 8 → Vw mX6_evaluate d 0 0 0 0 (ViQ Q) 50 [(0, .ref u), (1, .ref ca), (2, .int (nI a0)), (3, .int (nI to)), (4, .ref ka), (5, .int (nI top)), (6, .int (nI (a + 1))), (7, .int (nI i)), (8, .int 8), (9, .int (nI (cw a).2))] [] S I M := by
          intro hk
          refine Vw.iload (de_iload (B 50 _ rfl) (B 51 _ rfl)) 8 rfl (n := 52) rfl ?_
          refine Vw.iconst (v := 1) (de_iconst_1 (B 52 _ rfl)) rfl (n := 53) rfl ?_
          refine Vw.icmp_gt (tgt := 110) (n := 56) (de_icmp_gt (B 53 _ rfl) (B 54 _ rfl) (B 55 _ rfl)) rfl rfl (fun c_53 => ?_) (fun c_53 => ?_)
          · refine Vw.iload (de_iload (B 110 _ rfl) (B 111 _ rfl)) 5 rfl (n := 112) rfl ?_
            refine Vw.iconst (v := 1) (de_iconst_1 (B 112 _ rfl)) rfl (n := 113) rfl ?_
            refine Vw.icmp_ge (tgt := 118) (n := 116) (de_icmp_ge (B 113 _ rfl) (B 114 _ rfl) (B 115 _ rfl)) rfl rfl (fun c_113 => ?_) (fun c_113 => ?_)
            · skip
              refine Vw.iload (de_iload (B 118 _ rfl) (B 119 _ rfl)) 8 rfl (n := 120) rfl ?_
              refine Vw.iconst (v := 3) (de_iconst_3 (B 120 _ rfl)) rfl (n := 121) rfl ?_
              refine Vw.icmp_gt (tgt := 170) (n := 124) (de_icmp_gt (B 121 _ rfl) (B 122 _ rfl) (B 123 _ rfl)) rfl rfl (fun c_121 => ?_) (fun c_121 => ?_)
              · refine Vw.iload (de_iload (B 170 _ rfl) (B 171 _ rfl)) 8 rfl (n := 172) rfl ?_
                refine Vw.iconst (v := 4) (de_iconst_4 (B 172 _ rfl)) rfl (n := 173) rfl ?_
                refine Vw.icmp_ne (tgt := 199) (n := 176) (de_icmp_ne (B 173 _ rfl) (B 174 _ rfl) (B 175 _ rfl)) rfl rfl (fun c_173 => ?_) (fun c_173 => ?_)
                · refine Vw.iload (de_iload (B 199 _ rfl) (B 200 _ rfl)) 5 rfl (n := 201) rfl ?_
                  refine Vw.iconst (v := 2) (de_iconst_2 (B 201 _ rfl)) rfl (n := 202) rfl ?_
                  refine Vw.icmp_ge (tgt := 207) (n := 205) (de_icmp_ge (B 202 _ rfl) (B 203 _ rfl) (B 204 _ rfl)) rfl rfl (fun c_202 => ?_) (fun c_202 => ?_)
                  · obtain ⟨v, w, r, hs⟩ : ∃ v w r, st = v :: w :: r := by
                      have z := (nI_leI (a := 2) (b := top) (by omega) (by omega)).mp c_202
                      cases st with
                      | nil => simp at ht; omega
                      | cons v r => cases r with
                        | nil => simp at ht; omega
                        | cons w r => exact ⟨v, w, r, rfl⟩
                    have sM2 := sM
                    have h402 := h40
                    have ht2 := ht
                    rw [hs] at sM2 h402 ht2
                    simp only [List.length_cons] at h402 ht2
                    have ht3 : top = r.length + 2 := by omega
                    rw [ht3]
                    refine Vw.iinc (v := nI (r.length + 1)) (lv2 := [(0, _), (1, _), (2, _), (3, _), (4, _), (5, _), (6, _), (7, _), (8, _), (9, _)]) (de_iinc (B 207 _ rfl) (B 208 _ rfl) (B 209 _ rfl)) 5 rfl ((inc_m1 _).trans (dn_p _)) (by decide) [1, 2, 3, 4, 5, 0, 6, 7, 8, 9] rfl (n := 210) rfl ?_
                    refine Vw.aload_n (de_aload_0 (B 210 _ rfl)) 0 rfl (n := 211) rfl ?_
                    refine Vw.getR (de_getfield (B 211 _ rfl) (B 212 _ rfl) (B 213 _ rfl)) fl_X6_15 rfl hu hst (n := 214) rfl ?_
                    refine Vw.iload (de_iload (B 214 _ rfl) (B 215 _ rfl)) 5 rfl (n := 216) rfl ?_
                    refine Vw.iconst (v := 1) (de_iconst_1 (B 216 _ rfl)) rfl (n := 217) rfl ?_
                    refine Vw.isub (de_isub (B 217 _ rfl)) (n := 218) rfl ?_
                    rw [dn_p]
                    refine Vw.lald (de_laload (B 218 _ rfl)) hsk (vIx_n (k := r.length) (by simp only [nI_A, nI_M, Int32.zero_add, Int32.add_zero] <;> rfl) (by omega)) (n := 219) rfl ?_
                    rw [sM2.2.1]
                    refine Vw.lstore (lv2 := [(0, _), (1, _), (2, _), (3, _), (4, _), (5, _), (6, _), (7, _), (8, _), (9, _), (10, _)]) (de_lstore (B 219 _ rfl) (B 220 _ rfl)) (by decide) [1, 2, 3, 4, 5, 6, 7, 8, 9, 10, 0] rfl (n := 221) rfl ?_
                    refine Vw.aload_n (de_aload_0 (B 221 _ rfl)) 0 rfl (n := 222) rfl ?_
                    refine Vw.getR (de_getfield (B 222 _ rfl) (B 223 _ rfl) (B 224 _ rfl)) fl_X6_15 rfl hu hst (n := 225) rfl ?_
                    refine Vw.iload (de_iload (B 225 _ rfl) (B 226 _ rfl)) 5 rfl (n := 227) rfl ?_
                    refine Vw.lald (de_laload (B 227 _ rfl)) hsk (vIx_n (k := r.length + 1) (by simp only [nI_A, nI_M, Int32.zero_add, Int32.add_zero] <;> rfl) (by omega)) (n := 228) rfl ?_
                    rw [show M (u + 2) (r.length + 1) = v from sM2.1]
                    refine Vw.lstore (lv2 := [(0, _), (1, _), (2, _), (3, _), (4, _), (5, _), (6, _), (7, _), (8, _), (9, _), (10, _), (12, _)]) (de_lstore (B 228 _ rfl) (B 229 _ rfl)) (by decide) [1, 2, 3, 4, 5, 6, 7, 8, 9, 10, 11, 0] rfl (n := 230) rfl ?_
                    refine Vw.iload (de_iload (B 230 _ rfl) (B 231 _ rfl)) 8 rfl (n := 232) rfl ?_
                    have hts_232 : decode mX6_evaluate.2.1 232 = .ok (.tableswitch 132 5 12 #[48, 58, 68, 132, 132, 78, 96, 114], 48) := by decide +kernel
                    refine Vw.tsIn (n := 364) hts_232 (by decide) (by decide) rfl rfl ?_
                    refine Vw.lload (de_lload (B 364 _ rfl) (B 365 _ rfl)) 11 rfl (n := 366) rfl ?_
                    refine Vw.lconst (v := 0) (de_lconst_0 (B 366 _ rfl)) rfl (n := 367) rfl ?_
                    refine Vw.lcmp (de_lcmp (B 367 _ rfl)) (n := 368) rfl ?_
                    refine Vw.if_ne (tgt := 373) (n := 371) (de_if_ne (B 368 _ rfl) (B 369 _ rfl) (B 370 _ rfl)) rfl rfl (fun c_368 => ?_) (fun c_368 => ?_)
                    · refine Vw.iload (de_iload (B 373 _ rfl) (B 374 _ rfl)) 8 rfl (n := 375) rfl ?_
                      refine Vw.bipush (v := 8) (de_bipush (B 375 _ rfl) (B 376 _ rfl)) rfl (n := 377) rfl ?_
                      refine Vw.icmp_ne (tgt := 388) (n := 380) (de_icmp_ne (B 377 _ rfl) (B 378 _ rfl) (B 379 _ rfl)) rfl rfl (fun c_377 => ?_) (fun c_377 => ?_)
                      · exact absurd c_377 (by decide)
                      refine Vw.lload (de_lload (B 380 _ rfl) (B 381 _ rfl)) 10 rfl (n := 382) rfl ?_
                      refine Vw.lload (de_lload (B 382 _ rfl) (B 383 _ rfl)) 11 rfl (n := 384) rfl ?_
                      refine Vw.ldiv (de_ldiv (B 384 _ rfl)) (fun z => c_368 ((lg_cmp_eq _ _).mpr z)) (n := 385) rfl ?_
                      refine Vw.goto_ (n := 393) (de_goto_ (B 385 _ rfl) (B 386 _ rfl) (B 387 _ rfl)) rfl ?_
                      refine Vw.lstore (lv2 := [(0, _), (1, _), (2, _), (3, _), (4, _), (5, _), (6, _), (7, _), (8, _), (9, _), (10, _), (12, _), (14, _)]) (de_lstore (B 393 _ rfl) (B 394 _ rfl)) (by decide) [1, 2, 3, 4, 5, 6, 7, 8, 9, 10, 11, 12, 0] rfl (n := 395) rfl ?_
                      refine Vw.lvs (lv2 := [(0, _), (1, _), (2, _), (3, _), (4, _), (5, _), (6, _), (7, _), (14, _)]) [0, 1, 2, 3, 4, 5, 6, 7, 12] rfl ?_
                      exact j395 v w r _ hs (by omega) (by rw [hk]; unfold arOp; rw [if_neg (by decide), if_neg (by decide), if_neg (by decide), if_neg (by decide), if_neg (by decide), if_neg (by decide), if_neg (fun z => c_368 ((lg_cmp_eq _ _).mpr z)), if_pos rfl])
                    refine Vw.iconst (v := 0) (de_iconst_0 (B 371 _ rfl)) rfl (n := 372) rfl ?_
                    exact Vw.zret (de_ireturn (B 372 _ rfl)) rfl rfl ⟨_, rfl, (bad M fM (by rw [hs]; exact ms_arN (by omega) (by rw [hk]; unfold arOp; rw [if_neg (by decide), if_neg (by decide), if_neg (by decide), if_neg (by decide), if_neg (by decide), if_neg (by decide), if_pos ((lg_cmp_eq _ _).mp c_368)])))⟩
                  refine Vw.iconst (v := 0) (de_iconst_0 (B 205 _ rfl)) rfl (n := 206) rfl ?_
                  exact Vw.zret (de_ireturn (B 206 _ rfl)) rfl rfl ⟨_, rfl, (bad M fM (by
    cases st with
    | nil => exact ms_nil (by omega)
    | cons v r => cases r with
      | nil => exact ms_one (by omega)
      | cons w r => exact absurd ((nI_leI (a := 2) (b := top) (by omega) (by omega)).mpr (by rw [ht]; simp)) c_202))⟩
                exact absurd c_173 (by decide)
              exact absurd c_121 (by decide)
            refine Vw.iconst (v := 0) (de_iconst_0 (B 116 _ rfl)) rfl (n := 117) rfl ?_
            exact Vw.zret (de_ireturn (B 117 _ rfl)) rfl rfl ⟨_, rfl, (bad M fM (by cases st with | nil => exact ms_nil (by omega) | cons v r => exact absurd ((nI_leI (a := 1) (b := top) (by omega) (by omega)).mpr (by rw [ht]; simp)) c_113))⟩
          exact absurd c_53 (by decide)
        have d9 : (cw a).1 = 9 → Vw mX6_evaluate d 0 0 0 0 (ViQ Q) 50 [(0, .ref u), (1, .ref ca), (2, .int (nI a0)), (3, .int (nI to)), (4, .ref ka), (5, .int (nI top)), (6, .int (nI (a + 1))), (7, .int (nI i)), (8, .int 9), (9, .int (nI (cw a).2))] [] S I M := by
          intro hk
          refine Vw.iload (de_iload (B 50 _ rfl) (B 51 _ rfl)) 8 rfl (n := 52) rfl ?_
          refine Vw.iconst (v := 1) (de_iconst_1 (B 52 _ rfl)) rfl (n := 53) rfl ?_
          refine Vw.icmp_gt (tgt := 110) (n := 56) (de_icmp_gt (B 53 _ rfl) (B 54 _ rfl) (B 55 _ rfl)) rfl rfl (fun c_53 => ?_) (fun c_53 => ?_)
          · refine Vw.iload (de_iload (B 110 _ rfl) (B 111 _ rfl)) 5 rfl (n := 112) rfl ?_
            refine Vw.iconst (v := 1) (de_iconst_1 (B 112 _ rfl)) rfl (n := 113) rfl ?_
            refine Vw.icmp_ge (tgt := 118) (n := 116) (de_icmp_ge (B 113 _ rfl) (B 114 _ rfl) (B 115 _ rfl)) rfl rfl (fun c_113 => ?_) (fun c_113 => ?_)
            · skip
              refine Vw.iload (de_iload (B 118 _ rfl) (B 119 _ rfl)) 8 rfl (n := 120) rfl ?_
              refine Vw.iconst (v := 3) (de_iconst_3 (B 120 _ rfl)) rfl (n := 121) rfl ?_
              refine Vw.icmp_gt (tgt := 170) (n := 124) (de_icmp_gt (B 121 _ rfl) (B 122 _ rfl) (B 123 _ rfl)) rfl rfl (fun c_121 => ?_) (fun c_121 => ?_)
              · refine Vw.iload (de_iload (B 170 _ rfl) (B 171 _ rfl)) 8 rfl (n := 172) rfl ?_
                refine Vw.iconst (v := 4) (de_iconst_4 (B 172 _ rfl)) rfl (n := 173) rfl ?_
                refine Vw.icmp_ne (tgt := 199) (n := 176) (de_icmp_ne (B 173 _ rfl) (B 174 _ rfl) (B 175 _ rfl)) rfl rfl (fun c_173 => ?_) (fun c_173 => ?_)
                · refine Vw.iload (de_iload (B 199 _ rfl) (B 200 _ rfl)) 5 rfl (n := 201) rfl ?_
                  refine Vw.iconst (v := 2) (de_iconst_2 (B 201 _ rfl)) rfl (n := 202) rfl ?_
                  refine Vw.icmp_ge (tgt := 207) (n := 205) (de_icmp_ge (B 202 _ rfl) (B 203 _ rfl) (B 204 _ rfl)) rfl rfl (fun c_202 => ?_) (fun c_202 => ?_)
                  · obtain ⟨v, w, r, hs⟩ : ∃ v w r, st = v :: w :: r := by
                      have z := (nI_leI (a := 2) (b := top) (by omega) (by omega)).mp c_202
                      cases st with
                      | nil => simp at ht; omega
                      | cons v r => cases r with
                        | nil => simp at ht; omega
                        | cons w r => exact ⟨v, w, r, rfl⟩
                    have sM2 := sM
                    have h402 := h40
                    have ht2 := ht
                    rw [hs] at sM2 h402 ht2
                    simp only [List.length_cons] at h402 ht2
                    have ht3 : top = r.length + 2 := by omega
                    rw [ht3]
                    refine Vw.iinc (v := nI (r.length + 1)) (lv2 := [(0, _), (1, _), (2, _), (3, _), (4, _), (5, _), (6, _), (7, _), (8, _), (9, _)]) (de_iinc (B 207 _ rfl) (B 208 _ rfl) (B 209 _ rfl)) 5 rfl ((inc_m1 _).trans (dn_p _)) (by decide) [1, 2, 3, 4, 5, 0, 6, 7, 8, 9] rfl (n := 210) rfl ?_
                    refine Vw.aload_n (de_aload_0 (B 210 _ rfl)) 0 rfl (n := 211) rfl ?_
                    refine Vw.getR (de_getfield (B 211 _ rfl) (B 212 _ rfl) (B 213 _ rfl)) fl_X6_15 rfl hu hst (n := 214) rfl ?_
                    refine Vw.iload (de_iload (B 214 _ rfl) (B 215 _ rfl)) 5 rfl (n := 216) rfl ?_
                    refine Vw.iconst (v := 1) (de_iconst_1 (B 216 _ rfl)) rfl (n := 217) rfl ?_
                    refine Vw.isub (de_isub (B 217 _ rfl)) (n := 218) rfl ?_
                    rw [dn_p]
                    refine Vw.lald (de_laload (B 218 _ rfl)) hsk (vIx_n (k := r.length) (by simp only [nI_A, nI_M, Int32.zero_add, Int32.add_zero] <;> rfl) (by omega)) (n := 219) rfl ?_
                    rw [sM2.2.1]
                    refine Vw.lstore (lv2 := [(0, _), (1, _), (2, _), (3, _), (4, _), (5, _), (6, _), (7, _), (8, _), (9, _), (10, _)]) (de_lstore (B 219 _ rfl) (B 220 _ rfl)) (by decide) [1, 2, 3, 4, 5, 6, 7, 8, 9, 10, 0] rfl (n := 221) rfl ?_
                    refine Vw.aload_n (de_aload_0 (B 221 _ rfl)) 0 rfl (n := 222) rfl ?_
                    refine Vw.getR (de_getfield (B 222 _ rfl) (B 223 _ rfl) (B 224 _ rfl)) fl_X6_15 rfl hu hst (n := 225) rfl ?_
                    refine Vw.iload (de_iload (B 225 _ rfl) (B 226 _ rfl)) 5 rfl (n := 227) rfl ?_
                    refine Vw.lald (de_laload (B 227 _ rfl)) hsk (vIx_n (k := r.length + 1) (by simp only [nI_A, nI_M, Int32.zero_add, Int32.add_zero] <;> rfl) (by omega)) (n := 228) rfl ?_
                    rw [show M (u + 2) (r.length + 1) = v from sM2.1]
                    refine Vw.lstore (lv2 := [(0, _), (1, _), (2, _), (3, _), (4, _), (5, _), (6, _), (7, _), (8, _), (9, _), (10, _), (12, _)]) (de_lstore (B 228 _ rfl) (B 229 _ rfl)) (by decide) [1, 2, 3, 4, 5, 6, 7, 8, 9, 10, 11, 0] rfl (n := 230) rfl ?_
                    refine Vw.iload (de_iload (B 230 _ rfl) (B 231 _ rfl)) 8 rfl (n := 232) rfl ?_
                    have hts_232 : decode mX6_evaluate.2.1 232 = .ok (.tableswitch 132 5 12 #[48, 58, 68, 132, 132, 78, 96, 114], 48) := by decide +kernel
                    refine Vw.tsIn (n := 364) hts_232 (by decide) (by decide) rfl rfl ?_
                    refine Vw.lload (de_lload (B 364 _ rfl) (B 365 _ rfl)) 11 rfl (n := 366) rfl ?_
                    refine Vw.lconst (v := 0) (de_lconst_0 (B 366 _ rfl)) rfl (n := 367) rfl ?_
                    refine Vw.lcmp (de_lcmp (B 367 _ rfl)) (n := 368) rfl ?_
                    refine Vw.if_ne (tgt := 373) (n := 371) (de_if_ne (B 368 _ rfl) (B 369 _ rfl) (B 370 _ rfl)) rfl rfl (fun c_368 => ?_) (fun c_368 => ?_)
                    · refine Vw.iload (de_iload (B 373 _ rfl) (B 374 _ rfl)) 8 rfl (n := 375) rfl ?_
                      refine Vw.bipush (v := 8) (de_bipush (B 375 _ rfl) (B 376 _ rfl)) rfl (n := 377) rfl ?_
                      refine Vw.icmp_ne (tgt := 388) (n := 380) (de_icmp_ne (B 377 _ rfl) (B 378 _ rfl) (B 379 _ rfl)) rfl rfl (fun c_377 => ?_) (fun c_377 => ?_)
                      · refine Vw.lload (de_lload (B 388 _ rfl) (B 389 _ rfl)) 10 rfl (n := 390) rfl ?_
                        refine Vw.lload (de_lload (B 390 _ rfl) (B 391 _ rfl)) 11 rfl (n := 392) rfl ?_
                        refine Vw.lrem (de_lrem (B 392 _ rfl)) (fun z => c_368 ((lg_cmp_eq _ _).mpr z)) (n := 393) rfl ?_
                        refine Vw.lstore (lv2 := [(0, _), (1, _), (2, _), (3, _), (4, _), (5, _), (6, _), (7, _), (8, _), (9, _), (10, _), (12, _), (14, _)]) (de_lstore (B 393 _ rfl) (B 394 _ rfl)) (by decide) [1, 2, 3, 4, 5, 6, 7, 8, 9, 10, 11, 12, 0] rfl (n := 395) rfl ?_
                        refine Vw.lvs (lv2 := [(0, _), (1, _), (2, _), (3, _), (4, _), (5, _), (6, _), (7, _), (14, _)]) [0, 1, 2, 3, 4, 5, 6, 7, 12] rfl ?_
                        exact j395 v w r _ hs (by omega) (by rw [hk]; unfold arOp; rw [if_neg (by decide), if_neg (by decide), if_neg (by decide), if_neg (by decide), if_neg (by decide), if_neg (by decide), if_neg (fun z => c_368 ((lg_cmp_eq _ _).mpr z)), if_neg (by decide)])
                      exact absurd c_377 (by decide)
                    refine Vw.iconst (v := 0) (de_iconst_0 (B 371 _ rfl)) rfl (n := 372) rfl ?_
                    exact Vw.zret (de_ireturn (B 372 _ rfl)) rfl rfl ⟨_, rfl, (bad M fM (by rw [hs]; exact ms_arN (by omega) (by rw [hk]; unfold arOp; rw [if_neg (by decide), if_neg (by decide), if_neg (by decide), if_neg (by decide), if_neg (by decide), if_neg (by decide), if_pos ((lg_cmp_eq _ _).mp c_368)])))⟩
                  refine Vw.iconst (v := 0) (de_iconst_0 (B 205 _ rfl)) rfl (n := 206) rfl ?_
                  exact Vw.zret (de_ireturn (B 206 _ rfl)) rfl rfl ⟨_, rfl, (bad M fM (by
    cases st with
    | nil => exact ms_nil (by omega)
    | cons v r => cases r with
      | nil => exact ms_one (by omega)
      | cons w r => exact absurd ((nI_leI (a := 2) (b := top) (by omega) (by omega)).mpr (by rw [ht]; simp)) c_202))⟩
                exact absurd c_173 (by decide)
              exact absurd c_121 (by decide)
            refine Vw.iconst (v := 0) (de_iconst_0 (B 116 _ rfl)) rfl (n := 117) rfl ?_
            exact Vw.zret (de_ireturn (B 117 _ rfl)) rfl rfl ⟨_, rfl, (bad M fM (by cases st with | nil => exact ms_nil (by omega) | cons v r => exact absurd ((nI_leI (a := 1) (b := top) (by omega) (by omega)).mpr (by rw [ht]; simp)) c_113))⟩
          exact absurd c_53 (by decide)
        have d10 : (cw a).1 = 10 → Vw mX6_evaluate d 0 0 0 0 (ViQ Q) 50 [(0, .ref u), (1, .ref ca), (2, .int (nI a0)), (3, .int (nI to)), (4, .ref ka), (5, .int (nI top)), (6, .int (nI (a + 1))), (7, .int (nI i)), (8, .int 10), (9, .int (nI (cw a).2))] [] S I M := by
          intro hk
          refine Vw.iload (de_iload (B 50 _ rfl) (B 51 _ rfl)) 8 rfl (n := 52) rfl ?_
          refine Vw.iconst (v := 1) (de_iconst_1 (B 52 _ rfl)) rfl (n := 53) rfl ?_
          refine Vw.icmp_gt (tgt := 110) (n := 56) (de_icmp_gt (B 53 _ rfl) (B 54 _ rfl) (B 55 _ rfl)) rfl rfl (fun c_53 => ?_) (fun c_53 => ?_)
          · refine Vw.iload (de_iload (B 110 _ rfl) (B 111 _ rfl)) 5 rfl (n := 112) rfl ?_
            refine Vw.iconst (v := 1) (de_iconst_1 (B 112 _ rfl)) rfl (n := 113) rfl ?_
            refine Vw.icmp_ge (tgt := 118) (n := 116) (de_icmp_ge (B 113 _ rfl) (B 114 _ rfl) (B 115 _ rfl)) rfl rfl (fun c_113 => ?_) (fun c_113 => ?_)
            · skip
              refine Vw.iload (de_iload (B 118 _ rfl) (B 119 _ rfl)) 8 rfl (n := 120) rfl ?_
              refine Vw.iconst (v := 3) (de_iconst_3 (B 120 _ rfl)) rfl (n := 121) rfl ?_
              refine Vw.icmp_gt (tgt := 170) (n := 124) (de_icmp_gt (B 121 _ rfl) (B 122 _ rfl) (B 123 _ rfl)) rfl rfl (fun c_121 => ?_) (fun c_121 => ?_)
              · refine Vw.iload (de_iload (B 170 _ rfl) (B 171 _ rfl)) 8 rfl (n := 172) rfl ?_
                refine Vw.iconst (v := 4) (de_iconst_4 (B 172 _ rfl)) rfl (n := 173) rfl ?_
                refine Vw.icmp_ne (tgt := 199) (n := 176) (de_icmp_ne (B 173 _ rfl) (B 174 _ rfl) (B 175 _ rfl)) rfl rfl (fun c_173 => ?_) (fun c_173 => ?_)
                · refine Vw.iload (de_iload (B 199 _ rfl) (B 200 _ rfl)) 5 rfl (n := 201) rfl ?_
                  refine Vw.iconst (v := 2) (de_iconst_2 (B 201 _ rfl)) rfl (n := 202) rfl ?_
                  refine Vw.icmp_ge (tgt := 207) (n := 205) (de_icmp_ge (B 202 _ rfl) (B 203 _ rfl) (B 204 _ rfl)) rfl rfl (fun c_202 => ?_) (fun c_202 => ?_)
                  · obtain ⟨v, w, r, hs⟩ : ∃ v w r, st = v :: w :: r := by
                      have z := (nI_leI (a := 2) (b := top) (by omega) (by omega)).mp c_202
                      cases st with
                      | nil => simp at ht; omega
                      | cons v r => cases r with
                        | nil => simp at ht; omega
                        | cons w r => exact ⟨v, w, r, rfl⟩
                    have sM2 := sM
                    have h402 := h40
                    have ht2 := ht
                    rw [hs] at sM2 h402 ht2
                    simp only [List.length_cons] at h402 ht2
                    have ht3 : top = r.length + 2 := by omega
                    rw [ht3]
                    refine Vw.iinc (v := nI (r.length + 1)) (lv2 := [(0, _), (1, _), (2, _), (3, _), (4, _), (5, _), (6, _), (7, _), (8, _), (9, _)]) (de_iinc (B 207 _ rfl) (B 208 _ rfl) (B 209 _ rfl)) 5 rfl ((inc_m1 _).trans (dn_p _)) (by decide) [1, 2, 3, 4, 5, 0, 6, 7, 8, 9] rfl (n := 210) rfl ?_
                    refine Vw.aload_n (de_aload_0 (B 210 _ rfl)) 0 rfl (n := 211) rfl ?_
                    refine Vw.getR (de_getfield (B 211 _ rfl) (B 212 _ rfl) (B 213 _ rfl)) fl_X6_15 rfl hu hst (n := 214) rfl ?_
                    refine Vw.iload (de_iload (B 214 _ rfl) (B 215 _ rfl)) 5 rfl (n := 216) rfl ?_
                    refine Vw.iconst (v := 1) (de_iconst_1 (B 216 _ rfl)) rfl (n := 217) rfl ?_
                    refine Vw.isub (de_isub (B 217 _ rfl)) (n := 218) rfl ?_
                    rw [dn_p]
                    refine Vw.lald (de_laload (B 218 _ rfl)) hsk (vIx_n (k := r.length) (by simp only [nI_A, nI_M, Int32.zero_add, Int32.add_zero] <;> rfl) (by omega)) (n := 219) rfl ?_
                    rw [sM2.2.1]
                    refine Vw.lstore (lv2 := [(0, _), (1, _), (2, _), (3, _), (4, _), (5, _), (6, _), (7, _), (8, _), (9, _), (10, _)]) (de_lstore (B 219 _ rfl) (B 220 _ rfl)) (by decide) [1, 2, 3, 4, 5, 6, 7, 8, 9, 10, 0] rfl (n := 221) rfl ?_
                    refine Vw.aload_n (de_aload_0 (B 221 _ rfl)) 0 rfl (n := 222) rfl ?_
                    refine Vw.getR (de_getfield (B 222 _ rfl) (B 223 _ rfl) (B 224 _ rfl)) fl_X6_15 rfl hu hst (n := 225) rfl ?_
                    refine Vw.iload (de_iload (B 225 _ rfl) (B 226 _ rfl)) 5 rfl (n := 227) rfl ?_
                    refine Vw.lald (de_laload (B 227 _ rfl)) hsk (vIx_n (k := r.length + 1) (by simp only [nI_A, nI_M, Int32.zero_add, Int32.add_zero] <;> rfl) (by omega)) (n := 228) rfl ?_
                    rw [show M (u + 2) (r.length + 1) = v from sM2.1]
                    refine Vw.lstore (lv2 := [(0, _), (1, _), (2, _), (3, _), (4, _), (5, _), (6, _), (7, _), (8, _), (9, _), (10, _), (12, _)]) (de_lstore (B 228 _ rfl) (B 229 _ rfl)) (by decide) [1, 2, 3, 4, 5, 6, 7, 8, 9, 10, 11, 0] rfl (n := 230) rfl ?_
                    refine Vw.iload (de_iload (B 230 _ rfl) (B 231 _ rfl)) 8 rfl (n := 232) rfl ?_
                    have hts_232 : decode mX6_evaluate.2.1 232 = .ok (.tableswitch 132 5 12 #[48, 58, 68, 132, 132, 78, 96, 114], 48) := by decide +kernel
                    refine Vw.tsIn (n := 310) hts_232 (by decide) (by decide) rfl rfl ?_
                    refine Vw.lload (de_lload (B 310 _ rfl) (B 311 _ rfl)) 10 rfl (n := 312) rfl ?_
                    refine Vw.lload (de_lload (B 312 _ rfl) (B 313 _ rfl)) 11 rfl (n := 314) rfl ?_
                    refine Vw.lcmp (de_lcmp (B 314 _ rfl)) (n := 315) rfl ?_
                    refine Vw.if_ge (tgt := 322) (n := 318) (de_if_ge (B 315 _ rfl) (B 316 _ rfl) (B 317 _ rfl)) rfl rfl (fun c_315 => ?_) (fun c_315 => ?_)
                    · refine Vw.lconst (v := 0) (de_lconst_0 (B 322 _ rfl)) rfl (n := 323) rfl ?_
                      refine Vw.lstore (lv2 := [(0, _), (1, _), (2, _), (3, _), (4, _), (5, _), (6, _), (7, _), (8, _), (9, _), (10, _), (12, _), (14, _)]) (de_lstore (B 323 _ rfl) (B 324 _ rfl)) (by decide) [1, 2, 3, 4, 5, 6, 7, 8, 9, 10, 11, 12, 0] rfl (n := 325) rfl ?_
                      refine Vw.goto_ (n := 395) (de_goto_ (B 325 _ rfl) (B 326 _ rfl) (B 327 _ rfl)) rfl ?_
                      refine Vw.lvs (lv2 := [(0, _), (1, _), (2, _), (3, _), (4, _), (5, _), (6, _), (7, _), (14, _)]) [0, 1, 2, 3, 4, 5, 6, 7, 12] rfl ?_
                      exact j395 v w r _ hs (by omega) (by rw [hk]; unfold arOp; rw [if_neg (by decide), if_neg (by decide), if_neg (by decide), if_pos rfl]; first | (rw [if_neg (Int64.not_lt.mpr ((lg_cmp_ge _ _).mp c_315))]; exact tb0.symm) | (rw [if_pos (Int64.not_le.mp (fun z => c_315 ((lg_cmp_ge _ _).mpr z)))]; exact tb1.symm))
                    refine Vw.lconst (v := 1) (de_lconst_1 (B 318 _ rfl)) rfl (n := 319) rfl ?_
                    refine Vw.goto_ (n := 323) (de_goto_ (B 319 _ rfl) (B 320 _ rfl) (B 321 _ rfl)) rfl ?_
                    refine Vw.lstore (lv2 := [(0, _), (1, _), (2, _), (3, _), (4, _), (5, _), (6, _), (7, _), (8, _), (9, _), (10, _), (12, _), (14, _)]) (de_lstore (B 323 _ rfl) (B 324 _ rfl)) (by decide) [1, 2, 3, 4, 5, 6, 7, 8, 9, 10, 11, 12, 0] rfl (n := 325) rfl ?_
                    refine Vw.goto_ (n := 395) (de_goto_ (B 325 _ rfl) (B 326 _ rfl) (B 327 _ rfl)) rfl ?_
                    refine Vw.lvs (lv2 := [(0, _), (1, _), (2, _), (3, _), (4, _), (5, _), (6, _), (7, _), (14, _)]) [0, 1, 2, 3, 4, 5, 6, 7, 12] rfl ?_
                    exact j395 v w r _ hs (by omega) (by rw [hk]; unfold arOp; rw [if_neg (by decide), if_neg (by decide), if_neg (by decide), if_pos rfl]; first | (rw [if_neg (Int64.not_lt.mpr ((lg_cmp_ge _ _).mp c_315))]; exact tb0.symm) | (rw [if_pos (Int64.not_le.mp (fun z => c_315 ((lg_cmp_ge _ _).mpr z)))]; exact tb1.symm))
                  refine Vw.iconst (v := 0) (de_iconst_0 (B 205 _ rfl)) rfl (n := 206) rfl ?_
                  exact Vw.zret (de_ireturn (B 206 _ rfl)) rfl rfl ⟨_, rfl, (bad M fM (by
    cases st with
    | nil => exact ms_nil (by omega)
    | cons v r => cases r with
      | nil => exact ms_one (by omega)
      | cons w r => exact absurd ((nI_leI (a := 2) (b := top) (by omega) (by omega)).mpr (by rw [ht]; simp)) c_202))⟩
                exact absurd c_173 (by decide)
              exact absurd c_121 (by decide)
            refine Vw.iconst (v := 0) (de_iconst_0 (B 116 _ rfl)) rfl (n := 117) rfl ?_
            exact Vw.zret (de_ireturn (B 117 _ rfl)) rfl rfl ⟨_, rfl, (bad M fM (by cases st with | nil => exact ms_nil (by omega) | cons v r => exact absurd ((nI_leI (a := 1) (b := top) (by omega) (by omega)).mpr (by rw [ht]; simp)) c_113))⟩
          exact absurd c_53 (by decide)
        have d11 : (cw a).1 = 11 → Vw mX6_evaluate d 0 0 0 0 (ViQ Q) 50 [(0, .ref u), (1, .ref ca), (2, .int (nI a0)), (3, .int (nI to)), (4, .ref ka), (5, .int (nI top)), (6, .int (nI (a + 1))), (7, .int (nI i)), (8, .int 11), (9, .int (nI (cw a).2))] [] S I M := by
          intro hk
          refine Vw.iload (de_iload (B 50 _ rfl) (B 51 _ rfl)) 8 rfl (n := 52) rfl ?_
          refine Vw.iconst (v := 1) (de_iconst_1 (B 52 _ rfl)) rfl (n := 53) rfl ?_
          refine Vw.icmp_gt (tgt := 110) (n := 56) (de_icmp_gt (B 53 _ rfl) (B 54 _ rfl) (B 55 _ rfl)) rfl rfl (fun c_53 => ?_) (fun c_53 => ?_)
          · refine Vw.iload (de_iload (B 110 _ rfl) (B 111 _ rfl)) 5 rfl (n := 112) rfl ?_
            refine Vw.iconst (v := 1) (de_iconst_1 (B 112 _ rfl)) rfl (n := 113) rfl ?_
            refine Vw.icmp_ge (tgt := 118) (n := 116) (de_icmp_ge (B 113 _ rfl) (B 114 _ rfl) (B 115 _ rfl)) rfl rfl (fun c_113 => ?_) (fun c_113 => ?_)
            · skip
              refine Vw.iload (de_iload (B 118 _ rfl) (B 119 _ rfl)) 8 rfl (n := 120) rfl ?_
              refine Vw.iconst (v := 3) (de_iconst_3 (B 120 _ rfl)) rfl (n := 121) rfl ?_
              refine Vw.icmp_gt (tgt := 170) (n := 124) (de_icmp_gt (B 121 _ rfl) (B 122 _ rfl) (B 123 _ rfl)) rfl rfl (fun c_121 => ?_) (fun c_121 => ?_)
              · refine Vw.iload (de_iload (B 170 _ rfl) (B 171 _ rfl)) 8 rfl (n := 172) rfl ?_
                refine Vw.iconst (v := 4) (de_iconst_4 (B 172 _ rfl)) rfl (n := 173) rfl ?_
                refine Vw.icmp_ne (tgt := 199) (n := 176) (de_icmp_ne (B 173 _ rfl) (B 174 _ rfl) (B 175 _ rfl)) rfl rfl (fun c_173 => ?_) (fun c_173 => ?_)
                · refine Vw.iload (de_iload (B 199 _ rfl) (B 200 _ rfl)) 5 rfl (n := 201) rfl ?_
                  refine Vw.iconst (v := 2) (de_iconst_2 (B 201 _ rfl)) rfl (n := 202) rfl ?_
                  refine Vw.icmp_ge (tgt := 207) (n := 205) (de_icmp_ge (B 202 _ rfl) (B 203 _ rfl) (B 204 _ rfl)) rfl rfl (fun c_202 => ?_) (fun c_202 => ?_)
                  · obtain ⟨v, w, r, hs⟩ : ∃ v w r, st = v :: w :: r := by
                      have z := (nI_leI (a := 2) (b := top) (by omega) (by omega)).mp c_202
                      cases st with
                      | nil => simp at ht; omega
                      | cons v r => cases r with
                        | nil => simp at ht; omega
                        | cons w r => exact ⟨v, w, r, rfl⟩
                    have sM2 := sM
                    have h402 := h40
                    have ht2 := ht
                    rw [hs] at sM2 h402 ht2
                    simp only [List.length_cons] at h402 ht2
                    have ht3 : top = r.length + 2 := by omega
                    rw [ht3]
                    refine Vw.iinc (v := nI (r.length + 1)) (lv2 := [(0, _), (1, _), (2, _), (3, _), (4, _), (5, _), (6, _), (7, _), (8, _), (9, _)]) (de_iinc (B 207 _ rfl) (B 208 _ rfl) (B 209 _ rfl)) 5 rfl ((inc_m1 _).trans (dn_p _)) (by decide) [1, 2, 3, 4, 5, 0, 6, 7, 8, 9] rfl (n := 210) rfl ?_
                    refine Vw.aload_n (de_aload_0 (B 210 _ rfl)) 0 rfl (n := 211) rfl ?_
                    refine Vw.getR (de_getfield (B 211 _ rfl) (B 212 _ rfl) (B 213 _ rfl)) fl_X6_15 rfl hu hst (n := 214) rfl ?_
                    refine Vw.iload (de_iload (B 214 _ rfl) (B 215 _ rfl)) 5 rfl (n := 216) rfl ?_
                    refine Vw.iconst (v := 1) (de_iconst_1 (B 216 _ rfl)) rfl (n := 217) rfl ?_
                    refine Vw.isub (de_isub (B 217 _ rfl)) (n := 218) rfl ?_
                    rw [dn_p]
                    refine Vw.lald (de_laload (B 218 _ rfl)) hsk (vIx_n (k := r.length) (by simp only [nI_A, nI_M, Int32.zero_add, Int32.add_zero] <;> rfl) (by omega)) (n := 219) rfl ?_
                    rw [sM2.2.1]
                    refine Vw.lstore (lv2 := [(0, _), (1, _), (2, _), (3, _), (4, _), (5, _), (6, _), (7, _), (8, _), (9, _), (10, _)]) (de_lstore (B 219 _ rfl) (B 220 _ rfl)) (by decide) [1, 2, 3, 4, 5, 6, 7, 8, 9, 10, 0] rfl (n := 221) rfl ?_
                    refine Vw.aload_n (de_aload_0 (B 221 _ rfl)) 0 rfl (n := 222) rfl ?_
                    refine Vw.getR (de_getfield (B 222 _ rfl) (B 223 _ rfl) (B 224 _ rfl)) fl_X6_15 rfl hu hst (n := 225) rfl ?_
                    refine Vw.iload (de_iload (B 225 _ rfl) (B 226 _ rfl)) 5 rfl (n := 227) rfl ?_
                    refine Vw.lald (de_laload (B 227 _ rfl)) hsk (vIx_n (k := r.length + 1) (by simp only [nI_A, nI_M, Int32.zero_add, Int32.add_zero] <;> rfl) (by omega)) (n := 228) rfl ?_
                    rw [show M (u + 2) (r.length + 1) = v from sM2.1]
                    refine Vw.lstore (lv2 := [(0, _), (1, _), (2, _), (3, _), (4, _), (5, _), (6, _), (7, _), (8, _), (9, _), (10, _), (12, _)]) (de_lstore (B 228 _ rfl) (B 229 _ rfl)) (by decide) [1, 2, 3, 4, 5, 6, 7, 8, 9, 10, 11, 0] rfl (n := 230) rfl ?_
                    refine Vw.iload (de_iload (B 230 _ rfl) (B 231 _ rfl)) 8 rfl (n := 232) rfl ?_
                    have hts_232 : decode mX6_evaluate.2.1 232 = .ok (.tableswitch 132 5 12 #[48, 58, 68, 132, 132, 78, 96, 114], 48) := by decide +kernel
                    refine Vw.tsIn (n := 328) hts_232 (by decide) (by decide) rfl rfl ?_
                    refine Vw.lload (de_lload (B 328 _ rfl) (B 329 _ rfl)) 10 rfl (n := 330) rfl ?_
                    refine Vw.lload (de_lload (B 330 _ rfl) (B 331 _ rfl)) 11 rfl (n := 332) rfl ?_
                    refine Vw.lcmp (de_lcmp (B 332 _ rfl)) (n := 333) rfl ?_
                    refine Vw.if_le (tgt := 340) (n := 336) (de_if_le (B 333 _ rfl) (B 334 _ rfl) (B 335 _ rfl)) rfl rfl (fun c_333 => ?_) (fun c_333 => ?_)
                    · refine Vw.lconst (v := 0) (de_lconst_0 (B 340 _ rfl)) rfl (n := 341) rfl ?_
                      refine Vw.lstore (lv2 := [(0, _), (1, _), (2, _), (3, _), (4, _), (5, _), (6, _), (7, _), (8, _), (9, _), (10, _), (12, _), (14, _)]) (de_lstore (B 341 _ rfl) (B 342 _ rfl)) (by decide) [1, 2, 3, 4, 5, 6, 7, 8, 9, 10, 11, 12, 0] rfl (n := 343) rfl ?_
                      refine Vw.goto_ (n := 395) (de_goto_ (B 343 _ rfl) (B 344 _ rfl) (B 345 _ rfl)) rfl ?_
                      refine Vw.lvs (lv2 := [(0, _), (1, _), (2, _), (3, _), (4, _), (5, _), (6, _), (7, _), (14, _)]) [0, 1, 2, 3, 4, 5, 6, 7, 12] rfl ?_
                      exact j395 v w r _ hs (by omega) (by rw [hk]; unfold arOp; rw [if_neg (by decide), if_neg (by decide), if_neg (by decide), if_neg (by decide), if_pos rfl]; first | (rw [if_neg (Int64.not_lt.mpr ((lg_cmp_le _ _).mp c_333))]; exact tb0.symm) | (rw [if_pos (Int64.not_le.mp (fun z => c_333 ((lg_cmp_le _ _).mpr z)))]; exact tb1.symm))
                    refine Vw.lconst (v := 1) (de_lconst_1 (B 336 _ rfl)) rfl (n := 337) rfl ?_
                    refine Vw.goto_ (n := 341) (de_goto_ (B 337 _ rfl) (B 338 _ rfl) (B 339 _ rfl)) rfl ?_
                    refine Vw.lstore (lv2 := [(0, _), (1, _), (2, _), (3, _), (4, _), (5, _), (6, _), (7, _), (8, _), (9, _), (10, _), (12, _), (14, _)]) (de_lstore (B 341 _ rfl) (B 342 _ rfl)) (by decide) [1, 2, 3, 4, 5, 6, 7, 8, 9, 10, 11, 12, 0] rfl (n := 343) rfl ?_
                    refine Vw.goto_ (n := 395) (de_goto_ (B 343 _ rfl) (B 344 _ rfl) (B 345 _ rfl)) rfl ?_
                    refine Vw.lvs (lv2 := [(0, _), (1, _), (2, _), (3, _), (4, _), (5, _), (6, _), (7, _), (14, _)]) [0, 1, 2, 3, 4, 5, 6, 7, 12] rfl ?_
                    exact j395 v w r _ hs (by omega) (by rw [hk]; unfold arOp; rw [if_neg (by decide), if_neg (by decide), if_neg (by decide), if_neg (by decide), if_pos rfl]; first | (rw [if_neg (Int64.not_lt.mpr ((lg_cmp_le _ _).mp c_333))]; exact tb0.symm) | (rw [if_pos (Int64.not_le.mp (fun z => c_333 ((lg_cmp_le _ _).mpr z)))]; exact tb1.symm))
                  refine Vw.iconst (v := 0) (de_iconst_0 (B 205 _ rfl)) rfl (n := 206) rfl ?_
                  exact Vw.zret (de_ireturn (B 206 _ rfl)) rfl rfl ⟨_, rfl, (bad M fM (by
    cases st with
    | nil => exact ms_nil (by omega)
    | cons v r => cases r with
      | nil => exact ms_one (by omega)
      | cons w r => exact absurd ((nI_leI (a := 2) (b := top) (by omega) (by omega)).mpr (by rw [ht]; simp)) c_202))⟩
                exact absurd c_173 (by decide)
              exact absurd c_121 (by decide)
            refine Vw.iconst (v := 0) (de_iconst_0 (B 116 _ rfl)) rfl (n := 117) rfl ?_
            exact Vw.zret (de_ireturn (B 117 _ rfl)) rfl rfl ⟨_, rfl, (bad M fM (by cases st with | nil => exact ms_nil (by omega) | cons v r => exact absurd ((nI_leI (a := 1) (b := top) (by omega) (by omega)).mpr (by rw [ht]; simp)) c_113))⟩
          exact absurd c_53 (by decide)
        have d12 : (cw a).1 = 12 → Vw mX6_evaluate d 0 0 0 0 (ViQ Q) 50 [(0, .ref u), (1, .ref ca), (2, .int (nI a0)), (3, .int (nI to)), (4, .ref ka), (5, .int (nI top)), (6, .int (nI (a + 1))), (7, .int (nI i)), (8, .int 12), (9, .int (nI (cw a).2))] [] S I M := by
          intro hk
          refine Vw.iload (de_iload (B 50 _ rfl) (B 51 _ rfl)) 8 rfl (n := 52) rfl ?_
          refine Vw.iconst (v := 1) (de_iconst_1 (B 52 _ rfl)) rfl (n := 53) rfl ?_
          refine Vw.icmp_gt (tgt := 110) (n := 56) (de_icmp_gt (B 53 _ rfl) (B 54 _ rfl) (B 55 _ rfl)) rfl rfl (fun c_53 => ?_) (fun c_53 => ?_)
          · refine Vw.iload (de_iload (B 110 _ rfl) (B 111 _ rfl)) 5 rfl (n := 112) rfl ?_
            refine Vw.iconst (v := 1) (de_iconst_1 (B 112 _ rfl)) rfl (n := 113) rfl ?_
            refine Vw.icmp_ge (tgt := 118) (n := 116) (de_icmp_ge (B 113 _ rfl) (B 114 _ rfl) (B 115 _ rfl)) rfl rfl (fun c_113 => ?_) (fun c_113 => ?_)
            · skip
              refine Vw.iload (de_iload (B 118 _ rfl) (B 119 _ rfl)) 8 rfl (n := 120) rfl ?_
              refine Vw.iconst (v := 3) (de_iconst_3 (B 120 _ rfl)) rfl (n := 121) rfl ?_
              refine Vw.icmp_gt (tgt := 170) (n := 124) (de_icmp_gt (B 121 _ rfl) (B 122 _ rfl) (B 123 _ rfl)) rfl rfl (fun c_121 => ?_) (fun c_121 => ?_)
              · refine Vw.iload (de_iload (B 170 _ rfl) (B 171 _ rfl)) 8 rfl (n := 172) rfl ?_
                refine Vw.iconst (v := 4) (de_iconst_4 (B 172 _ rfl)) rfl (n := 173) rfl ?_
                refine Vw.icmp_ne (tgt := 199) (n := 176) (de_icmp_ne (B 173 _ rfl) (B 174 _ rfl) (B 175 _ rfl)) rfl rfl (fun c_173 => ?_) (fun c_173 => ?_)
                · refine Vw.iload (de_iload (B 199 _ rfl) (B 200 _ rfl)) 5 rfl (n := 201) rfl ?_
                  refine Vw.iconst (v := 2) (de_iconst_2 (B 201 _ rfl)) rfl (n := 202) rfl ?_
                  refine Vw.icmp_ge (tgt := 207) (n := 205) (de_icmp_ge (B 202 _ rfl) (B 203 _ rfl) (B 204 _ rfl)) rfl rfl (fun c_202 => ?_) (fun c_202 => ?_)
                  · obtain ⟨v, w, r, hs⟩ : ∃ v w r, st = v :: w :: r := by
                      have z := (nI_leI (a := 2) (b := top) (by omega) (by omega)).mp c_202
                      cases st with
                      | nil => simp at ht; omega
                      | cons v r => cases r with
                        | nil => simp at ht; omega
                        | cons w r => exact ⟨v, w, r, rfl⟩
                    have sM2 := sM
                    have h402 := h40
                    have ht2 := ht
                    rw [hs] at sM2 h402 ht2
                    simp only [List.length_cons] at h402 ht2
                    have ht3 : top = r.length + 2 := by omega
                    rw [ht3]
                    refine Vw.iinc (v := nI (r.length + 1)) (lv2 := [(0, _), (1, _), (2, _), (3, _), (4, _), (5, _), (6, _), (7, _), (8, _), (9, _)]) (de_iinc (B 207 _ rfl) (B 208 _ rfl) (B 209 _ rfl)) 5 rfl ((inc_m1 _).trans (dn_p _)) (by decide) [1, 2, 3, 4, 5, 0, 6, 7, 8, 9] rfl (n := 210) rfl ?_
                    refine Vw.aload_n (de_aload_0 (B 210 _ rfl)) 0 rfl (n := 211) rfl ?_
                    refine Vw.getR (de_getfield (B 211 _ rfl) (B 212 _ rfl) (B 213 _ rfl)) fl_X6_15 rfl hu hst (n := 214) rfl ?_
                    refine Vw.iload (de_iload (B 214 _ rfl) (B 215 _ rfl)) 5 rfl (n := 216) rfl ?_
                    refine Vw.iconst (v := 1) (de_iconst_1 (B 216 _ rfl)) rfl (n := 217) rfl ?_
                    refine Vw.isub (de_isub (B 217 _ rfl)) (n := 218) rfl ?_
                    rw [dn_p]
                    refine Vw.lald (de_laload (B 218 _ rfl)) hsk (vIx_n (k := r.length) (by simp only [nI_A, nI_M, Int32.zero_add, Int32.add_zero] <;> rfl) (by omega)) (n := 219) rfl ?_
                    rw [sM2.2.1]
                    refine Vw.lstore (lv2 := [(0, _), (1, _), (2, _), (3, _), (4, _), (5, _), (6, _), (7, _), (8, _), (9, _), (10, _)]) (de_lstore (B 219 _ rfl) (B 220 _ rfl)) (by decide) [1, 2, 3, 4, 5, 6, 7, 8, 9, 10, 0] rfl (n := 221) rfl ?_
                    refine Vw.aload_n (de_aload_0 (B 221 _ rfl)) 0 rfl (n := 222) rfl ?_
                    refine Vw.getR (de_getfield (B 222 _ rfl) (B 223 _ rfl) (B 224 _ rfl)) fl_X6_15 rfl hu hst (n := 225) rfl ?_
                    refine Vw.iload (de_iload (B 225 _ rfl) (B 226 _ rfl)) 5 rfl (n := 227) rfl ?_
                    refine Vw.lald (de_laload (B 227 _ rfl)) hsk (vIx_n (k := r.length + 1) (by simp only [nI_A, nI_M, Int32.zero_add, Int32.add_zero] <;> rfl) (by omega)) (n := 228) rfl ?_
                    rw [show M (u + 2) (r.length + 1) = v from sM2.1]
                    refine Vw.lstore (lv2 := [(0, _), (1, _), (2, _), (3, _), (4, _), (5, _), (6, _), (7, _), (8, _), (9, _), (10, _), (12, _)]) (de_lstore (B 228 _ rfl) (B 229 _ rfl)) (by decide) [1, 2, 3, 4, 5, 6, 7, 8, 9, 10, 11, 0] rfl (n := 230) rfl ?_
                    refine Vw.iload (de_iload (B 230 _ rfl) (B 231 _ rfl)) 8 rfl (n := 232) rfl ?_
                    have hts_232 : decode mX6_evaluate.2.1 232 = .ok (.tableswitch 132 5 12 #[48, 58, 68, 132, 132, 78, 96, 114], 48) := by decide +kernel
                    refine Vw.tsIn (n := 346) hts_232 (by decide) (by decide) rfl rfl ?_
                    refine Vw.lload (de_lload (B 346 _ rfl) (B 347 _ rfl)) 10 rfl (n := 348) rfl ?_
                    refine Vw.lload (de_lload (B 348 _ rfl) (B 349 _ rfl)) 11 rfl (n := 350) rfl ?_
                    refine Vw.lcmp (de_lcmp (B 350 _ rfl)) (n := 351) rfl ?_
                    refine Vw.if_ne (tgt := 358) (n := 354) (de_if_ne (B 351 _ rfl) (B 352 _ rfl) (B 353 _ rfl)) rfl rfl (fun c_351 => ?_) (fun c_351 => ?_)
                    · refine Vw.lconst (v := 0) (de_lconst_0 (B 358 _ rfl)) rfl (n := 359) rfl ?_
                      refine Vw.lstore (lv2 := [(0, _), (1, _), (2, _), (3, _), (4, _), (5, _), (6, _), (7, _), (8, _), (9, _), (10, _), (12, _), (14, _)]) (de_lstore (B 359 _ rfl) (B 360 _ rfl)) (by decide) [1, 2, 3, 4, 5, 6, 7, 8, 9, 10, 11, 12, 0] rfl (n := 361) rfl ?_
                      refine Vw.goto_ (n := 395) (de_goto_ (B 361 _ rfl) (B 362 _ rfl) (B 363 _ rfl)) rfl ?_
                      refine Vw.lvs (lv2 := [(0, _), (1, _), (2, _), (3, _), (4, _), (5, _), (6, _), (7, _), (14, _)]) [0, 1, 2, 3, 4, 5, 6, 7, 12] rfl ?_
                      exact j395 v w r _ hs (by omega) (by rw [hk]; unfold arOp; rw [if_neg (by decide), if_neg (by decide), if_neg (by decide), if_neg (by decide), if_neg (by decide), if_pos rfl]; first | (rw [if_neg (fun z => c_351 ((lg_cmp_eq _ _).mpr z))]; exact tb0.symm) | (rw [if_pos ((lg_cmp_eq _ _).mp c_351)]; exact tb1.symm))
                    refine Vw.lconst (v := 1) (de_lconst_1 (B 354 _ rfl)) rfl (n := 355) rfl ?_
                    refine Vw.goto_ (n := 359) (de_goto_ (B 355 _ rfl) (B 356 _ rfl) (B 357 _ rfl)) rfl ?_
                    refine Vw.lstore (lv2 := [(0, _), (1, _), (2, _), (3, _), (4, _), (5, _), (6, _), (7, _), (8, _), (9, _), (10, _), (12, _), (14, _)]) (de_lstore (B 359 _ rfl) (B 360 _ rfl)) (by decide) [1, 2, 3, 4, 5, 6, 7, 8, 9, 10, 11, 12, 0] rfl (n := 361) rfl ?_
                    refine Vw.goto_ (n := 395) (de_goto_ (B 361 _ rfl) (B 362 _ rfl) (B 363 _ rfl)) rfl ?_
                    refine Vw.lvs (lv2 := [(0, _), (1, _), (2, _), (3, _), (4, _), (5, _), (6, _), (7, _), (14, _)]) [0, 1, 2, 3, 4, 5, 6, 7, 12] rfl ?_
                    exact j395 v w r _ hs (by omega) (by rw [hk]; unfold arOp; rw [if_neg (by decide), if_neg (by decide), if_neg (by decide), if_neg (by decide), if_neg (by decide), if_pos rfl]; first | (rw [if_neg (fun z => c_351 ((lg_cmp_eq _ _).mpr z))]; exact tb0.symm) | (rw [if_pos ((lg_cmp_eq _ _).mp c_351)]; exact tb1.symm))
                  refine Vw.iconst (v := 0) (de_iconst_0 (B 205 _ rfl)) rfl (n := 206) rfl ?_
                  exact Vw.zret (de_ireturn (B 206 _ rfl)) rfl rfl ⟨_, rfl, (bad M fM (by
    cases st with
    | nil => exact ms_nil (by omega)
    | cons v r => cases r with
      | nil => exact ms_one (by omega)
      | cons w r => exact absurd ((nI_leI (a := 2) (b := top) (by omega) (by omega)).mpr (by rw [ht]; simp)) c_202))⟩
                exact absurd c_173 (by decide)
              exact absurd c_121 (by decide)
            refine Vw.iconst (v := 0) (de_iconst_0 (B 116 _ rfl)) rfl (n := 117) rfl ?_
            exact Vw.zret (de_ireturn (B 117 _ rfl)) rfl rfl ⟨_, rfl, (bad M fM (by cases st with | nil => exact ms_nil (by omega) | cons v r => exact absurd ((nI_leI (a := 1) (b := top) (by omega) (by omega)).mpr (by rw [ht]; simp)) c_113))⟩
          exact absurd c_53 (by decide)
        refine Vw.iload (de_iload (B 9 _ rfl) (B 10 _ rfl)) 7 rfl (n := 11) rfl ?_
        refine Vw.sipush (v := 400) (de_sipush (B 11 _ rfl) (B 12 _ rfl) (B 13 _ rfl)) rfl (n := 14) rfl ?_
        refine Vw.icmp_ge (tgt := 432) (n := 17) (de_icmp_ge (B 14 _ rfl) (B 15 _ rfl) (B 16 _ rfl)) rfl rfl (fun c_14 => ?_) (fun c_14 => ?_)
        · exact absurd c_14 hi4
        refine Vw.iload (de_iload (B 17 _ rfl) (B 18 _ rfl)) 6 rfl (n := 19) rfl ?_
        refine Vw.iload_n (de_iload_3 (B 19 _ rfl)) 3 rfl (n := 20) rfl ?_
        refine Vw.icmp_ge (tgt := 432) (n := 23) (de_icmp_ge (B 20 _ rfl) (B 21 _ rfl) (B 22 _ rfl)) rfl rfl (fun c_20 => ?_) (fun c_20 => ?_)
        · exact absurd ((nI_leI (a := to) (b := a) (by omega) (by omega)).mp c_20) (by omega)
        refine Vw.iload (de_iload (B 23 _ rfl) (B 24 _ rfl)) 6 rfl (n := 25) rfl ?_
        refine Vw.aload_n (de_aload_1 (B 25 _ rfl)) 1 rfl (n := 26) rfl ?_
        refine Vw.alen (de_arraylength (B 26 _ rfl)) hca (i := nI cl) rfl (n := 27) rfl ?_
        refine Vw.icmp_ge (tgt := 432) (n := 30) (de_icmp_ge (B 27 _ rfl) (B 28 _ rfl) (B 29 _ rfl)) rfl rfl (fun c_27 => ?_) (fun c_27 => ?_)
        · exact absurd ((nI_leI (a := cl) (b := a) (by omega) (by omega)).mp c_27) (by omega)
        refine Vw.aload_n (de_aload_1 (B 30 _ rfl)) 1 rfl (n := 31) rfl ?_
        refine Vw.iload (de_iload (B 31 _ rfl) (B 32 _ rfl)) 6 rfl (n := 33) rfl ?_
        refine Vw.iald (de_iaload (B 33 _ rfl)) hca (vIx_n (k := a) rfl (by omega) (by omega)) (n := 34) rfl ?_
        rw [w1]
        refine Vw.bipush (v := 15) (de_bipush (B 34 _ rfl) (B 35 _ rfl)) rfl (n := 36) rfl ?_
        refine Vw.iand (de_iand (B 36 _ rfl)) (n := 37) rfl ?_
        rw [cw_op w2 w3]
        refine Vw.istore (lv2 := [(0, _), (1, _), (2, _), (3, _), (4, _), (5, _), (6, _), (7, _), (8, _)]) (de_istore (B 37 _ rfl) (B 38 _ rfl)) (by decide) [1, 2, 3, 4, 5, 6, 7, 8, 0] rfl (n := 39) rfl ?_
        refine Vw.aload_n (de_aload_1 (B 39 _ rfl)) 1 rfl (n := 40) rfl ?_
        refine Vw.iload (de_iload (B 40 _ rfl) (B 41 _ rfl)) 6 rfl (n := 42) rfl ?_
        refine Vw.iald (de_iaload (B 42 _ rfl)) hca (vIx_n (k := a) rfl (by omega) (by omega)) (n := 43) rfl ?_
        rw [w1]
        refine Vw.iconst (v := 4) (de_iconst_4 (B 43 _ rfl)) rfl (n := 44) rfl ?_
        refine Vw.ishr (de_ishr (B 44 _ rfl)) (n := 45) rfl ?_
        rw [cw_ar w2 w3]
        refine Vw.istore (lv2 := [(0, _), (1, _), (2, _), (3, _), (4, _), (5, _), (6, _), (7, _), (8, _), (9, _)]) (de_istore (B 45 _ rfl) (B 46 _ rfl)) (by decide) [1, 2, 3, 4, 5, 6, 7, 8, 9, 0] rfl (n := 47) rfl ?_
        refine Vw.iinc (v := nI (a + 1)) (lv2 := [(0, _), (1, _), (2, _), (3, _), (4, _), (5, _), (6, _), (7, _), (8, _), (9, _)]) (de_iinc (B 47 _ rfl) (B 48 _ rfl) (B 49 _ rfl)) 6 rfl (nI_1 a) (by decide) [1, 2, 3, 4, 5, 6, 0, 7, 8, 9] rfl (n := 50) rfl ?_
        have hk13 : (cw a).1 = 0 ∨ (cw a).1 = 1 ∨ (cw a).1 = 2 ∨ (cw a).1 = 3 ∨ (cw a).1 = 4 ∨ (cw a).1 = 5 ∨ (cw a).1 = 6 ∨ (cw a).1 = 7 ∨ (cw a).1 = 8 ∨ (cw a).1 = 9 ∨ (cw a).1 = 10 ∨ (cw a).1 = 11 ∨ (cw a).1 = 12 := by omega
        rcases hk13 with hk | hk | hk | hk | hk | hk | hk | hk | hk | hk | hk | hk | hk
        · have g := d0 hk; rw [hk]; exact g
        · have g := d1 hk; rw [hk]; exact g
        · have g := d2 hk; rw [hk]; exact g
        · have g := d3 hk; rw [hk]; exact g
        · have g := d4 hk; rw [hk]; exact g
        · have g := d5 hk; rw [hk]; exact g
        · have g := d6 hk; rw [hk]; exact g
        · have g := d7 hk; rw [hk]; exact g
        · have g := d8 hk; rw [hk]; exact g
        · have g := d9 hk; rw [hk]; exact g
        · have g := d10 hk; rw [hk]; exact g
        · have g := d11 hk; rw [hk]; exact g
        · have g := d12 hk; rw [hk]; exact g
      · rw [mGo, if_neg hat] at hE
        refine Vw.iload (de_iload (B 9 _ rfl) (B 10 _ rfl)) 7 rfl (n := 11) rfl ?_
        refine Vw.sipush (v := 400) (de_sipush (B 11 _ rfl) (B 12 _ rfl) (B 13 _ rfl)) rfl (n := 14) rfl ?_
        refine Vw.icmp_ge (tgt := 432) (n := 17) (de_icmp_ge (B 14 _ rfl) (B 15 _ rfl) (B 16 _ rfl)) rfl rfl (fun c_14 => ?_) (fun c_14 => ?_)
        · exact absurd c_14 hi4
        refine Vw.iload (de_iload (B 17 _ rfl) (B 18 _ rfl)) 6 rfl (n := 19) rfl ?_
        refine Vw.iload_n (de_iload_3 (B 19 _ rfl)) 3 rfl (n := 20) rfl ?_
        refine Vw.icmp_ge (tgt := 432) (n := 23) (de_icmp_ge (B 20 _ rfl) (B 21 _ rfl) (B 22 _ rfl)) rfl rfl (fun c_20 => ?_) (fun c_20 => ?_)
        · refine Vw.lvs (lv2 := [(0, _), (1, _), (2, _), (3, _), (4, _), (5, _)]) [0, 1, 2, 3, 4, 5] rfl ?_
          exact fin st M top hE fM sM ht h40
        exact absurd ((nI_leI (a := to) (b := a) (by omega) (by omega)).mpr (by omega)) c_20
  refine Vw.iconst (v := 0) (de_iconst_0 (B 0 _ rfl)) rfl (n := 1) rfl ?_
  refine Vw.istore (lv2 := [(0, _), (1, _), (2, _), (3, _), (4, _), (5, _)]) (de_istore (B 1 _ rfl) (B 2 _ rfl)) (by decide) [1, 2, 3, 4, 5, 0] rfl (n := 3) rfl ?_
  refine Vw.iload_n (de_iload_2 (B 3 _ rfl)) 2 rfl (n := 4) rfl ?_
  refine Vw.istore (lv2 := [(0, _), (1, _), (2, _), (3, _), (4, _), (5, _), (6, _)]) (de_istore (B 4 _ rfl) (B 5 _ rfl)) (by decide) [1, 2, 3, 4, 5, 6, 0] rfl (n := 6) rfl ?_
  refine Vw.iconst (v := 0) (de_iconst_0 (B 6 _ rfl)) rfl (n := 7) rfl ?_
  refine Vw.istore (lv2 := [(0, _), (1, _), (2, _), (3, _), (4, _), (5, _), (6, _), (7, _)]) (de_istore (B 7 _ rfl) (B 8 _ rfl)) (by decide) [1, 2, 3, 4, 5, 6, 7, 0] rfl (n := 9) rfl ?_
  exact loop 400 0 a0 [] L 0 rfl (by omega) evalP_R Lev.rfl trivial rfl (by decide)
