/-! The reference's words -/
def WL : List (List Int32) := [[103, 114, 111, 119, 115], [119, 105, 100, 101, 110, 115], [99, 108, 111, 116, 104], [112, 97, 121, 115], [98, 97, 114, 115], [105, 102], [111, 114], [97, 110, 100], [110, 111, 116], [112, 101, 114, 115, 111, 110], [97, 103, 101], [102, 101, 100], [108, 111, 110, 103], [119, 105, 100, 101], [116, 97, 105, 108, 111, 114], [113, 117, 97, 114, 116, 101, 114], [109, 111, 111, 100], [110, 111, 119], [100, 111, 110, 101], [112, 97, 105, 100], [102, 101, 101, 100], [98, 121], [104, 97, 110, 100], [116, 111], [104, 101, 109], [98, 117, 116, 116, 111, 110], [116, 105, 109, 101, 115]]
def wIdx : List (List Int32) → List Int32 → Nat → Int32
  | [], _, _ => 0
  | w :: ws, x, k => if w = x then nI k else wIdx ws x (k + 1)
/-- the letters of a token -/
def lett (u : Nat → Int32) (a b : Nat) : List Int32 := (List.range (b - a)).map (fun i => u (a + i))
def wordF (u : Nat → Int32) (a b : Nat) : Int32 := wIdx WL (lett u a b) 1
def Wd (g : Nat → Int32) : List (List Int32) → Nat → Prop
  | [], k => k = 135
  | w :: ws, k => (∀ x, x < w.length → g (k + x) = w.getD x 0 ∧ ¬ w.getD x 0 = 32) ∧ g (k + w.length) = 32 ∧ k + w.length < 135 ∧ Wd g ws (k + w.length + 1)
theorem lett_len (u : Nat → Int32) (a b : Nat) : (lett u a b).length = b - a := by simp [lett]
theorem lett_eq {u : Nat → Int32} {a b : Nat} {w : List Int32} (h1 : w.length = b - a) (h2 : ∀ x, x < w.length → w.getD x 0 = u (a + x)) : w = lett u a b := by
  apply List.ext_getElem
  · rw [lett_len]; exact h1
  · intro x hx1 hx2
    have := h2 x hx1
    rw [List.getD_eq_getElem?_getD, List.getElem?_eq_getElem hx1] at this
    simpa [lett] using this
theorem lett_ne {u : Nat → Int32} {a b x : Nat} {w : List Int32} (hx : x < w.length) (h : ¬ w.getD x 0 = u (a + x)) : ¬ w = lett u a b := by
  intro e
  apply h
  have hx2 : x < b - a := by rw [e, lett_len] at hx; exact hx
  rw [e]
  simp [lett, hx2]
theorem c_X12_wordOf {d : Nat} {S : vS} {I : vI} {L : vL} {Q : Int32 → vS → vI → vL → Prop} {r : Nat} {a b : Nat} (hM : MS S r) (hab : a ≤ b) (hb : b ≤ 400) (hW : Wd (I (r + 6)) WL 0) (h : Q (wordF (I (r + 7)) a b) S I L) : Vc mX12_wordOf d 0 0 [.ref r, .int (nI a), .int (nI b)] S I L (ViQ Q) := by
  refine Vc.of rfl (Nat.le_of_ble_eq_true rfl) ?_
  have B := bs_X12_wordOf
  show Vw mX12_wordOf d 0 0 0 0 (ViQ Q) 0 [(0, .ref r), (1, .int (nI a)), (2, .int (nI b))] [] S I L
  have outer : ∀ (ws : List (List Int32)) (k c : Nat), k ≤ 135 → Wd (I (r + 6)) ws k → Q (wIdx ws (lett (I (r + 7)) a b) c) S I L → Vw mX12_wordOf d 0 0 0 0 (ViQ Q) 5 [(0, .ref r), (1, .int (nI a)), (2, .int (nI b)), (3, .int (nI c)), (4, .int (nI k))] [] S I L := by
    intro ws
    induction ws with
    | nil =>
      intro k c hk hw hq
      have hw : k = 135 := hw
      subst hw
      refine Vw.iload (de_iload (B 5 _ rfl) (B 6 _ rfl)) 4 rfl (n := 7) rfl ?_
      refine Vw.aload_n (de_aload_0 (B 7 _ rfl)) 0 rfl (n := 8) rfl ?_
      refine Vw.getR (de_getfield (B 8 _ rfl) (B 9 _ rfl) (B 10 _ rfl)) fl_X12_37 rfl hM.k (MS_words hM).1 (n := 11) rfl ?_
      refine Vw.alenB (de_arraylength (B 11 _ rfl)) (MS_words hM).2 rfl (n := 12) rfl ?_
      refine Vw.icmp_ge (tgt := 126) (n := 15) (de_icmp_ge (B 12 _ rfl) (B 13 _ rfl) (B 14 _ rfl)) rfl rfl (fun c_12 => ?_) (fun c_12 => ?_)
      · refine Vw.iconst (v := 0) (de_iconst_0 (B 126 _ rfl)) rfl (n := 127) rfl ?_
        exact Vw.iret (de_ireturn (B 127 _ rfl)) rfl ⟨_, rfl, hq⟩
      exact absurd (by decide) c_12
    | cons w ws ih =>
      intro k c hk hw hq
      obtain ⟨w1, w2, w3, w4⟩ := hw
      have nxt : ¬ w = lett (I (r + 7)) a b → Vw mX12_wordOf d 0 0 0 0 (ViQ Q) 111 [(0, .ref r), (1, .int (nI a)), (2, .int (nI b)), (3, .int (nI c)), (4, .int (nI k)), (5, .int (nI w.length))] [] S I L := by
        intro hne
        have hq2 : Q (wIdx ws (lett (I (r + 7)) a b) (c + 1)) S I L := by rw [wIdx, if_neg hne] at hq; exact hq
        refine Vw.iload (de_iload (B 111 _ rfl) (B 112 _ rfl)) 4 rfl (n := 113) rfl ?_
        refine Vw.iload (de_iload (B 113 _ rfl) (B 114 _ rfl)) 5 rfl (n := 115) rfl ?_
        refine Vw.iconst (v := 1) (de_iconst_1 (B 115 _ rfl)) rfl (n := 116) rfl ?_
        refine Vw.iadd (de_iadd (B 116 _ rfl)) (n := 117) rfl ?_
        refine Vw.iadd (de_iadd (B 117 _ rfl)) (n := 118) rfl ?_
        rw [show nI k + (nI w.length + 1) = nI (k + w.length + 1) from by rw [nI_1, nI_add, Nat.add_assoc]]
        refine Vw.istore (lv2 := [(0, _), (1, _), (2, _), (3, _), (4, _), (5, _)]) (de_istore (B 118 _ rfl) (B 119 _ rfl)) (by decide) [1, 2, 3, 4, 0, 5] rfl (n := 120) rfl ?_
        refine Vw.iinc (v := nI (c + 1)) (lv2 := [(0, _), (1, _), (2, _), (3, _), (4, _), (5, _)]) (de_iinc (B 120 _ rfl) (B 121 _ rfl) (B 122 _ rfl)) 3 rfl (nI_1 c) (by decide) [1, 2, 3, 0, 4, 5] rfl (n := 123) rfl ?_
        refine Vw.goto_ (n := 5) (de_goto_ (B 123 _ rfl) (B 124 _ rfl) (B 125 _ rfl)) rfl ?_
        refine Vw.lvs (lv2 := [(0, _), (1, _), (2, _), (3, _), (4, _)]) [0, 1, 2, 3, 4] rfl ?_
        exact ih (k + w.length + 1) (c + 1) (by omega) w4 hq2
      have fin0 : ¬ w = lett (I (r + 7)) a b → ∀ j, Vw mX12_wordOf d 0 0 0 0 (ViQ Q) 104 [(0, .ref r), (1, .int (nI a)), (2, .int (nI b)), (3, .int (nI c)), (4, .int (nI k)), (5, .int (nI w.length)), (6, .int 0), (7, .int j)] [] S I L := by
        intro hne j
        refine Vw.iload (de_iload (B 104 _ rfl) (B 105 _ rfl)) 6 rfl (n := 106) rfl ?_
        refine Vw.if_eq (tgt := 111) (n := 109) (de_if_eq (B 106 _ rfl) (B 107 _ rfl) (B 108 _ rfl)) rfl rfl (fun c_106 => ?_) (fun c_106 => ?_)
        · refine Vw.lvs (lv2 := [(0, _), (1, _), (2, _), (3, _), (4, _), (5, _)]) [0, 1, 2, 3, 4, 5] rfl ?_
          exact nxt hne
        exact absurd rfl c_106
      have fin1 : w = lett (I (r + 7)) a b → ∀ j, Vw mX12_wordOf d 0 0 0 0 (ViQ Q) 104 [(0, .ref r), (1, .int (nI a)), (2, .int (nI b)), (3, .int (nI c)), (4, .int (nI k)), (5, .int (nI w.length)), (6, .int 1), (7, .int j)] [] S I L := by
        intro he j
        have hq1 : Q (nI c) S I L := by rw [wIdx, if_pos he] at hq; exact hq
        refine Vw.iload (de_iload (B 104 _ rfl) (B 105 _ rfl)) 6 rfl (n := 106) rfl ?_
        refine Vw.if_eq (tgt := 111) (n := 109) (de_if_eq (B 106 _ rfl) (B 107 _ rfl) (B 108 _ rfl)) rfl rfl (fun c_106 => ?_) (fun c_106 => ?_)
        · exact absurd c_106 (by decide)
        refine Vw.iload_n (de_iload_3 (B 109 _ rfl)) 3 rfl (n := 110) rfl ?_
        exact Vw.iret (de_ireturn (B 110 _ rfl)) rfl ⟨_, rfl, hq1⟩
      have cmp0 : ¬ w = lett (I (r + 7)) a b → ∀ j, Vw mX12_wordOf d 0 0 0 0 (ViQ Q) 57 [(0, .ref r), (1, .int (nI a)), (2, .int (nI b)), (3, .int (nI c)), (4, .int (nI k)), (5, .int (nI w.length)), (6, .int 0), (7, .int j)] [] S I L := by
        intro hne j
        refine Vw.iload (de_iload (B 57 _ rfl) (B 58 _ rfl)) 7 rfl (n := 59) rfl ?_
        refine Vw.iload (de_iload (B 59 _ rfl) (B 60 _ rfl)) 5 rfl (n := 61) rfl ?_
        refine Vw.icmp_ge (tgt := 104) (n := 64) (de_icmp_ge (B 61 _ rfl) (B 62 _ rfl) (B 63 _ rfl)) rfl rfl (fun c_61 => ?_) (fun c_61 => ?_)
        · exact fin0 hne j
        refine Vw.iload (de_iload (B 64 _ rfl) (B 65 _ rfl)) 6 rfl (n := 66) rfl ?_
        refine Vw.if_eq (tgt := 104) (n := 69) (de_if_eq (B 66 _ rfl) (B 67 _ rfl) (B 68 _ rfl)) rfl rfl (fun c_66 => ?_) (fun c_66 => ?_)
        · exact fin0 hne j
        exact absurd rfl c_66
      have cmp1 : w.length = b - a → ∀ j, j ≤ w.length → (∀ x, x < j → w.getD x 0 = I (r + 7) (a + x)) → Vw mX12_wordOf d 0 0 0 0 (ViQ Q) 57 [(0, .ref r), (1, .int (nI a)), (2, .int (nI b)), (3, .int (nI c)), (4, .int (nI k)), (5, .int (nI w.length)), (6, .int 1), (7, .int (nI j))] [] S I L := by
        intro hl
        refine loop_up (P := fun j => (∀ x, x < j → w.getD x 0 = I (r + 7) (a + x)) → Vw mX12_wordOf d 0 0 0 0 (ViQ Q) 57 [(0, .ref r), (1, .int (nI a)), (2, .int (nI b)), (3, .int (nI c)), (4, .int (nI k)), (5, .int (nI w.length)), (6, .int 1), (7, .int (nI j))] [] S I L) (fun j hj ih2 hpre => ?_)
        refine Vw.iload (de_iload (B 57 _ rfl) (B 58 _ rfl)) 7 rfl (n := 59) rfl ?_
        refine Vw.iload (de_iload (B 59 _ rfl) (B 60 _ rfl)) 5 rfl (n := 61) rfl ?_
        refine Vw.icmp_ge (tgt := 104) (n := 64) (de_icmp_ge (B 61 _ rfl) (B 62 _ rfl) (B 63 _ rfl)) rfl rfl (fun c_61 => ?_) (fun c_61 => ?_)
        · have z_61 : w.length ≤ j := ((nI_leI (a := w.length) (b := j) (by omega) (by omega)).mp c_61)
          obtain rfl : j = w.length := by omega
          exact fin1 (lett_eq hl hpre) _
        have z_61 : j < w.length := by rcases Nat.lt_or_ge j w.length with z | z; exact z; exact absurd ((nI_leI (a := w.length) (b := j) (by omega) (by omega)).mpr z) c_61
        refine Vw.iload (de_iload (B 64 _ rfl) (B 65 _ rfl)) 6 rfl (n := 66) rfl ?_
        refine Vw.if_eq (tgt := 104) (n := 69) (de_if_eq (B 66 _ rfl) (B 67 _ rfl) (B 68 _ rfl)) rfl rfl (fun c_66 => ?_) (fun c_66 => ?_)
        · exact absurd c_66 (by decide)
        refine Vw.aload_n (de_aload_0 (B 69 _ rfl)) 0 rfl (n := 70) rfl ?_
        refine Vw.getR (de_getfield (B 70 _ rfl) (B 71 _ rfl) (B 72 _ rfl)) fl_X12_37 rfl hM.k (MS_words hM).1 (n := 73) rfl ?_
        refine Vw.iload (de_iload (B 73 _ rfl) (B 74 _ rfl)) 4 rfl (n := 75) rfl ?_
        refine Vw.iload (de_iload (B 75 _ rfl) (B 76 _ rfl)) 7 rfl (n := 77) rfl ?_
        refine Vw.iadd (de_iadd (B 77 _ rfl)) (n := 78) rfl ?_
        refine Vw.bald (de_baload (B 78 _ rfl)) (MS_words hM).2 (vIx_n (k := k + j) (by simp only [nI_A, nI_M, Int32.zero_add, Int32.add_zero] <;> rfl) (by omega)) (n := 79) rfl ?_
        refine Vw.aload_n (de_aload_0 (B 79 _ rfl)) 0 rfl (n := 80) rfl ?_
        refine Vw.getR (de_getfield (B 80 _ rfl) (B 81 _ rfl) (B 82 _ rfl)) fl_X12_41 rfl hM.k (MS_tape hM).1 (n := 83) rfl ?_
        refine Vw.iload_n (de_iload_1 (B 83 _ rfl)) 1 rfl (n := 84) rfl ?_
        refine Vw.iload (de_iload (B 84 _ rfl) (B 85 _ rfl)) 7 rfl (n := 86) rfl ?_
        refine Vw.iadd (de_iadd (B 86 _ rfl)) (n := 87) rfl ?_
        refine Vw.bald (de_baload (B 87 _ rfl)) (MS_tape hM).2 (vIx_n (k := a + j) (by simp only [nI_A, nI_M, Int32.zero_add, Int32.add_zero] <;> rfl) (by omega)) (n := 88) rfl ?_
        refine Vw.icmp_ne (tgt := 95) (n := 91) (de_icmp_ne (B 88 _ rfl) (B 89 _ rfl) (B 90 _ rfl)) rfl rfl (fun c_88 => ?_) (fun c_88 => ?_)
        · refine Vw.iconst (v := 0) (de_iconst_0 (B 95 _ rfl)) rfl (n := 96) rfl ?_
          refine Vw.istore (lv2 := [(0, _), (1, _), (2, _), (3, _), (4, _), (5, _), (6, _), (7, _)]) (de_istore (B 96 _ rfl) (B 97 _ rfl)) (by decide) [1, 2, 3, 4, 5, 6, 0, 7] rfl (n := 98) rfl ?_
          refine Vw.iinc (v := nI (j + 1)) (lv2 := [(0, _), (1, _), (2, _), (3, _), (4, _), (5, _), (6, _), (7, _)]) (de_iinc (B 98 _ rfl) (B 99 _ rfl) (B 100 _ rfl)) 7 rfl (nI_1 j) (by decide) [1, 2, 3, 4, 5, 6, 7, 0] rfl (n := 101) rfl ?_
          refine Vw.goto_ (n := 57) (de_goto_ (B 101 _ rfl) (B 102 _ rfl) (B 103 _ rfl)) rfl ?_
          first
          | exact cmp0 (lett_ne z_61 (by rw [← (w1 j z_61).1]; exact c_88)) _
          | exact ih2 z_61 (fun x hx => by rcases Nat.lt_or_ge x j with q | q; exact hpre x q; rw [show x = j by omega, ← (w1 j z_61).1]; exact c_88)
        refine Vw.iconst (v := 1) (de_iconst_1 (B 91 _ rfl)) rfl (n := 92) rfl ?_
        refine Vw.goto_ (n := 96) (de_goto_ (B 92 _ rfl) (B 93 _ rfl) (B 94 _ rfl)) rfl ?_
        refine Vw.istore (lv2 := [(0, _), (1, _), (2, _), (3, _), (4, _), (5, _), (6, _), (7, _)]) (de_istore (B 96 _ rfl) (B 97 _ rfl)) (by decide) [1, 2, 3, 4, 5, 6, 0, 7] rfl (n := 98) rfl ?_
        refine Vw.iinc (v := nI (j + 1)) (lv2 := [(0, _), (1, _), (2, _), (3, _), (4, _), (5, _), (6, _), (7, _)]) (de_iinc (B 98 _ rfl) (B 99 _ rfl) (B 100 _ rfl)) 7 rfl (nI_1 j) (by decide) [1, 2, 3, 4, 5, 6, 7, 0] rfl (n := 101) rfl ?_
        refine Vw.goto_ (n := 57) (de_goto_ (B 101 _ rfl) (B 102 _ rfl) (B 103 _ rfl)) rfl ?_
        first
        | exact cmp0 (lett_ne z_61 (by rw [← (w1 j z_61).1]; exact c_88)) _
        | exact ih2 z_61 (fun x hx => by rcases Nat.lt_or_ge x j with q | q; exact hpre x q; rw [show x = j by omega, ← (w1 j z_61).1]; exact c_88)
      have len : ∀ j, j ≤ w.length → Vw mX12_wordOf d 0 0 0 0 (ViQ Q) 18 [(0, .ref r), (1, .int (nI a)), (2, .int (nI b)), (3, .int (nI c)), (4, .int (nI k)), (5, .int (nI j))] [] S I L := by
        refine loop_up (fun j hj ih2 => ?_)
        refine Vw.aload_n (de_aload_0 (B 18 _ rfl)) 0 rfl (n := 19) rfl ?_
        refine Vw.getR (de_getfield (B 19 _ rfl) (B 20 _ rfl) (B 21 _ rfl)) fl_X12_37 rfl hM.k (MS_words hM).1 (n := 22) rfl ?_
        refine Vw.iload (de_iload (B 22 _ rfl) (B 23 _ rfl)) 4 rfl (n := 24) rfl ?_
        refine Vw.iload (de_iload (B 24 _ rfl) (B 25 _ rfl)) 5 rfl (n := 26) rfl ?_
        refine Vw.iadd (de_iadd (B 26 _ rfl)) (n := 27) rfl ?_
        refine Vw.bald (de_baload (B 27 _ rfl)) (MS_words hM).2 (vIx_n (k := k + j) (by simp only [nI_A, nI_M, Int32.zero_add, Int32.add_zero] <;> rfl) (by omega)) (n := 28) rfl ?_
        refine Vw.bipush (v := 32) (de_bipush (B 28 _ rfl) (B 29 _ rfl)) rfl (n := 30) rfl ?_
        refine Vw.icmp_eq (tgt := 39) (n := 33) (de_icmp_eq (B 30 _ rfl) (B 31 _ rfl) (B 32 _ rfl)) rfl rfl (fun c_30 => ?_) (fun c_30 => ?_)
        · obtain rfl : j = w.length := by rcases Nat.lt_or_ge j w.length with q | q; exact absurd ((w1 j q).1.symm.trans c_30) (w1 j q).2; omega
          refine Vw.iload (de_iload (B 39 _ rfl) (B 40 _ rfl)) 5 rfl (n := 41) rfl ?_
          refine Vw.iload_n (de_iload_2 (B 41 _ rfl)) 2 rfl (n := 42) rfl ?_
          refine Vw.iload_n (de_iload_1 (B 42 _ rfl)) 1 rfl (n := 43) rfl ?_
          refine Vw.isub (de_isub (B 43 _ rfl)) (n := 44) rfl ?_
          refine Vw.icmp_ne (tgt := 51) (n := 47) (de_icmp_ne (B 44 _ rfl) (B 45 _ rfl) (B 46 _ rfl)) rfl rfl (fun c_44 => ?_) (fun c_44 => ?_)
          · refine Vw.iconst (v := 0) (de_iconst_0 (B 51 _ rfl)) rfl (n := 52) rfl ?_
            refine Vw.istore (lv2 := [(0, _), (1, _), (2, _), (3, _), (4, _), (5, _), (6, _)]) (de_istore (B 52 _ rfl) (B 53 _ rfl)) (by decide) [1, 2, 3, 4, 5, 6, 0] rfl (n := 54) rfl ?_
            refine Vw.iconst (v := 0) (de_iconst_0 (B 54 _ rfl)) rfl (n := 55) rfl ?_
            refine Vw.istore (lv2 := [(0, _), (1, _), (2, _), (3, _), (4, _), (5, _), (6, _), (7, _)]) (de_istore (B 55 _ rfl) (B 56 _ rfl)) (by decide) [1, 2, 3, 4, 5, 6, 7, 0] rfl (n := 57) rfl ?_
            first
            | (refine cmp0 (fun e => c_44 ?_) _; rw [pk_sub hab, e, lett_len])
            | (refine cmp1 (nI_inj (by omega) (by omega) (c_44.trans (pk_sub hab))) 0 (Nat.zero_le _) (fun x hx => absurd hx (Nat.not_lt_zero x)))
          refine Vw.iconst (v := 1) (de_iconst_1 (B 47 _ rfl)) rfl (n := 48) rfl ?_
          refine Vw.goto_ (n := 52) (de_goto_ (B 48 _ rfl) (B 49 _ rfl) (B 50 _ rfl)) rfl ?_
          refine Vw.istore (lv2 := [(0, _), (1, _), (2, _), (3, _), (4, _), (5, _), (6, _)]) (de_istore (B 52 _ rfl) (B 53 _ rfl)) (by decide) [1, 2, 3, 4, 5, 6, 0] rfl (n := 54) rfl ?_
          refine Vw.iconst (v := 0) (de_iconst_0 (B 54 _ rfl)) rfl (n := 55) rfl ?_
          refine Vw.istore (lv2 := [(0, _), (1, _), (2, _), (3, _), (4, _), (5, _), (6, _), (7, _)]) (de_istore (B 55 _ rfl) (B 56 _ rfl)) (by decide) [1, 2, 3, 4, 5, 6, 7, 0] rfl (n := 57) rfl ?_
          first
          | (refine cmp0 (fun e => c_44 ?_) _; rw [pk_sub hab, e, lett_len])
          | (refine cmp1 (nI_inj (by omega) (by omega) (c_44.trans (pk_sub hab))) 0 (Nat.zero_le _) (fun x hx => absurd hx (Nat.not_lt_zero x)))
        refine Vw.iinc (v := nI (j + 1)) (lv2 := [(0, _), (1, _), (2, _), (3, _), (4, _), (5, _)]) (de_iinc (B 33 _ rfl) (B 34 _ rfl) (B 35 _ rfl)) 5 rfl (nI_1 j) (by decide) [1, 2, 3, 4, 5, 0] rfl (n := 36) rfl ?_
        refine Vw.goto_ (n := 18) (de_goto_ (B 36 _ rfl) (B 37 _ rfl) (B 38 _ rfl)) rfl ?_
        exact ih2 (by rcases Nat.lt_or_ge j w.length with q | q; exact q; exact absurd (by rw [show j = w.length by omega]; exact w2) c_30)
      refine Vw.iload (de_iload (B 5 _ rfl) (B 6 _ rfl)) 4 rfl (n := 7) rfl ?_
      refine Vw.aload_n (de_aload_0 (B 7 _ rfl)) 0 rfl (n := 8) rfl ?_
      refine Vw.getR (de_getfield (B 8 _ rfl) (B 9 _ rfl) (B 10 _ rfl)) fl_X12_37 rfl hM.k (MS_words hM).1 (n := 11) rfl ?_
      refine Vw.alenB (de_arraylength (B 11 _ rfl)) (MS_words hM).2 rfl (n := 12) rfl ?_
      refine Vw.icmp_ge (tgt := 126) (n := 15) (de_icmp_ge (B 12 _ rfl) (B 13 _ rfl) (B 14 _ rfl)) rfl rfl (fun c_12 => ?_) (fun c_12 => ?_)
      · exact absurd ((nI_leI (a := 135) (b := k) (by omega) (by omega)).mp c_12) (by omega)
      refine Vw.iconst (v := 0) (de_iconst_0 (B 15 _ rfl)) rfl (n := 16) rfl ?_
      refine Vw.istore (lv2 := [(0, _), (1, _), (2, _), (3, _), (4, _), (5, _)]) (de_istore (B 16 _ rfl) (B 17 _ rfl)) (by decide) [1, 2, 3, 4, 5, 0] rfl (n := 18) rfl ?_
      exact len 0 (Nat.zero_le _)
  refine Vw.iconst (v := 1) (de_iconst_1 (B 0 _ rfl)) rfl (n := 1) rfl ?_
  refine Vw.istore_n (lv2 := [(0, _), (1, _), (2, _), (3, _)]) (de_istore_3 (B 1 _ rfl)) rfl (by decide) [1, 2, 3, 0] rfl (n := 2) rfl ?_
  refine Vw.iconst (v := 0) (de_iconst_0 (B 2 _ rfl)) rfl (n := 3) rfl ?_
  refine Vw.istore (lv2 := [(0, _), (1, _), (2, _), (3, _), (4, _)]) (de_istore (B 3 _ rfl) (B 4 _ rfl)) (by decide) [1, 2, 3, 4, 0] rfl (n := 5) rfl ?_
  exact outer WL 0 1 (by omega) hW h
theorem c_X12_isSmall {d : Nat} {S : vS} {I : vI} {L : vL} {Q : Int32 → vS → vI → vL → Prop} {c : Int32}   (h : Q (zLie c 97 122) S I L) : Vc mX12_isSmall d 0 0 [.int c] S I L (ViQ Q) := by
  refine Vc.of rfl (Nat.le_of_ble_eq_true rfl) ?_
  have B := bs_X12_isSmall
  show Vw mX12_isSmall d 0 0 0 0 (ViQ Q) 0 [(0, .int c)] [] S I L
  refine Vw.iload_n (de_iload_0 (B 0 _ rfl)) 0 rfl (n := 1) rfl ?_
  refine Vw.bipush (v := 97) (de_bipush (B 1 _ rfl) (B 2 _ rfl)) rfl (n := 3) rfl ?_
  refine Vw.icmp_lt (tgt := 16) (n := 6) (de_icmp_lt (B 3 _ rfl) (B 4 _ rfl) (B 5 _ rfl)) rfl rfl (fun c_3 => ?_) (fun c_3 => ?_)
  · refine Vw.iconst (v := 0) (de_iconst_0 (B 16 _ rfl)) rfl (n := 17) rfl ?_
    exact Vw.zret (de_ireturn (B 17 _ rfl)) rfl rfl ⟨_, rfl, (by simpa [zLie, c_3] using h)⟩
  refine Vw.iload_n (de_iload_0 (B 6 _ rfl)) 0 rfl (n := 7) rfl ?_
  refine Vw.bipush (v := 122) (de_bipush (B 7 _ rfl) (B 8 _ rfl)) rfl (n := 9) rfl ?_
  refine Vw.icmp_gt (tgt := 16) (n := 12) (de_icmp_gt (B 9 _ rfl) (B 10 _ rfl) (B 11 _ rfl)) rfl rfl (fun c_9 => ?_) (fun c_9 => ?_)
  · refine Vw.iconst (v := 0) (de_iconst_0 (B 16 _ rfl)) rfl (n := 17) rfl ?_
    exact Vw.zret (de_ireturn (B 17 _ rfl)) rfl rfl ⟨_, rfl, (by simpa [zLie, c_3, c_9] using h)⟩
  refine Vw.iconst (v := 1) (de_iconst_1 (B 12 _ rfl)) rfl (n := 13) rfl ?_
  refine Vw.goto_ (n := 17) (de_goto_ (B 13 _ rfl) (B 14 _ rfl) (B 15 _ rfl)) rfl ?_
  exact Vw.zret (de_ireturn (B 17 _ rfl)) rfl rfl ⟨_, rfl, (by simpa [zLie, c_3, c_9] using h)⟩
theorem c_X12_isDigit {d : Nat} {S : vS} {I : vI} {L : vL} {Q : Int32 → vS → vI → vL → Prop} {c : Int32}   (h : Q (zLie c 48 57) S I L) : Vc mX12_isDigit d 0 0 [.int c] S I L (ViQ Q) := by
  refine Vc.of rfl (Nat.le_of_ble_eq_true rfl) ?_
  have B := bs_X12_isDigit
  show Vw mX12_isDigit d 0 0 0 0 (ViQ Q) 0 [(0, .int c)] [] S I L
  refine Vw.iload_n (de_iload_0 (B 0 _ rfl)) 0 rfl (n := 1) rfl ?_
  refine Vw.bipush (v := 48) (de_bipush (B 1 _ rfl) (B 2 _ rfl)) rfl (n := 3) rfl ?_
  refine Vw.icmp_lt (tgt := 16) (n := 6) (de_icmp_lt (B 3 _ rfl) (B 4 _ rfl) (B 5 _ rfl)) rfl rfl (fun c_3 => ?_) (fun c_3 => ?_)
  · refine Vw.iconst (v := 0) (de_iconst_0 (B 16 _ rfl)) rfl (n := 17) rfl ?_
    exact Vw.zret (de_ireturn (B 17 _ rfl)) rfl rfl ⟨_, rfl, (by simpa [zLie, c_3] using h)⟩
  refine Vw.iload_n (de_iload_0 (B 6 _ rfl)) 0 rfl (n := 7) rfl ?_
  refine Vw.bipush (v := 57) (de_bipush (B 7 _ rfl) (B 8 _ rfl)) rfl (n := 9) rfl ?_
  refine Vw.icmp_gt (tgt := 16) (n := 12) (de_icmp_gt (B 9 _ rfl) (B 10 _ rfl) (B 11 _ rfl)) rfl rfl (fun c_9 => ?_) (fun c_9 => ?_)
  · refine Vw.iconst (v := 0) (de_iconst_0 (B 16 _ rfl)) rfl (n := 17) rfl ?_
    exact Vw.zret (de_ireturn (B 17 _ rfl)) rfl rfl ⟨_, rfl, (by simpa [zLie, c_3, c_9] using h)⟩
  refine Vw.iconst (v := 1) (de_iconst_1 (B 12 _ rfl)) rfl (n := 13) rfl ?_
  refine Vw.goto_ (n := 17) (de_goto_ (B 13 _ rfl) (B 14 _ rfl) (B 15 _ rfl)) rfl ?_
  exact Vw.zret (de_ireturn (B 17 _ rfl)) rfl rfl ⟨_, rfl, (by simpa [zLie, c_3, c_9] using h)⟩
