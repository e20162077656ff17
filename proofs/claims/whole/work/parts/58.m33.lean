/-! hidden(), drawn() -/
def wrH (f : Nat → Bool) : Nat → Int32
  | 0 => 0
  | q + 1 => wrH f q ||| (if f q = true then (0 : Int32) else (1 : Int32) <<< (nI q &&& 31))
theorem wrH_t {f : Nat → Bool} {q : Nat} (h : f q = true) : wrH f (q + 1) = wrH f q ||| 0 := by rw [wrH, if_pos h]
theorem wrH_f {f : Nat → Bool} {q : Nat} (h : f q = false) : wrH f (q + 1) = wrH f q ||| 1 <<< (nI q &&& 31) := by rw [wrH, if_neg (by rw [h]; decide)]
def okH (W : tW) (K : Nat → Int32) (np ns k : Nat) : Bool := decide (k % 8 < np) && decide (wrH (fun q => soK W K q (-1) ns 40) np &&& ((1 <<< (nI (k % 8) &&& 31)) ^^^ (-1)) = 0) && soK W K (k % 8) (nI (k / 8) + 1) ns 40
def hidG (f : Nat → Bool) (i : Int32) : Nat → Nat → Nat → Int32
  | 0, _, n => if i = -1 then nI n else -1
  | m + 1, k, n => if f k = true then (if nI n = i then nI k else hidG f i m (k + 1) (n + 1)) else hidG f i m (k + 1) n
def hidP (W : tW) (K : Nat → Int32) (np ns : Nat) (i : Int32) : Int32 := if -1 ≤ i then hidG (okH W K np ns) i 160 0 0 else -1
theorem okH_1 {W : tW} {K : Nat → Int32} {np ns k : Nat} (h : ¬ k % 8 < np) : okH W K np ns k = false := by unfold okH; rw [decide_eq_false h]; rfl
theorem okH_2 {W : tW} {K : Nat → Int32} {np ns k : Nat} (h : ¬ wrH (fun q => soK W K q (-1) ns 40) np &&& ((1 <<< (nI (k % 8) &&& 31)) ^^^ (-1)) = 0) : okH W K np ns k = false := by unfold okH; rw [decide_eq_false h, Bool.and_false]; rfl
theorem okH_3 {W : tW} {K : Nat → Int32} {np ns k : Nat} (h : bI (soK W K (k % 8) (nI (k / 8) + 1) ns 40) = 0) : okH W K np ns k = false := by
  unfold okH
  cases hq : soK W K (k % 8) (nI (k / 8) + 1) ns 40 with
  | true => rw [hq] at h; exact absurd h (by decide)
  | false => rw [Bool.and_false]
theorem okH_y {W : tW} {K : Nat → Int32} {np ns k : Nat} (h1 : k % 8 < np) (h2 : wrH (fun q => soK W K q (-1) ns 40) np &&& ((1 <<< (nI (k % 8) &&& 31)) ^^^ (-1)) = 0) (h : ¬ bI (soK W K (k % 8) (nI (k / 8) + 1) ns 40) = 0) : okH W K np ns k = true := by
  unfold okH
  cases hq : soK W K (k % 8) (nI (k / 8) + 1) ns 40 with
  | false => rw [hq] at h; exact absurd rfl h
  | true => rw [decide_eq_true h1, decide_eq_true h2]; rfl
theorem lie_np {j np : Nat} (hj : j < 8) (hn : np ≤ 8) : zLie (nI j) 0 (nI np - 1) = 0 ↔ ¬ j < np := by
  constructor
  · intro h q
    have := (zLie_iff (nI j) 0 (nI np - 1))
    refine absurd h (this.mpr ?_)
    rw [i32_sub (by rw [nI_ti (by omega)]; show _ ≤ _ - (1 : Int); omega) (by rw [nI_ti (by omega)]; show _ - (1 : Int) < _; omega), nI_ti (by omega), nI_ti (by omega)]
    show (0 : Int) ≤ _ ∧ _ ≤ _ - (1 : Int)
    omega
  · intro q
    rcases zLie_01 (nI j) 0 (nI np - 1) with h | h
    · exact h
    · obtain ⟨i, h1, h2⟩ := lie_ex (p := nI j) (n := np) (by omega) (by rw [h]; decide)
      have := nI_inj (by omega) (by omega) h2
      omega
theorem c_X12_hidden {d : Nat} {S : vS} {I : vI} {L : vL} {Q : Int32 → vS → vI → vL → Prop} {r : Nat} {x : Int32} {ns : Nat} {np nc : Nat} {W : tW} (hM : MS S r) (hW : WD (I (r + 2)) W) (hT : TN (I (r + 2)) np nc) (hs : I (r + 2) 143 = nI ns) (hs6 : ns ≤ 6) (h : ∀ I2, Fr r I I2 → Q (hidP W (I (r + 2)) np ns x) S I2 L) : Vc mX12_hidden (d + 46) 0 0 [.ref r, .int x] S I L (ViQ Q) := by
  refine Vc.of rfl (Nat.le_of_ble_eq_true rfl) ?_
  have B := bs_X12_hidden
  show Vw mX12_hidden (d + 46) 0 0 0 0 (ViQ Q) 0 [(0, .ref r), (1, .int x)] [] S I L
  have hnp := hT.1
  have hnc := hT.2.1
  have e142 := hT.2.2.1
  have e112 := hT.2.2.2.1
  have loop2 : -1 ≤ x → ∀ k, k ≤ 160 → ∀ n J, Fr r I J → hidP W (I (r + 2)) np ns x = hidG (okH W (I (r + 2)) np ns) x (160 - k) k n → Vw mX12_hidden (d + 46) 0 0 0 0 (ViQ Q) 49 [(0, .ref r), (1, .int x), (2, .int (wrH (fun q => soK W (I (r + 2)) q (-1) ns 40) np)), (3, .int (nI n)), (4, .int (nI k))] [] S J L := by
    intro hx
    refine loop_up (fun k hk ih => ?_)
    intro n J fJ eJ
    have kJ := fJ.k
    refine Vw.iload (de_iload (B 49 _ rfl) (B 50 _ rfl)) 4 rfl (n := 51) rfl ?_
    refine Vw.sipush (v := 160) (de_sipush (B 51 _ rfl) (B 52 _ rfl) (B 53 _ rfl)) rfl (n := 54) rfl ?_
    refine Vw.icmp_ge (tgt := 120) (n := 57) (de_icmp_ge (B 54 _ rfl) (B 55 _ rfl) (B 56 _ rfl)) rfl rfl (fun c_54 => ?_) (fun c_54 => ?_)
    · have z_54 : 160 ≤ k := ((nI_leI (a := 160) (b := k) (by omega) (by omega)).mp c_54)
      obtain rfl : k = 160 := by omega
      rw [Nat.sub_self, hidG] at eJ
      refine Vw.iload_n (de_iload_1 (B 120 _ rfl)) 1 rfl (n := 121) rfl ?_
      refine Vw.iconst (v := -1) (de_iconst_m1 (B 121 _ rfl)) rfl (n := 122) rfl ?_
      refine Vw.icmp_ne (tgt := 129) (n := 125) (de_icmp_ne (B 122 _ rfl) (B 123 _ rfl) (B 124 _ rfl)) rfl rfl (fun c_122 => ?_) (fun c_122 => ?_)
      · refine Vw.iconst (v := -1) (de_iconst_m1 (B 129 _ rfl)) rfl (n := 130) rfl ?_
        exact Vw.iret (de_ireturn (B 130 _ rfl)) rfl ⟨_, rfl, (qv (by rw [eJ]; first | exact if_pos c_122 | exact if_neg c_122) (h _ fJ))⟩
      refine Vw.iload_n (de_iload_3 (B 125 _ rfl)) 3 rfl (n := 126) rfl ?_
      refine Vw.goto_ (n := 130) (de_goto_ (B 126 _ rfl) (B 127 _ rfl) (B 128 _ rfl)) rfl ?_
      exact Vw.iret (de_ireturn (B 130 _ rfl)) rfl ⟨_, rfl, (qv (by rw [eJ]; first | exact if_pos c_122 | exact if_neg c_122) (h _ fJ))⟩
    have z_54 : k < 160 := by rcases Nat.lt_or_ge k 160 with z | z; exact z; exact absurd ((nI_leI (a := 160) (b := k) (by omega) (by omega)).mpr z) c_54
    rw [show 160 - k = (160 - (k + 1)) + 1 by omega, hidG] at eJ
    refine Vw.iload (de_iload (B 57 _ rfl) (B 58 _ rfl)) 4 rfl (n := 59) rfl ?_
    refine Vw.bipush (v := 8) (de_bipush (B 59 _ rfl) (B 60 _ rfl)) rfl (n := 61) rfl ?_
    refine Vw.irem (de_irem (B 61 _ rfl)) (by decide) (n := 62) rfl ?_
    rw [show (8 : Int32) = nI 8 from rfl, nI_rem (by omega) (by decide)]
    refine Vw.istore (lv2 := [(0, _), (1, _), (2, _), (3, _), (4, _), (5, _)]) (de_istore (B 62 _ rfl) (B 63 _ rfl)) (by decide) [1, 2, 3, 4, 5, 0] rfl (n := 64) rfl ?_
    refine Vw.aload_n (de_aload_0 (B 64 _ rfl)) 0 rfl (n := 65) rfl ?_
    refine Vw.iload (de_iload (B 65 _ rfl) (B 66 _ rfl)) 5 rfl (n := 67) rfl ?_
    refine Vw.ivi1 (mi' := mX12_isPerson) (de_invokevirtual (B 67 _ rfl) (B 68 _ rfl) (B 69 _ rfl)) ml_X12_132 mv_X12_isPerson hM.k (Nat.le_of_ble_eq_true rfl) (n := 70) rfl (c_X12_isPerson hM ?_)
    rw [kJ, e142]
    refine Vw.if_eq (tgt := 114) (n := 73) (de_if_eq (B 70 _ rfl) (B 71 _ rfl) (B 72 _ rfl)) rfl rfl (fun c_70 => ?_) (fun c_70 => ?_)
    · refine Vw.iinc (v := nI (k + 1)) (lv2 := [(0, _), (1, _), (2, _), (3, _), (4, _), (5, _)]) (de_iinc (B 114 _ rfl) (B 115 _ rfl) (B 116 _ rfl)) 4 rfl (nI_1 k) (by decide) [1, 2, 3, 4, 0, 5] rfl (n := 117) rfl ?_
      refine Vw.goto_ (n := 49) (de_goto_ (B 117 _ rfl) (B 118 _ rfl) (B 119 _ rfl)) rfl ?_
      refine Vw.lvs (lv2 := [(0, _), (1, _), (2, _), (3, _), (4, _)]) [0, 1, 2, 3, 4] rfl ?_
      first
      | (rw [if_neg (by rw [okH_1 ((lie_np (by omega) hnp).mp c_70)]; decide)] at eJ; exact ih z_54 n J fJ eJ)
      | (rw [if_neg (by rw [okH_2 c_81]; decide)] at eJ; exact ih z_54 n J fJ eJ)
      | (rw [if_neg (by rw [okH_3 c_97]; decide)] at eJ; exact ih z_54 n I3 (fJ.trans f3) eJ)
      | (rw [if_neg c_105] at eJ; exact ih z_54 (n + 1) I3 (fJ.trans f3) eJ)
    have hp : k % 8 < np := by rcases Nat.lt_or_ge (k % 8) np with z | z; exact z; exact absurd ((lie_np (by omega) hnp).mpr (by omega)) c_70
    refine Vw.iload_n (de_iload_2 (B 73 _ rfl)) 2 rfl (n := 74) rfl ?_
    refine Vw.iconst (v := 1) (de_iconst_1 (B 74 _ rfl)) rfl (n := 75) rfl ?_
    refine Vw.iload (de_iload (B 75 _ rfl) (B 76 _ rfl)) 5 rfl (n := 77) rfl ?_
    refine Vw.ishl (de_ishl (B 77 _ rfl)) (n := 78) rfl ?_
    refine Vw.iconst (v := -1) (de_iconst_m1 (B 78 _ rfl)) rfl (n := 79) rfl ?_
    refine Vw.ixor (de_ixor (B 79 _ rfl)) (n := 80) rfl ?_
    refine Vw.iand (de_iand (B 80 _ rfl)) (n := 81) rfl ?_
    refine Vw.if_ne (tgt := 114) (n := 84) (de_if_ne (B 81 _ rfl) (B 82 _ rfl) (B 83 _ rfl)) rfl rfl (fun c_81 => ?_) (fun c_81 => ?_)
    · refine Vw.iinc (v := nI (k + 1)) (lv2 := [(0, _), (1, _), (2, _), (3, _), (4, _), (5, _)]) (de_iinc (B 114 _ rfl) (B 115 _ rfl) (B 116 _ rfl)) 4 rfl (nI_1 k) (by decide) [1, 2, 3, 4, 0, 5] rfl (n := 117) rfl ?_
      refine Vw.goto_ (n := 49) (de_goto_ (B 117 _ rfl) (B 118 _ rfl) (B 119 _ rfl)) rfl ?_
      refine Vw.lvs (lv2 := [(0, _), (1, _), (2, _), (3, _), (4, _)]) [0, 1, 2, 3, 4] rfl ?_
      first
      | (rw [if_neg (by rw [okH_1 ((lie_np (by omega) hnp).mp c_70)]; decide)] at eJ; exact ih z_54 n J fJ eJ)
      | (rw [if_neg (by rw [okH_2 c_81]; decide)] at eJ; exact ih z_54 n J fJ eJ)
      | (rw [if_neg (by rw [okH_3 c_97]; decide)] at eJ; exact ih z_54 n I3 (fJ.trans f3) eJ)
      | (rw [if_neg c_105] at eJ; exact ih z_54 (n + 1) I3 (fJ.trans f3) eJ)
    refine Vw.aload_n (de_aload_0 (B 84 _ rfl)) 0 rfl (n := 85) rfl ?_
    refine Vw.iload (de_iload (B 85 _ rfl) (B 86 _ rfl)) 5 rfl (n := 87) rfl ?_
    refine Vw.iload (de_iload (B 87 _ rfl) (B 88 _ rfl)) 4 rfl (n := 89) rfl ?_
    refine Vw.bipush (v := 8) (de_bipush (B 89 _ rfl) (B 90 _ rfl)) rfl (n := 91) rfl ?_
    refine Vw.idiv (de_idiv (B 91 _ rfl)) (by decide) (n := 92) rfl ?_
    rw [show (8 : Int32) = nI 8 from rfl, nI_div (by omega) (by decide)]
    refine Vw.iconst (v := 1) (de_iconst_1 (B 92 _ rfl)) rfl (n := 93) rfl ?_
    refine Vw.iadd (de_iadd (B 93 _ rfl)) (n := 94) rfl ?_
    refine Vw.ivi2 (mi' := mX12_areSo) (de_invokevirtual (B 94 _ rfl) (B 95 _ rfl) (B 96 _ rfl)) ml_X12_428 mv_X12_areSo hM.k (Nat.le_of_ble_eq_true rfl) (n := 97) rfl (c_X12_areSo (W := W) (ns := ns) hM (by rw [kJ]; exact hW) (by omega) (by rw [kJ]; exact hs) hs6 (fun I3 f3 => ?_))
    rw [kJ]
    refine Vw.if_ne (tgt := 103) (n := 100) (de_if_ne (B 97 _ rfl) (B 98 _ rfl) (B 99 _ rfl)) rfl rfl (fun c_97 => ?_) (fun c_97 => ?_)
    · have ok := okH_y hp c_81 c_97
      rw [if_pos ok] at eJ
      refine Vw.iload_n (de_iload_3 (B 103 _ rfl)) 3 rfl (n := 104) rfl ?_
      refine Vw.iload_n (de_iload_1 (B 104 _ rfl)) 1 rfl (n := 105) rfl ?_
      refine Vw.icmp_ne (tgt := 111) (n := 108) (de_icmp_ne (B 105 _ rfl) (B 106 _ rfl) (B 107 _ rfl)) rfl rfl (fun c_105 => ?_) (fun c_105 => ?_)
      · refine Vw.iinc (v := nI (n + 1)) (lv2 := [(0, _), (1, _), (2, _), (3, _), (4, _), (5, _)]) (de_iinc (B 111 _ rfl) (B 112 _ rfl) (B 113 _ rfl)) 3 rfl (nI_1 n) (by decide) [1, 2, 3, 0, 4, 5] rfl (n := 114) rfl ?_
        refine Vw.iinc (v := nI (k + 1)) (lv2 := [(0, _), (1, _), (2, _), (3, _), (4, _), (5, _)]) (de_iinc (B 114 _ rfl) (B 115 _ rfl) (B 116 _ rfl)) 4 rfl (nI_1 k) (by decide) [1, 2, 3, 4, 0, 5] rfl (n := 117) rfl ?_
        refine Vw.goto_ (n := 49) (de_goto_ (B 117 _ rfl) (B 118 _ rfl) (B 119 _ rfl)) rfl ?_
        refine Vw.lvs (lv2 := [(0, _), (1, _), (2, _), (3, _), (4, _)]) [0, 1, 2, 3, 4] rfl ?_
        first
        | (rw [if_neg (by rw [okH_1 ((lie_np (by omega) hnp).mp c_70)]; decide)] at eJ; exact ih z_54 n J fJ eJ)
        | (rw [if_neg (by rw [okH_2 c_81]; decide)] at eJ; exact ih z_54 n J fJ eJ)
        | (rw [if_neg (by rw [okH_3 c_97]; decide)] at eJ; exact ih z_54 n I3 (fJ.trans f3) eJ)
        | (rw [if_neg c_105] at eJ; exact ih z_54 (n + 1) I3 (fJ.trans f3) eJ)
      refine Vw.iload (de_iload (B 108 _ rfl) (B 109 _ rfl)) 4 rfl (n := 110) rfl ?_
      exact Vw.iret (de_ireturn (B 110 _ rfl)) rfl ⟨_, rfl, (qv (by rw [eJ, if_pos c_105]) (h _ (fJ.trans f3)))⟩
    refine Vw.goto_ (n := 114) (de_goto_ (B 100 _ rfl) (B 101 _ rfl) (B 102 _ rfl)) rfl ?_
    refine Vw.iinc (v := nI (k + 1)) (lv2 := [(0, _), (1, _), (2, _), (3, _), (4, _), (5, _)]) (de_iinc (B 114 _ rfl) (B 115 _ rfl) (B 116 _ rfl)) 4 rfl (nI_1 k) (by decide) [1, 2, 3, 4, 0, 5] rfl (n := 117) rfl ?_
    refine Vw.goto_ (n := 49) (de_goto_ (B 117 _ rfl) (B 118 _ rfl) (B 119 _ rfl)) rfl ?_
    refine Vw.lvs (lv2 := [(0, _), (1, _), (2, _), (3, _), (4, _)]) [0, 1, 2, 3, 4] rfl ?_
    first
    | (rw [if_neg (by rw [okH_1 ((lie_np (by omega) hnp).mp c_70)]; decide)] at eJ; exact ih z_54 n J fJ eJ)
    | (rw [if_neg (by rw [okH_2 c_81]; decide)] at eJ; exact ih z_54 n J fJ eJ)
    | (rw [if_neg (by rw [okH_3 c_97]; decide)] at eJ; exact ih z_54 n I3 (fJ.trans f3) eJ)
    | (rw [if_neg c_105] at eJ; exact ih z_54 (n + 1) I3 (fJ.trans f3) eJ)
  have loop1 : -1 ≤ x → ∀ q, q ≤ np → ∀ J, Fr r I J → Vw mX12_hidden (d + 46) 0 0 0 0 (ViQ Q) 11 [(0, .ref r), (1, .int x), (2, .int (wrH (fun q => soK W (I (r + 2)) q (-1) ns 40) q)), (3, .int (nI q))] [] S J L := by
    intro hx
    refine loop_up (fun q hq ih => ?_)
    intro J fJ
    have kJ := fJ.k
    refine Vw.iload_n (de_iload_3 (B 11 _ rfl)) 3 rfl (n := 12) rfl ?_
    refine Vw.aload_n (de_aload_0 (B 12 _ rfl)) 0 rfl (n := 13) rfl ?_
    refine Vw.ivi0 (mi' := mX12_people) (de_invokevirtual (B 13 _ rfl) (B 14 _ rfl) (B 15 _ rfl)) ml_X12_121 mv_X12_people hM.k (Nat.le_of_ble_eq_true rfl) (n := 16) rfl (c_X12_people hM ?_)
    rw [kJ, e142]
    refine Vw.icmp_ge (tgt := 44) (n := 19) (de_icmp_ge (B 16 _ rfl) (B 17 _ rfl) (B 18 _ rfl)) rfl rfl (fun c_16 => ?_) (fun c_16 => ?_)
    · have z_16 : np ≤ q := ((nI_leI (a := np) (b := q) (by omega) (by omega)).mp c_16)
      obtain rfl : q = np := by omega
      refine Vw.iconst (v := 0) (de_iconst_0 (B 44 _ rfl)) rfl (n := 45) rfl ?_
      refine Vw.istore_n (lv2 := [(0, _), (1, _), (2, _), (3, _)]) (de_istore_3 (B 45 _ rfl)) rfl (by decide) [1, 2, 3, 0] rfl (n := 46) rfl ?_
      refine Vw.iconst (v := 0) (de_iconst_0 (B 46 _ rfl)) rfl (n := 47) rfl ?_
      refine Vw.istore (lv2 := [(0, _), (1, _), (2, _), (3, _), (4, _)]) (de_istore (B 47 _ rfl) (B 48 _ rfl)) (by decide) [1, 2, 3, 4, 0] rfl (n := 49) rfl ?_
      exact loop2 hx 0 (Nat.zero_le _) 0 J fJ (by unfold hidP; rw [if_pos hx])
    have z_16 : q < np := by rcases Nat.lt_or_ge q np with z | z; exact z; exact absurd ((nI_leI (a := np) (b := q) (by omega) (by omega)).mpr z) c_16
    refine Vw.iload_n (de_iload_2 (B 19 _ rfl)) 2 rfl (n := 20) rfl ?_
    refine Vw.aload_n (de_aload_0 (B 20 _ rfl)) 0 rfl (n := 21) rfl ?_
    refine Vw.iload_n (de_iload_3 (B 21 _ rfl)) 3 rfl (n := 22) rfl ?_
    refine Vw.iconst (v := -1) (de_iconst_m1 (B 22 _ rfl)) rfl (n := 23) rfl ?_
    refine Vw.ivi2 (mi' := mX12_areSo) (de_invokevirtual (B 23 _ rfl) (B 24 _ rfl) (B 25 _ rfl)) ml_X12_428 mv_X12_areSo hM.k (Nat.le_of_ble_eq_true rfl) (n := 26) rfl (c_X12_areSo (W := W) (ns := ns) hM (by rw [kJ]; exact hW) (by omega) (by rw [kJ]; exact hs) hs6 (fun I3 f3 => ?_))
    rw [kJ]
    refine Vw.if_eq (tgt := 33) (n := 29) (de_if_eq (B 26 _ rfl) (B 27 _ rfl) (B 28 _ rfl)) rfl rfl (fun c_26 => ?_) (fun c_26 => ?_)
    · refine Vw.iconst (v := 1) (de_iconst_1 (B 33 _ rfl)) rfl (n := 34) rfl ?_
      refine Vw.iload_n (de_iload_3 (B 34 _ rfl)) 3 rfl (n := 35) rfl ?_
      refine Vw.ishl (de_ishl (B 35 _ rfl)) (n := 36) rfl ?_
      refine Vw.ior (de_ior (B 36 _ rfl)) (n := 37) rfl ?_
      refine Vw.istore_n (lv2 := [(0, _), (1, _), (2, _), (3, _)]) (de_istore_2 (B 37 _ rfl)) rfl (by decide) [1, 2, 0, 3] rfl (n := 38) rfl ?_
      refine Vw.iinc (v := nI (q + 1)) (lv2 := [(0, _), (1, _), (2, _), (3, _)]) (de_iinc (B 38 _ rfl) (B 39 _ rfl) (B 40 _ rfl)) 3 rfl (nI_1 q) (by decide) [1, 2, 3, 0] rfl (n := 41) rfl ?_
      refine Vw.goto_ (n := 11) (de_goto_ (B 41 _ rfl) (B 42 _ rfl) (B 43 _ rfl)) rfl ?_
      have g := ih z_16 I3 (fJ.trans f3)
      cases hb : soK W (I (r + 2)) q (-1) ns 40 with
      | true => first | exact absurd (by rw [hb] at c_26; exact c_26) (show ¬ bI true = 0 by decide) | (rw [wrH_t (f := fun q => soK W (I (r + 2)) q (-1) ns 40) hb] at g; exact g)
      | false => first | exact absurd rfl (by rw [hb] at c_26; exact c_26) | (rw [wrH_f (f := fun q => soK W (I (r + 2)) q (-1) ns 40) hb] at g; exact g)
    refine Vw.iconst (v := 0) (de_iconst_0 (B 29 _ rfl)) rfl (n := 30) rfl ?_
    refine Vw.goto_ (n := 36) (de_goto_ (B 30 _ rfl) (B 31 _ rfl) (B 32 _ rfl)) rfl ?_
    refine Vw.ior (de_ior (B 36 _ rfl)) (n := 37) rfl ?_
    refine Vw.istore_n (lv2 := [(0, _), (1, _), (2, _), (3, _)]) (de_istore_2 (B 37 _ rfl)) rfl (by decide) [1, 2, 0, 3] rfl (n := 38) rfl ?_
    refine Vw.iinc (v := nI (q + 1)) (lv2 := [(0, _), (1, _), (2, _), (3, _)]) (de_iinc (B 38 _ rfl) (B 39 _ rfl) (B 40 _ rfl)) 3 rfl (nI_1 q) (by decide) [1, 2, 3, 0] rfl (n := 41) rfl ?_
    refine Vw.goto_ (n := 11) (de_goto_ (B 41 _ rfl) (B 42 _ rfl) (B 43 _ rfl)) rfl ?_
    have g := ih z_16 I3 (fJ.trans f3)
    cases hb : soK W (I (r + 2)) q (-1) ns 40 with
    | true => first | exact absurd (by rw [hb] at c_26; exact c_26) (show ¬ bI true = 0 by decide) | (rw [wrH_t (f := fun q => soK W (I (r + 2)) q (-1) ns 40) hb] at g; exact g)
    | false => first | exact absurd rfl (by rw [hb] at c_26; exact c_26) | (rw [wrH_f (f := fun q => soK W (I (r + 2)) q (-1) ns 40) hb] at g; exact g)
  refine Vw.iload_n (de_iload_1 (B 0 _ rfl)) 1 rfl (n := 1) rfl ?_
  refine Vw.iconst (v := -1) (de_iconst_m1 (B 1 _ rfl)) rfl (n := 2) rfl ?_
  refine Vw.icmp_ge (tgt := 7) (n := 5) (de_icmp_ge (B 2 _ rfl) (B 3 _ rfl) (B 4 _ rfl)) rfl rfl (fun c_2 => ?_) (fun c_2 => ?_)
  · refine Vw.iconst (v := 0) (de_iconst_0 (B 7 _ rfl)) rfl (n := 8) rfl ?_
    refine Vw.istore_n (lv2 := [(0, _), (1, _), (2, _)]) (de_istore_2 (B 8 _ rfl)) rfl (by decide) [1, 2, 0] rfl (n := 9) rfl ?_
    refine Vw.iconst (v := 0) (de_iconst_0 (B 9 _ rfl)) rfl (n := 10) rfl ?_
    refine Vw.istore_n (lv2 := [(0, _), (1, _), (2, _), (3, _)]) (de_istore_3 (B 10 _ rfl)) rfl (by decide) [1, 2, 3, 0] rfl (n := 11) rfl ?_
    exact loop1 c_2 0 (Nat.zero_le _) I Fr.rfl
  refine Vw.iconst (v := -1) (de_iconst_m1 (B 5 _ rfl)) rfl (n := 6) rfl ?_
  exact Vw.iret (de_ireturn (B 6 _ rfl)) rfl ⟨_, rfl, (qv (by unfold hidP; rw [if_neg c_2]) (h I Fr.rfl))⟩
def drawnP (has : Int32) (nd : Nat) (wd got : Nat → Int32) (k x : Int32) : Int32 := if has = 0 then -1 else if x = 0 then (if zLie k 0 (nI nd - 1) = 0 then -1 else wd k.toNatClampNeg) else if x = 1 then (if zLie k 0 3 = 0 then -1 else got k.toNatClampNeg) else -1
theorem c_X12_drawn {d : Nat} {S : vS} {I : vI} {L : vL} {Q : Int32 → vS → vI → vL → Prop} {r : Nat} {k x : Int32} {nd : Nat}  (hM : MS S r) (hd : I r 54 = nI nd) (hd8 : nd ≤ 8) (h : Q (drawnP (I r 56) nd (I (r + 26)) (I (r + 27)) k x) S I L) : Vc mX12_drawn (d + 2) 0 0 [.ref r, .int k, .int x] S I L (ViQ Q) := by
  refine Vc.of rfl (Nat.le_of_ble_eq_true rfl) ?_
  have B := bs_X12_drawn
  show Vw mX12_drawn (d + 2) 0 0 0 0 (ViQ Q) 0 [(0, .ref r), (1, .int k), (2, .int x)] [] S I L
  refine Vw.aload_n (de_aload_0 (B 0 _ rfl)) 0 rfl (n := 1) rfl ?_
  refine Vw.getI (de_getfield (B 1 _ rfl) (B 2 _ rfl) (B 3 _ rfl)) fl_X12_486 rfl hM.k (n := 4) rfl ?_
  refine Vw.if_ne (tgt := 9) (n := 7) (de_if_ne (B 4 _ rfl) (B 5 _ rfl) (B 6 _ rfl)) rfl rfl (fun c_4 => ?_) (fun c_4 => ?_)
  · refine Vw.iload_n (de_iload_2 (B 9 _ rfl)) 2 rfl (n := 10) rfl ?_
    refine Vw.if_ne (tgt := 38) (n := 13) (de_if_ne (B 10 _ rfl) (B 11 _ rfl) (B 12 _ rfl)) rfl rfl (fun c_10 => ?_) (fun c_10 => ?_)
    · refine Vw.iload_n (de_iload_2 (B 38 _ rfl)) 2 rfl (n := 39) rfl ?_
      refine Vw.iconst (v := 1) (de_iconst_1 (B 39 _ rfl)) rfl (n := 40) rfl ?_
      refine Vw.icmp_ne (tgt := 59) (n := 43) (de_icmp_ne (B 40 _ rfl) (B 41 _ rfl) (B 42 _ rfl)) rfl rfl (fun c_40 => ?_) (fun c_40 => ?_)
      · refine Vw.iconst (v := -1) (de_iconst_m1 (B 59 _ rfl)) rfl (n := 60) rfl ?_
        exact Vw.iret (de_ireturn (B 60 _ rfl)) rfl ⟨_, rfl, (by first | exact qv (by unfold drawnP; rw [if_neg c_4, if_neg c_10, if_neg c_40]) h | exact qv (by unfold drawnP; rw [if_neg c_4, if_neg c_10, if_pos c_40, if_pos c_47]) h | exact qv (by unfold drawnP; rw [if_neg c_4, if_neg c_10, if_pos c_40, if_neg c_47, nI_cl (by omega)]) h)⟩
      refine Vw.iload_n (de_iload_1 (B 43 _ rfl)) 1 rfl (n := 44) rfl ?_
      refine Vw.isi1 (mi' := mX12_isTailor) (de_invokestatic (B 44 _ rfl) (B 45 _ rfl) (B 46 _ rfl)) ml_X12_159 ms_X12_isTailor (Nat.le_of_ble_eq_true rfl) (n := 47) rfl (c_X12_isTailor ?_)
      refine Vw.if_eq (tgt := 59) (n := 50) (de_if_eq (B 47 _ rfl) (B 48 _ rfl) (B 49 _ rfl)) rfl rfl (fun c_47 => ?_) (fun c_47 => ?_)
      · refine Vw.iconst (v := -1) (de_iconst_m1 (B 59 _ rfl)) rfl (n := 60) rfl ?_
        exact Vw.iret (de_ireturn (B 60 _ rfl)) rfl ⟨_, rfl, (by first | exact qv (by unfold drawnP; rw [if_neg c_4, if_neg c_10, if_neg c_40]) h | exact qv (by unfold drawnP; rw [if_neg c_4, if_neg c_10, if_pos c_40, if_pos c_47]) h | exact qv (by unfold drawnP; rw [if_neg c_4, if_neg c_10, if_pos c_40, if_neg c_47, nI_cl (by omega)]) h)⟩
      obtain ⟨j, hj, ej⟩ := lie_n (N := 3) (by decide) c_47
      subst ej
      refine Vw.aload_n (de_aload_0 (B 50 _ rfl)) 0 rfl (n := 51) rfl ?_
      refine Vw.getR (de_getfield (B 51 _ rfl) (B 52 _ rfl) (B 53 _ rfl)) fl_X12_108 rfl hM.k (MS_drawnGot hM).1 (n := 54) rfl ?_
      refine Vw.iload_n (de_iload_1 (B 54 _ rfl)) 1 rfl (n := 55) rfl ?_
      refine Vw.iald (de_iaload (B 55 _ rfl)) (MS_drawnGot hM).2 (vIx_n (k := j) (by simp only [nI_A, nI_M, Int32.zero_add, Int32.add_zero] <;> rfl) (by omega)) (n := 56) rfl ?_
      refine Vw.goto_ (n := 60) (de_goto_ (B 56 _ rfl) (B 57 _ rfl) (B 58 _ rfl)) rfl ?_
      exact Vw.iret (de_ireturn (B 60 _ rfl)) rfl ⟨_, rfl, (by first | exact qv (by unfold drawnP; rw [if_neg c_4, if_neg c_10, if_neg c_40]) h | exact qv (by unfold drawnP; rw [if_neg c_4, if_neg c_10, if_pos c_40, if_pos c_47]) h | exact qv (by unfold drawnP; rw [if_neg c_4, if_neg c_10, if_pos c_40, if_neg c_47, nI_cl (by omega)]) h)⟩
    refine Vw.iload_n (de_iload_1 (B 13 _ rfl)) 1 rfl (n := 14) rfl ?_
    refine Vw.iconst (v := 0) (de_iconst_0 (B 14 _ rfl)) rfl (n := 15) rfl ?_
    refine Vw.aload_n (de_aload_0 (B 15 _ rfl)) 0 rfl (n := 16) rfl ?_
    refine Vw.getI (de_getfield (B 16 _ rfl) (B 17 _ rfl) (B 18 _ rfl)) fl_X12_489 rfl hM.k (n := 19) rfl ?_
    rw [hd]
    refine Vw.iconst (v := 1) (de_iconst_1 (B 19 _ rfl)) rfl (n := 20) rfl ?_
    refine Vw.isub (de_isub (B 20 _ rfl)) (n := 21) rfl ?_
    refine Vw.isi3 (mi' := mX12_lies) (de_invokestatic (B 21 _ rfl) (B 22 _ rfl) (B 23 _ rfl)) ml_X12_111 ms_X12_lies (Nat.le_of_ble_eq_true rfl) (n := 24) rfl (c_X12_lies ?_)
    refine Vw.if_eq (tgt := 36) (n := 27) (de_if_eq (B 24 _ rfl) (B 25 _ rfl) (B 26 _ rfl)) rfl rfl (fun c_24 => ?_) (fun c_24 => ?_)
    · refine Vw.iconst (v := -1) (de_iconst_m1 (B 36 _ rfl)) rfl (n := 37) rfl ?_
      exact Vw.iret (de_ireturn (B 37 _ rfl)) rfl ⟨_, rfl, (by first | exact qv (by unfold drawnP; rw [if_neg c_4, if_pos c_10, if_pos c_24]) h | exact qv (by unfold drawnP; rw [if_neg c_4, if_pos c_10, if_neg c_24, nI_cl (by omega)]) h)⟩
    obtain ⟨j, hj, ej⟩ := lie_ex (by omega) c_24
    subst ej
    refine Vw.aload_n (de_aload_0 (B 27 _ rfl)) 0 rfl (n := 28) rfl ?_
    refine Vw.getR (de_getfield (B 28 _ rfl) (B 29 _ rfl) (B 30 _ rfl)) fl_X12_105 rfl hM.k (MS_drawnWide hM).1 (n := 31) rfl ?_
    refine Vw.iload_n (de_iload_1 (B 31 _ rfl)) 1 rfl (n := 32) rfl ?_
    refine Vw.iald (de_iaload (B 32 _ rfl)) (MS_drawnWide hM).2 (vIx_n (k := j) (by simp only [nI_A, nI_M, Int32.zero_add, Int32.add_zero] <;> rfl) (by omega)) (n := 33) rfl ?_
    refine Vw.goto_ (n := 37) (de_goto_ (B 33 _ rfl) (B 34 _ rfl) (B 35 _ rfl)) rfl ?_
    exact Vw.iret (de_ireturn (B 37 _ rfl)) rfl ⟨_, rfl, (by first | exact qv (by unfold drawnP; rw [if_neg c_4, if_pos c_10, if_pos c_24]) h | exact qv (by unfold drawnP; rw [if_neg c_4, if_pos c_10, if_neg c_24, nI_cl (by omega)]) h)⟩
  refine Vw.iconst (v := -1) (de_iconst_m1 (B 7 _ rfl)) rfl (n := 8) rfl ?_
  exact Vw.iret (de_ireturn (B 8 _ rfl)) rfl ⟨_, rfl, (qv (by unfold drawnP; rw [if_pos c_4]) h)⟩
