/-! hiddenFeast -/
theorem andor (a b c : Int32) : (a ||| b) &&& c = (a &&& c) ||| (b &&& c) := Int32.toBitVec_inj.mp (by rw [Int32.toBitVec_and, Int32.toBitVec_or, Int32.toBitVec_or, Int32.toBitVec_and, Int32.toBitVec_and, BitVec.and_or_distrib_right])
theorem bit20 : ∀ j : Fin 20, ∀ k : Fin 20, (((1 : Int32) <<< (nI k.1 &&& 31)) >>> (nI j.1 &&& 31)) &&& 1 = if j.1 = k.1 then 1 else 0 := by decide +kernel
theorem bit8 : ∀ j : Fin 8, ∀ k : Fin 8, ((1 : Int32) <<< (nI k.1 &&& 31)) &&& ((1 <<< (nI j.1 &&& 31)) ^^^ (-1)) = 0 ↔ j.1 = k.1 := by decide +kernel
theorem zsh : ∀ j : Fin 20, ((0 : Int32) >>> (nI j.1 &&& 31)) &&& 1 = 0 := by decide +kernel
theorem ftB_bit {f : Nat → Bool} {j : Nat} (hj : j < 20) : ∀ {n : Nat}, n ≤ 20 → (ftB f n >>> (nI j &&& 31)) &&& 1 = if j < n ∧ f j = true then 1 else 0
  | 0, _ => by rw [ftB, if_neg (fun z => absurd z.1 (Nat.not_lt_zero _))]; exact zsh ⟨j, hj⟩
  | n + 1, hn => by
    rw [ftB, Int32.shiftRight_or, andor, ftB_bit hj (by omega)]
    by_cases e : f n = true
    · rw [if_pos e, bit20 ⟨j, hj⟩ ⟨n, by omega⟩]
      by_cases z : j = n
      · subst z
        rw [if_neg (fun y => absurd y.1 (Nat.lt_irrefl _)), if_pos rfl, if_pos ⟨Nat.lt_succ_self _, e⟩]; rfl
      · rw [if_neg (c := (⟨j, hj⟩ : Fin 20).1 = (⟨n, by omega⟩ : Fin 20).1) z]
        by_cases y : j < n ∧ f j = true
        · rw [if_pos y, if_pos ⟨by omega, y.2⟩]; rfl
        · rw [if_neg y, if_neg (fun x => y ⟨by omega, x.2⟩)]; rfl
    · rw [if_neg e, zsh ⟨j, hj⟩]
      by_cases y : j < n ∧ f j = true
      · rw [if_pos y, if_pos ⟨by omega, y.2⟩]; rfl
      · rw [if_neg y, if_neg (fun x => y ⟨by rcases Nat.lt_or_ge j n with g | g; exact g; exact absurd (show j = n by omega) (fun w => e (w ▸ x.2)), x.2⟩)]; rfl
theorem wrH_p {f : Nat → Bool} {p : Nat} (hp : p < 8) : ∀ {n : Nat}, n ≤ 8 → (wrH f n &&& ((1 <<< (nI p &&& 31)) ^^^ (-1)) = 0 ↔ unS f n = if p < n ∧ f p = false then 1 else 0)
  | 0, _ => by rw [wrH, unS, if_neg (fun z => absurd z.1 (Nat.not_lt_zero _))]; exact ⟨fun _ => rfl, fun _ => Int32.zero_and⟩
  | n + 1, hn => by
    have ih := wrH_p (f := f) hp (n := n) (by omega)
    rw [wrH, unS, andor, Int32.or_eq_zero_iff, ih]
    cases e : f n with
    | true =>
      rw [if_pos rfl, if_pos rfl, Nat.add_zero]
      have h0 : (0 : Int32) &&& ((1 <<< (nI p &&& 31)) ^^^ (-1)) = 0 := Int32.zero_and
      by_cases y : p < n ∧ f p = false
      · rw [if_pos y, if_pos ⟨by omega, y.2⟩]; exact ⟨fun z => z.1, fun z => ⟨z, h0⟩⟩
      · have y2 : ¬ (p < n + 1 ∧ f p = false) := fun x => by
          rcases Nat.lt_or_ge p n with g | g
          · exact y ⟨g, x.2⟩
          · have w : p = n := by omega
            rw [w, e] at x
            exact absurd x.2 (by decide)
        rw [if_neg y, if_neg y2]; exact ⟨fun z => z.1, fun z => ⟨z, h0⟩⟩
    | false =>
      rw [if_neg (c := false = true) (by decide), if_neg (c := false = true) (by decide), bit8 ⟨p, hp⟩ ⟨n, by omega⟩]
      by_cases z : p = n
      · subst z
        rw [if_neg (fun y => absurd y.1 (Nat.lt_irrefl _)), if_pos ⟨Nat.lt_succ_self _, e⟩]
        exact ⟨fun y => by rw [y.1], fun y => ⟨by omega, rfl⟩⟩
      · have : ¬ (⟨p, hp⟩ : Fin 8).1 = (⟨n, by omega⟩ : Fin 8).1 := z
        refine ⟨fun y => absurd y.2 this, fun y => ?_⟩
        have hge : ∀ m, p < m → m ≤ n → (if f p = false then 1 else 0) ≤ unS f m := by
          intro m
          induction m with
          | zero => intro g; exact absurd g (Nat.not_lt_zero _)
          | succ m im =>
            intro g1 g2
            rw [unS]
            by_cases g : p = m
            · rw [← g]
              cases ep : f p with
              | true => rw [if_neg (by decide)]; exact Nat.zero_le _
              | false => rw [if_pos rfl, if_neg (by decide)]; omega
            · exact Nat.le_trans (im (by omega) (by omega)) (Nat.le_add_right _ _)
        by_cases g : p < n + 1 ∧ f p = false
        · rw [if_pos g] at y
          have := hge n (by omega) (Nat.le_refl _)
          rw [if_pos g.2] at this
          omega
        · rw [if_neg g] at y; omega
theorem unS_pos {f : Nat → Bool} {p : Nat} : ∀ {n : Nat}, p < n → f p = false → ¬ unS f n = 0
  | 0, h, _ => absurd h (Nat.not_lt_zero _)
  | n + 1, h, e => by
    rw [unS]
    by_cases z : p = n
    · rw [← z, e, if_neg (by decide)]; omega
    · have := unS_pos (n := n) (by omega) e; omega
theorem fea_bit {W : tW} {K : Nat → Int32} {np ns p q : Nat} (hp : p < np) (h8 : np ≤ 8) (hq : q < 20) : ((feaK W K np ns p >>> (nI q &&& 31)) &&& 1 = 1) ↔ okH W K np ns (8 * q + p) = true := by
  have hw := wrH_p (f := fun q => soK W K q (-1) ns 40) (p := p) (by omega) h8
  unfold okH feaK
  rw [show (8 * q + p) % 8 = p by omega, show (8 * q + p) / 8 = q by omega, decide_eq_true hp, Bool.true_and, Bool.and_eq_true, decide_eq_true_iff, hw, nI_1]
  have ho : (unS (fun q => soK W K q (-1) ns 40) np = 0 ∨ (unS (fun q => soK W K q (-1) ns 40) np = 1 ∧ soK W K p (-1) ns 40 = false)) ↔ unS (fun q => soK W K q (-1) ns 40) np = if p < np ∧ soK W K p (-1) ns 40 = false then 1 else 0 := by
    cases e : soK W K p (-1) ns 40 with
    | true => rw [if_neg (fun z => absurd z.2 (by decide))]; exact ⟨fun z => z.elim id (fun y => absurd y.2 (by decide)), Or.inl⟩
    | false =>
      rw [if_pos ⟨hp, rfl⟩]
      refine ⟨fun z => z.elim (fun y => ?_) (fun y => y.1), fun z => Or.inr ⟨z, rfl⟩⟩
      exact absurd y (unS_pos hp e)
  by_cases z : unS (fun q => soK W K q (-1) ns 40) np = 0 ∨ (unS (fun q => soK W K q (-1) ns 40) np = 1 ∧ soK W K p (-1) ns 40 = false)
  · rw [if_pos z, ftB_bit hq (Nat.le_refl _)]
    refine ⟨fun y => ⟨ho.mp z, ?_⟩, fun y => by rw [if_pos ⟨hq, y.2⟩]⟩
    by_cases g : q < 20 ∧ soK W K p (nI (q + 1)) ns 40 = true
    · exact g.2
    · rw [if_neg g] at y; exact absurd y (by decide)
  · rw [if_neg z, zsh ⟨q, hq⟩]
    exact ⟨fun y => absurd y (by decide), fun y => absurd (ho.mpr y.1) z⟩
theorem hidG_skip {f : Nat → Bool} {i : Int32} {n : Nat} : ∀ {m r k : Nat}, (∀ j, k ≤ j → j < k + m → f j = false) → hidG f i (m + r) k n = hidG f i r (k + m) n
  | 0, r, k, _ => by rw [Nat.zero_add]; rfl
  | m + 1, r, k, h => by
    rw [show m + 1 + r = m + r + 1 by omega, hidG, if_neg (by rw [h k (Nat.le_refl _) (by omega)]; decide), hidG_skip (fun j h1 h2 => h j (by omega) (by omega)), show k + 1 + m = k + (m + 1) by omega]
theorem h8q {q p : Nat} (h : 8 * q + p < 2000000000) : nI (8 * q + p) = nI q * 8 + nI p := by rw [nI_A, Nat.mul_comm, nI_M]; rfl
theorem c_X4_hiddenFeast {d : Nat} {S : vS} {I : vI} {L : vL} {Q : Int32 → vS → vI → vL → Prop} {s lb np nc : Nat} {K : Nat → Int32} {W : tW} {ns : Nat} {i : Int32} (hp : PlanS S (s + 33) s (s + 28)) (hK : TR I (s + 1) K np nc) (hN : TN K np nc) (hW : WC S I s lb W) (hlb : s + 66 ≤ lb) (hs : SR I s K ns) (hb : SB K ns) (h : ∀ I2 M, FF s I I2 → Lev (s + 28) L M → Q (hidG (okH W K np ns) i 160 0 0) S I2 M) : Vc mX4_hiddenFeast (d + 7) 0 0 [.ref (s + 33), .int i] S I L (ViQ Q) := by
  refine Vc.of rfl (Nat.le_of_ble_eq_true rfl) ?_
  have B := bs_X4_hiddenFeast
  show Vw mX4_hiddenFeast (d + 7) 0 0 0 0 (ViQ Q) 0 [(0, .ref (s + 33)), (1, .int i)] [] S I L
  have h8 := hN.1
  have h10 := hN.2.1
  have hT := hp.p0.p0
  have hR := hp.p1
  have outer : ∀ J M, FF s I J → Lev (s + 28) L M → (∀ q, q < np → J (s + 40) q = feaK W K np ns q) → ∀ q, q ≤ 20 → ∀ n, n ≤ 8 * q → hidG (okH W K np ns) i 160 0 0 = hidG (okH W K np ns) i (160 - 8 * q) (8 * q) n → Vw mX4_hiddenFeast (d + 7) 0 0 0 0 (ViQ Q) 8 [(0, .ref (s + 33)), (1, .int i), (2, .int (nI n)), (3, .int (nI (q + 1)))] [] S J M := by
    intro J M fJ fM gJ
    have kJ := fJ.tr hK h8 h10
    refine loop_up (fun q hq ih => ?_)
    have inner : q < 20 → ∀ p, p ≤ np → ∀ n, n ≤ 8 * q + p → hidG (okH W K np ns) i 160 0 0 = hidG (okH W K np ns) i (160 - (8 * q + p)) (8 * q + p) n → Vw mX4_hiddenFeast (d + 7) 0 0 0 0 (ViQ Q) 17 [(0, .ref (s + 33)), (1, .int i), (2, .int (nI n)), (3, .int (nI (q + 1))), (4, .int (nI p))] [] S J M := by
      intro hq2
      refine loop_up (fun p hpp ihp => ?_)
      intro n hn eH
      refine Vw.iload (de_iload (B 17 _ rfl) (B 18 _ rfl)) 4 rfl (n := 19) rfl ?_
      refine Vw.aload_n (de_aload_0 (B 19 _ rfl)) 0 rfl (n := 20) rfl ?_
      refine Vw.getR (de_getfield (B 20 _ rfl) (B 21 _ rfl) (B 22 _ rfl)) fl_X4_49 rfl hp.k hp.f0 (n := 23) rfl ?_
      refine Vw.getR (de_getfield (B 23 _ rfl) (B 24 _ rfl) (B 25 _ rfl)) fl_X4_57 rfl hp.p0.k hp.p0.f0 (n := 26) rfl ?_
      refine Vw.getI (de_getfield (B 26 _ rfl) (B 27 _ rfl) (B 28 _ rfl)) fl_X4_108 rfl hp.p0.p0.k (n := 29) rfl ?_
      rw [kJ.1]
      refine Vw.icmp_ge (tgt := 73) (n := 32) (de_icmp_ge (B 29 _ rfl) (B 30 _ rfl) (B 31 _ rfl)) rfl rfl (fun c_29 => ?_) (fun c_29 => ?_)
      · have z_29 : np ≤ p := ((nI_leI (a := np) (b := p) (by omega) (by omega)).mp c_29)
        obtain rfl : p = np := by omega
        refine Vw.iinc (v := nI (q + 1 + 1)) (lv2 := [(0, _), (1, _), (2, _), (3, _), (4, _)]) (de_iinc (B 73 _ rfl) (B 74 _ rfl) (B 75 _ rfl)) 3 rfl (nI_1 (q + 1)) (by decide) [1, 2, 3, 0, 4] rfl (n := 76) rfl ?_
        refine Vw.goto_ (n := 8) (de_goto_ (B 76 _ rfl) (B 77 _ rfl) (B 78 _ rfl)) rfl ?_
        refine Vw.lvs (lv2 := [(0, _), (1, _), (2, _), (3, _)]) [0, 1, 2, 3] rfl ?_
        refine ih hq2 n (by omega) (eH.trans ?_)
        rw [show 160 - (8 * q + p) = (8 - p) + (160 - 8 * (q + 1)) by omega, hidG_skip (fun j h1 h2 => okH_1 (by omega)), show 8 * q + p + (8 - p) = 8 * (q + 1) by omega]
      have z_29 : p < np := by rcases Nat.lt_or_ge p np with z | z; exact z; exact absurd ((nI_leI (a := np) (b := p) (by omega) (by omega)).mpr z) c_29
      have fb := fea_bit (W := W) (K := K) (ns := ns) z_29 h8 hq2
      refine Vw.aload_n (de_aload_0 (B 32 _ rfl)) 0 rfl (n := 33) rfl ?_
      refine Vw.getR (de_getfield (B 33 _ rfl) (B 34 _ rfl) (B 35 _ rfl)) fl_X4_35 rfl hp.k hp.f8 (n := 36) rfl ?_
      refine Vw.iload (de_iload (B 36 _ rfl) (B 37 _ rfl)) 4 rfl (n := 38) rfl ?_
      refine Vw.iald (de_iaload (B 38 _ rfl)) hp.r8 (vIx_n (k := p) rfl (by omega)) (n := 39) rfl ?_
      rw [show J (s + 33 + 7) p = J (s + 40) p from rfl, gJ p z_29]
      refine Vw.iload_n (de_iload_3 (B 39 _ rfl)) 3 rfl (n := 40) rfl ?_
      refine Vw.iconst (v := 1) (de_iconst_1 (B 40 _ rfl)) rfl (n := 41) rfl ?_
      refine Vw.isub (de_isub (B 41 _ rfl)) (n := 42) rfl ?_
      rw [dn_p]
      refine Vw.ishr (de_ishr (B 42 _ rfl)) (n := 43) rfl ?_
      refine Vw.iconst (v := 1) (de_iconst_1 (B 43 _ rfl)) rfl (n := 44) rfl ?_
      refine Vw.iand (de_iand (B 44 _ rfl)) (n := 45) rfl ?_
      refine Vw.iconst (v := 1) (de_iconst_1 (B 45 _ rfl)) rfl (n := 46) rfl ?_
      refine Vw.icmp_ne (tgt := 67) (n := 49) (de_icmp_ne (B 46 _ rfl) (B 47 _ rfl) (B 48 _ rfl)) rfl rfl (fun c_46 => ?_) (fun c_46 => ?_)
      · refine Vw.iinc (v := nI (p + 1)) (lv2 := [(0, _), (1, _), (2, _), (3, _), (4, _)]) (de_iinc (B 67 _ rfl) (B 68 _ rfl) (B 69 _ rfl)) 4 rfl (nI_1 p) (by decide) [1, 2, 3, 4, 0] rfl (n := 70) rfl ?_
        refine Vw.goto_ (n := 17) (de_goto_ (B 70 _ rfl) (B 71 _ rfl) (B 72 _ rfl)) rfl ?_
        first
        | (refine ihp z_29 (n + 1) (by omega) (eH.trans ?_)
           rw [show 160 - (8 * q + p) = 160 - (8 * q + (p + 1)) + 1 by omega, hidG, if_pos (fb.mp c_46), if_neg c_51]; rfl)
        | (refine ihp z_29 n (by omega) (eH.trans ?_)
           rw [show 160 - (8 * q + p) = 160 - (8 * q + (p + 1)) + 1 by omega, hidG, if_neg (fun z => c_46 (fb.mpr z))]; rfl)
      refine Vw.iload_n (de_iload_2 (B 49 _ rfl)) 2 rfl (n := 50) rfl ?_
      refine Vw.iload_n (de_iload_1 (B 50 _ rfl)) 1 rfl (n := 51) rfl ?_
      refine Vw.icmp_ne (tgt := 64) (n := 54) (de_icmp_ne (B 51 _ rfl) (B 52 _ rfl) (B 53 _ rfl)) rfl rfl (fun c_51 => ?_) (fun c_51 => ?_)
      · refine Vw.iinc (v := nI (n + 1)) (lv2 := [(0, _), (1, _), (2, _), (3, _), (4, _)]) (de_iinc (B 64 _ rfl) (B 65 _ rfl) (B 66 _ rfl)) 2 rfl (nI_1 n) (by decide) [1, 2, 0, 3, 4] rfl (n := 67) rfl ?_
        refine Vw.iinc (v := nI (p + 1)) (lv2 := [(0, _), (1, _), (2, _), (3, _), (4, _)]) (de_iinc (B 67 _ rfl) (B 68 _ rfl) (B 69 _ rfl)) 4 rfl (nI_1 p) (by decide) [1, 2, 3, 4, 0] rfl (n := 70) rfl ?_
        refine Vw.goto_ (n := 17) (de_goto_ (B 70 _ rfl) (B 71 _ rfl) (B 72 _ rfl)) rfl ?_
        first
        | (refine ihp z_29 (n + 1) (by omega) (eH.trans ?_)
           rw [show 160 - (8 * q + p) = 160 - (8 * q + (p + 1)) + 1 by omega, hidG, if_pos (fb.mp c_46), if_neg c_51]; rfl)
        | (refine ihp z_29 n (by omega) (eH.trans ?_)
           rw [show 160 - (8 * q + p) = 160 - (8 * q + (p + 1)) + 1 by omega, hidG, if_neg (fun z => c_46 (fb.mpr z))]; rfl)
      refine Vw.iload_n (de_iload_3 (B 54 _ rfl)) 3 rfl (n := 55) rfl ?_
      refine Vw.iconst (v := 1) (de_iconst_1 (B 55 _ rfl)) rfl (n := 56) rfl ?_
      refine Vw.isub (de_isub (B 56 _ rfl)) (n := 57) rfl ?_
      rw [dn_p]
      refine Vw.bipush (v := 8) (de_bipush (B 57 _ rfl) (B 58 _ rfl)) rfl (n := 59) rfl ?_
      refine Vw.imul (de_imul (B 59 _ rfl)) (n := 60) rfl ?_
      refine Vw.iload (de_iload (B 60 _ rfl) (B 61 _ rfl)) 4 rfl (n := 62) rfl ?_
      refine Vw.iadd (de_iadd (B 62 _ rfl)) (n := 63) rfl ?_
      exact Vw.iret (de_ireturn (B 63 _ rfl)) rfl ⟨_, rfl, (by have e := h J M fJ fM; rw [eH, show 160 - (8 * q + p) = 160 - (8 * q + (p + 1)) + 1 by omega, hidG, if_pos (fb.mp c_46), if_pos c_51, h8q (by omega)] at e; exact e)⟩
    intro n hn eH
    refine Vw.iload_n (de_iload_3 (B 8 _ rfl)) 3 rfl (n := 9) rfl ?_
    refine Vw.bipush (v := 20) (de_bipush (B 9 _ rfl) (B 10 _ rfl)) rfl (n := 11) rfl ?_
    refine Vw.icmp_gt (tgt := 79) (n := 14) (de_icmp_gt (B 11 _ rfl) (B 12 _ rfl) (B 13 _ rfl)) rfl rfl (fun c_11 => ?_) (fun c_11 => ?_)
    · have z_11 : ¬ q + 1 ≤ 20 := fun z => absurd c_11 (Int32.not_lt.mpr ((nI_leI (a := q + 1) (b := 20) (by omega) (by omega)).mpr z))
      obtain rfl : q = 20 := by omega
      rw [show 160 - 8 * 20 = 0 from rfl, hidG] at eH
      refine Vw.iload_n (de_iload_1 (B 79 _ rfl)) 1 rfl (n := 80) rfl ?_
      refine Vw.iconst (v := -1) (de_iconst_m1 (B 80 _ rfl)) rfl (n := 81) rfl ?_
      refine Vw.icmp_ne (tgt := 88) (n := 84) (de_icmp_ne (B 81 _ rfl) (B 82 _ rfl) (B 83 _ rfl)) rfl rfl (fun c_81 => ?_) (fun c_81 => ?_)
      · refine Vw.iconst (v := -1) (de_iconst_m1 (B 88 _ rfl)) rfl (n := 89) rfl ?_
        exact Vw.iret (de_ireturn (B 89 _ rfl)) rfl ⟨_, rfl, (by have e := h J M fJ fM; rw [eH] at e; first | (rw [if_pos c_81] at e; exact e) | (rw [if_neg c_81] at e; exact e))⟩
      refine Vw.iload_n (de_iload_2 (B 84 _ rfl)) 2 rfl (n := 85) rfl ?_
      refine Vw.goto_ (n := 89) (de_goto_ (B 85 _ rfl) (B 86 _ rfl) (B 87 _ rfl)) rfl ?_
      exact Vw.iret (de_ireturn (B 89 _ rfl)) rfl ⟨_, rfl, (by have e := h J M fJ fM; rw [eH] at e; first | (rw [if_pos c_81] at e; exact e) | (rw [if_neg c_81] at e; exact e))⟩
    have z_11 : q < 20 := (nI_leI (a := q + 1) (b := 20) (by omega) (by omega)).mp (Int32.not_lt.mp c_11)
    refine Vw.iconst (v := 0) (de_iconst_0 (B 14 _ rfl)) rfl (n := 15) rfl ?_
    refine Vw.istore (lv2 := [(0, _), (1, _), (2, _), (3, _), (4, _)]) (de_istore (B 15 _ rfl) (B 16 _ rfl)) (by decide) [1, 2, 3, 4, 0] rfl (n := 17) rfl ?_
    exact inner z_11 0 (Nat.zero_le _) n (by omega) eH
  refine Vw.aload_n (de_aload_0 (B 0 _ rfl)) 0 rfl (n := 1) rfl ?_
  refine Vw.ivv0 (mi' := mX4_findFeasts) (de_invokevirtual (B 1 _ rfl) (B 2 _ rfl) (B 3 _ rfl)) ml_X4_197 mv_X4_findFeasts hp.k (Nat.le_of_ble_eq_true rfl) (n := 4) rfl (c_X4_findFeasts hp hK hN hW hlb hs hb (fun I2 M2 f2 m2 g2 => ?_))
  refine Vw.iconst (v := 0) (de_iconst_0 (B 4 _ rfl)) rfl (n := 5) rfl ?_
  refine Vw.istore_n (lv2 := [(0, _), (1, _), (2, _)]) (de_istore_2 (B 5 _ rfl)) rfl (by decide) [1, 2, 0] rfl (n := 6) rfl ?_
  refine Vw.iconst (v := 1) (de_iconst_1 (B 6 _ rfl)) rfl (n := 7) rfl ?_
  refine Vw.istore_n (lv2 := [(0, _), (1, _), (2, _), (3, _)]) (de_istore_3 (B 7 _ rfl)) rfl (by decide) [1, 2, 3, 0] rfl (n := 8) rfl ?_
  exact outer I2 M2 f2 m2 g2 0 (Nat.zero_le _) 0 (Nat.zero_le _) rfl
