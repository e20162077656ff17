/-! What a LAW tells -/
def clHolds (c : tC) (nv : Nat → Int32) : Bool := match c.2.2.2.2 with
  | none => true
  | some t => match t nv with
    | some v => decide (¬ v = 0)
    | none => false
def tClamp (low high : Int32) (s : Int64) : Int64 := if s < low.toInt64 then low.toInt64 else if high.toInt64 < s then high.toInt64 else s
def tStep (hd low high : Int32) (nv : Nat → Int32) (told : Int64) (c : tC) : Int64 := if c.1 = hd ∧ clHolds c nv = true then (match c.2.1 nv with
    | some s => tClamp low high s
    | none => told)
  else told
def tellsP (law : Option (List tC)) (hd low high wo : Int32) (nv : Nat → Int32) : Int32 := match law with
  | none => wo
  | some cs => (cs.foldl (tStep hd low high nv) wo.toInt64).toInt32
/-- the tokens of law t, and what they mean -/
def LawOK (I : vI) (r t : Nat) (cs : List tC) : Prop := ∃ (cd vl : Nat → Int32) (nt : Nat), (∀ i, i < nt → I (r + 2) (153 + 400 * t + i) = cd i ∧ I (r + 2) (2953 + 400 * t + i) = vl i) ∧ cd nt = 0 ∧ nt ≤ 400 ∧ I (r + 2) (146 + t) = nI nt ∧ pText cd vl false nt = .ok cs
/-- nothing but go, goEnd, broken, inOrders has changed -/
def SameQ (r : Nat) (I I2 : vI) : Prop := ∀ a k, ¬ (a = r ∧ (k = 20 ∨ k = 21 ∨ k = 22 ∨ k = 23)) → I2 a k = I a k
theorem pTail_inv {cd vl : Nat → Int32} {o : Bool} {v n : Int32} {a b : tD} {j l j2 l2 : Nat} {c : tC} (h : pTail cd vl o v a b n j l = .ok (j2, l2, c)) : (¬ cd j = 6 ∧ j2 = j ∧ c = (v, a, b, n, none)) ∨ (cd j = 6 ∧ ∃ t, pTest cd vl o 8 (j + 1) l = .ok (j2, l2, t) ∧ c = (v, a, b, n, some t)) := by
  unfold pTail at h
  by_cases h1 : cd j = 6
  · rw [if_pos h1] at h
    cases hq : pTest cd vl o 8 (j + 1) l with
    | error e => rw [hq] at h; cases h
    | ok q => obtain ⟨j3, l3, t⟩ := q; rw [hq] at h; cases h; exact Or.inr ⟨h1, t, rfl, rfl⟩
  · rw [if_neg h1] at h; cases h; exact Or.inl ⟨h1, rfl, rfl⟩
theorem pClause_inv {cd vl : Nat → Int32} {o : Bool} {i l j l2 : Nat} {c : tC} (h : pClause cd vl o i l = .ok (j, l2, c)) : (isVerb (cd i) = true ∧ ∃ j0 l0 d, pSum cd vl o 8 (i + 1) l = .ok (j0, l0, d) ∧ pTail cd vl o (cd i) d tD0 1 j0 l0 = .ok (j, l2, c)) ∨ (cd i = 5 ∧ pTail cd vl o 5 tD1 tD0 1 (i + 1) l = .ok (j, l2, c)) := by
  unfold pClause at h
  by_cases h1 : isVerb (cd i) = true
  · rw [if_pos h1] at h
    cases hq : pSum cd vl o 8 (i + 1) l with
    | error e => rw [hq] at h; cases h
    | ok q => obtain ⟨j3, l3, t⟩ := q; rw [hq] at h; exact Or.inl ⟨h1, j3, l3, t, rfl, h⟩
  · rw [if_neg h1] at h
    by_cases h2 : cd i = 5
    · rw [if_pos h2] at h; exact Or.inr ⟨h2, h⟩
    · rw [if_neg h2] at h; cases h
theorem pRest_inv {cd vl : Nat → Int32} {o : Bool} {nt m j l : Nat} {acc cs : List tC} (h : pRest cd vl o nt m j l acc = .ok cs) : (¬ cd j = 159 ∧ ¬ j < nt ∧ cs = acc) ∨ (cd j = 159 ∧ ∃ m2 j2 l2 c, m = m2 + 1 ∧ pOne cd vl o (j + 1) l = .ok (j2, l2, c) ∧ pRest cd vl o nt m2 j2 l2 (acc ++ [c]) = .ok cs) := by
  rw [pRest.eq_def] at h
  simp only at h
  by_cases h1 : cd j = 159
  · rw [if_pos h1] at h
    cases m with
    | zero => cases h
    | succ m =>
      simp only at h
      cases hq : pOne cd vl o (j + 1) l with
      | error e => rw [hq] at h; cases h
      | ok q => obtain ⟨j3, l3, c⟩ := q; rw [hq] at h; exact Or.inr ⟨h1, m, j3, l3, c, rfl, rfl, h⟩
  · rw [if_neg h1] at h
    by_cases h2 : j < nt
    · rw [if_pos h2] at h; cases h
    · rw [if_neg h2] at h; cases h; exact Or.inl ⟨h1, h2, rfl⟩
theorem verb_0 {c : Int32} (h : isVerb c = true) : ¬ c = 0 ∧ ¬ c = 5 := by
  constructor <;> (intro e; subst e; exact absurd h (by decide))
theorem SameQ_em {I : vI} {r : Nat} {x g b : Int32} {e : Int32} : SameQ r I (em (up2 (up2 I r 23 x) r 21 e) r g b) := by
  intro a k h
  unfold em
  rw [if_neg (fun q => h ⟨q.1, Or.inl q.2⟩), if_neg (fun q => h ⟨q.1, Or.inr (Or.inr (Or.inl q.2))⟩), up2_n (fun q => h ⟨q.1, Or.inr (Or.inl q.2)⟩), up2_n (fun q => h ⟨q.1, Or.inr (Or.inr (Or.inr q.2))⟩)]
theorem c_X12_tells_0 {d : Nat} {S : vS} {I : vI} {L : vL} {Q : Int32 → vS → vI → vL → Prop} {r : Nat} {hd lo hi wo : Int32} (hM : MS S r) (hF : I (r + 2) 145 = -1) (h : Q wo S I L) : Vc mX12_tells (d + 42) 0 0 [.ref r, .int hd, .int lo, .int hi, .int wo] S I L (ViQ Q) := by
  refine Vc.of rfl (Nat.le_of_ble_eq_true rfl) ?_
  have B := bs_X12_tells
  show Vw mX12_tells (d + 42) 0 0 0 0 (ViQ Q) 0 [(0, .ref r), (1, .int hd), (2, .int lo), (3, .int hi), (4, .int wo)] [] S I L
  refine Vw.aload_n (de_aload_0 (B 0 _ rfl)) 0 rfl (n := 1) rfl ?_
  refine Vw.getR (de_getfield (B 1 _ rfl) (B 2 _ rfl) (B 3 _ rfl)) fl_X12_24 rfl hM.k (MS_kept hM).1 (n := 4) rfl ?_
  refine Vw.sipush (v := 145) (de_sipush (B 4 _ rfl) (B 5 _ rfl) (B 6 _ rfl)) rfl (n := 7) rfl ?_
  refine Vw.iald (de_iaload (B 7 _ rfl)) (MS_kept hM).2 (j := 145) ⟨rfl, by decide, by decide⟩ (n := 8) rfl ?_
  refine Vw.iconst (v := -1) (de_iconst_m1 (B 8 _ rfl)) rfl (n := 9) rfl ?_
  refine Vw.icmp_ne (tgt := 15) (n := 12) (de_icmp_ne (B 9 _ rfl) (B 10 _ rfl) (B 11 _ rfl)) rfl rfl (fun c_9 => ?_) (fun c_9 => ?_)
  · exact absurd hF c_9
  refine Vw.iload (de_iload (B 12 _ rfl) (B 13 _ rfl)) 4 rfl (n := 14) rfl ?_
  exact Vw.iret (de_ireturn (B 14 _ rfl)) rfl ⟨_, rfl, h⟩
section TS
variable {hd lo hi : Int32} {nv : Nat → Int32} {told : Int64} {c : tC}
theorem tStep_n (h : ¬ c.1 = hd) : tStep hd lo hi nv told c = told := by unfold tStep; rw [if_neg (fun q => h q.1)]
theorem tStep_h (h : clHolds c nv = false) : tStep hd lo hi nv told c = told := by unfold tStep; rw [if_neg (fun q => by rw [h] at q; exact absurd q.2 (by decide))]
theorem tStep_b (h : c.2.1 nv = none) : tStep hd lo hi nv told c = told := by
  unfold tStep
  split
  · rw [h]
  · rfl
theorem tStep_y {s : Int64} (h1 : c.1 = hd) (h2 : clHolds c nv = true) (h3 : c.2.1 nv = some s) : tStep hd lo hi nv told c = tClamp lo hi s := by unfold tStep; rw [if_pos ⟨h1, h2⟩, h3]
end TS
theorem clH_f {v : Int32} {a b : tD} {n : Int32} {ts : tD} {nv : Nat → Int32} {x b2 : Int32} (hx : evT 1 0 ts nv x b2) (h : x = 0 ∨ ¬ b2 = 0) : clHolds (v, a, b, n, some ts) nv = false := by
  unfold clHolds
  simp only
  cases hq : ts nv with
  | none => rfl
  | some w =>
    simp only
    rcases h with h | h
    · have := hx.2.2 rfl rfl w hq
      rw [h] at this
      unfold b64 at this
      by_cases hw : w = 0
      · simp [hw]
      · rw [if_neg hw] at this; exact absurd this (by decide)
    · exact absurd (by rw [hx.1]; exact (ev1 rfl rfl hq).2) h
theorem clH_t {v : Int32} {a b : tD} {n : Int32} {ts : tD} {nv : Nat → Int32} {x b2 : Int32} (hx : evT 1 0 ts nv x b2) (h1 : ¬ x = 0) (h2 : b2 = 0) : clHolds (v, a, b, n, some ts) nv = true := by
  unfold clHolds
  simp only
  cases hq : ts nv with
  | none => have := (hx.1.symm.trans h2).symm.trans (ev2 rfl rfl hq).2; exact absurd this (by decide)
  | some w =>
    simp only
    have := hx.2.2 rfl rfl w hq
    unfold b64 at this
    by_cases hw : w = 0
    · rw [if_pos hw] at this; exact absurd this h1
    · simp [hw]
theorem ev_s1 {d : tD} {nv : Nat → Int32} (h : evB 1 0 d nv = 0) : d nv = some (evV 1 0 d nv) := by
  cases hq : d nv with
  | none => exact absurd (h.symm.trans (ev2 rfl rfl hq).2) (by decide)
  | some w => rw [(ev1 rfl rfl hq).1]
theorem ev_s2 {d : tD} {nv : Nat → Int32} (h : ¬ evB 1 0 d nv = 0) : d nv = none := by
  cases hq : d nv with
  | none => rfl
  | some w => exact absurd (ev1 rfl rfl hq).2 h
theorem pTail_b {cd vl : Nat → Int32} {o : Bool} {nt : Nat} (h0 : cd nt = 0) {v n : Int32} {a b : tD} {j l j2 l2 : Nat} {c : tC} (hj : j ≤ nt) (h : pTail cd vl o v a b n j l = .ok (j2, l2, c)) : j2 ≤ nt := by
  rcases pTail_inv h with ⟨q1, rfl, rfl⟩ | ⟨q1, ts, q2, rfl⟩
  · exact hj
  · exact (Bd_test h0 8 _ _ _ _ _ (Bd_lt h0 hj (by rw [q1]; decide)) q2).2
theorem pCl_b {cd vl : Nat → Int32} {o : Bool} {nt : Nat} (h0 : cd nt = 0) {i l j l2 : Nat} {c : tC} (hi : i ≤ nt) (h : pClause cd vl o i l = .ok (j, l2, c)) : j ≤ nt := by
  rcases pClause_inv h with ⟨h1, j0, l0, d1, h2, h3⟩ | ⟨h1, h2⟩
  · exact pTail_b h0 (Bd_sum h0 8 _ _ _ _ _ (Bd_lt h0 hi (verb_0 h1).1) h2).2 h3
  · exact pTail_b h0 (Bd_lt h0 hi (by rw [h1]; decide)) h2
theorem pText_inv {cd vl : Nat → Int32} {nt : Nat} {cs : List tC} (h : pText cd vl false nt = .ok cs) : ∃ j l c, pClause cd vl false 0 0 = .ok (j, l, c) ∧ pRest cd vl false nt 11 j l ([] ++ [c]) = .ok cs := by
  unfold pText at h
  cases hq : pOne cd vl false 0 0 with
  | error e => rw [hq] at h; cases h
  | ok q =>
    obtain ⟨j, l, c⟩ := q
    rw [hq] at h
    rw [pOne, if_neg (show ¬ false = true by decide)] at hq
    exact ⟨j, l, c, hq, h⟩
theorem nI_m1 {n : Nat} (h : n < 2147483648) : ¬ nI n = -1 := fun q => by
  have := congrArg Int32.toInt q
  rw [nI_ti h] at this
  have e : (-1 : Int32).toInt = -1 := rfl
  omega
theorem em_in {I : vI} {r : Nat} {x g e : Int32} : up2 (up2 (up2 I r 23 x) r 20 g) r 21 e = em (up2 (up2 I r 23 x) r 21 e) r g (I r 22) := by
  funext a k; simp only [up2, em]
  by_cases ha : a = r
  · subst ha
    by_cases h1 : k = 20
    · subst h1; simp
    · by_cases h2 : k = 22
      · subst h2; simp
      · simp [h1, h2]
  · simp [ha]
theorem c_X12_tells {d : Nat} {S : vS} {I : vI} {L : vL} {Q : Int32 → vS → vI → vL → Prop} {r : Nat} {hd lo hi wo : Int32} {t : Nat} {cs : List tC} {nv : Nat → Int32} (hM : MS S r) (hF : I (r + 2) 145 = nI t) (ht : t < 6) (hL : LawOK I r t cs) (hN : ∀ x, x < 8 → nv x = I (r + 12) x) {np : Nat} (hp : I (r + 2) 142 = nI np) (hp8 : np ≤ 8) (h : ∀ I2, SameQ r I I2 → Q (tellsP (some cs) hd lo hi wo nv) S I2 L) : Vc mX12_tells (d + 42) 0 0 [.ref r, .int hd, .int lo, .int hi, .int wo] S I L (ViQ Q) := by
  refine Vc.of rfl (Nat.le_of_ble_eq_true rfl) ?_
  have B := bs_X12_tells
  show Vw mX12_tells (d + 42) 0 0 0 0 (ViQ Q) 0 [(0, .ref r), (1, .int hd), (2, .int lo), (3, .int hi), (4, .int wo)] [] S I L
  obtain ⟨cd, vl, nt, k1, k2, k3, k4, k5⟩ := hL
  have hE : EV (up2 (up2 I r 23 0) r 21 (nI (400 * t + nt))) r (400 * t) nt cd vl := ⟨fun i hi => by rw [up2_a (by omega), up2_a (by omega), up2_a (by omega), up2_a (by omega)]; exact k1 i hi, k2, k3, by omega, up2_s _ _ _ _⟩
  have hEn : ENV (up2 (up2 I r 23 0) r 21 (nI (400 * t + nt))) r np false nv := ⟨by rw [up2_k (by decide), up2_s]; rfl, fun _ x hx => by rw [up2_a (by omega), up2_a (by omega)]; exact hN x hx, fun q => (by cases q), by rw [up2_a (by omega), up2_a (by omega)]; exact hp, hp8⟩
  have hE2 := hE.2.2
  have round : ∀ k l told j l2 c, k ≤ nt → pClause cd vl false k l = .ok (j, l2, c) → (∀ b, Vw mX12_tells (d + 42) 0 0 0 0 (ViQ Q) 67 [(0, .ref r), (1, .int hd), (2, .int lo), (3, .int hi), (4, .int wo), (5, .long (tStep hd lo hi nv told c))] [] S (em (up2 (up2 I r 23 0) r 21 (nI (400 * t + nt))) r (nI (400 * t + (j + 1))) b) L) → ∀ b, Vw mX12_tells (d + 42) 0 0 0 0 (ViQ Q) 67 [(0, .ref r), (1, .int hd), (2, .int lo), (3, .int hi), (4, .int wo), (5, .long told)] [] S (em (up2 (up2 I r 23 0) r 21 (nI (400 * t + nt))) r (nI (400 * t + k)) b) L := by
    intro k l told j l2 c hk hP next b
    have back : ∀ (to : Int64) (is sb ho b2 : Int32) (sum : Int64), to = tStep hd lo hi nv told c → Vw mX12_tells (d + 42) 0 0 0 0 (ViQ Q) 208 [(0, .ref r), (1, .int hd), (2, .int lo), (3, .int hi), (4, .int wo), (5, .long to), (7, .int is), (8, .long sum), (10, .int sb), (11, .int ho)] [] S (em (up2 (up2 I r 23 0) r 21 (nI (400 * t + nt))) r (nI (400 * t + j)) b2) L := by
      intro to is sb ho b2 sum e
      subst e
      refine Vw.aload_n (de_aload_0 (B 208 _ rfl)) 0 rfl (n := 209) rfl ?_
      refine Vw.dup (de_dup (B 209 _ rfl)) rfl (n := 210) rfl ?_
      refine Vw.getI (de_getfield (B 210 _ rfl) (B 211 _ rfl) (B 212 _ rfl)) fl_X12_270 rfl hM.k (n := 213) rfl ?_
      rw [em_g]
      refine Vw.iconst (v := 1) (de_iconst_1 (B 213 _ rfl)) rfl (n := 214) rfl ?_
      refine Vw.iadd (de_iadd (B 214 _ rfl)) (n := 215) rfl ?_
      refine Vw.putI (de_putfield (B 215 _ rfl) (B 216 _ rfl) (B 217 _ rfl)) fl_X12_270 hM.k rfl rfl (n := 218) rfl ?_
      rw [em_inc]
      refine Vw.goto_ (n := 67) (de_goto_ (B 218 _ rfl) (B 219 _ rfl) (B 220 _ rfl)) rfl ?_
      refine Vw.lvs (lv2 := [(0, _), (1, _), (2, _), (3, _), (4, _), (5, _)]) [0, 1, 2, 3, 4, 5] rfl ?_
      exact next b2
    have body : ∀ (is sb ho b2 : Int32) (sum : Int64), is = c.1 → (sb = 0 → c.2.1 nv = some sum) → (¬ sb = 0 → c.2.1 nv = none) → (ho = 0 ∨ ¬ b2 = 0 → clHolds c nv = false) → (¬ ho = 0 → b2 = 0 → clHolds c nv = true) → Vw mX12_tells (d + 42) 0 0 0 0 (ViQ Q) 155 [(0, .ref r), (1, .int hd), (2, .int lo), (3, .int hi), (4, .int wo), (5, .long told), (7, .int is), (8, .long sum), (10, .int sb), (11, .int ho)] [] S (em (up2 (up2 I r 23 0) r 21 (nI (400 * t + nt))) r (nI (400 * t + j)) b2) L := by
      intro is sb ho b2 sum h1 h2 h3 h4 h5
      refine Vw.iload (de_iload (B 155 _ rfl) (B 156 _ rfl)) 6 rfl (n := 157) rfl ?_
      refine Vw.iload_n (de_iload_1 (B 157 _ rfl)) 1 rfl (n := 158) rfl ?_
      refine Vw.icmp_ne (tgt := 208) (n := 161) (de_icmp_ne (B 158 _ rfl) (B 159 _ rfl) (B 160 _ rfl)) rfl rfl (fun c_158 => ?_) (fun c_158 => ?_)
      · first
        | exact back _ _ _ _ _ _ (tStep_n (fun q => c_158 (h1.trans q))).symm
        | exact back _ _ _ _ _ _ (tStep_h (h4 (Or.inl c_163))).symm
        | exact back _ _ _ _ _ _ (tStep_h (h4 (Or.inr c_170))).symm
        | exact back _ _ _ _ _ _ (tStep_b (h3 c_175)).symm
        | exact back _ _ _ _ _ _ (by rw [tStep_y (h1.symm.trans c_158) (h5 c_163 c_170) (h2 c_175)]; unfold tClamp; rw [if_pos (Int64.not_le.mp (fun q => c_183 ((lg_cmp_ge _ _).mpr q)))])
        | exact back _ _ _ _ _ _ (by rw [tStep_y (h1.symm.trans c_158) (h5 c_163 c_170) (h2 c_175)]; unfold tClamp; rw [if_neg (Int64.not_lt.mpr ((lg_cmp_ge _ _).mp c_183)), if_pos (Int64.not_le.mp (fun q => c_196 ((lg_cmp_le _ _).mpr q)))])
        | exact back _ _ _ _ _ _ (by rw [tStep_y (h1.symm.trans c_158) (h5 c_163 c_170) (h2 c_175)]; unfold tClamp; rw [if_neg (Int64.not_lt.mpr ((lg_cmp_ge _ _).mp c_183)), if_neg (Int64.not_lt.mpr ((lg_cmp_le _ _).mp c_196))])
      refine Vw.iload (de_iload (B 161 _ rfl) (B 162 _ rfl)) 9 rfl (n := 163) rfl ?_
      refine Vw.if_eq (tgt := 208) (n := 166) (de_if_eq (B 163 _ rfl) (B 164 _ rfl) (B 165 _ rfl)) rfl rfl (fun c_163 => ?_) (fun c_163 => ?_)
      · first
        | exact back _ _ _ _ _ _ (tStep_n (fun q => c_158 (h1.trans q))).symm
        | exact back _ _ _ _ _ _ (tStep_h (h4 (Or.inl c_163))).symm
        | exact back _ _ _ _ _ _ (tStep_h (h4 (Or.inr c_170))).symm
        | exact back _ _ _ _ _ _ (tStep_b (h3 c_175)).symm
        | exact back _ _ _ _ _ _ (by rw [tStep_y (h1.symm.trans c_158) (h5 c_163 c_170) (h2 c_175)]; unfold tClamp; rw [if_pos (Int64.not_le.mp (fun q => c_183 ((lg_cmp_ge _ _).mpr q)))])
        | exact back _ _ _ _ _ _ (by rw [tStep_y (h1.symm.trans c_158) (h5 c_163 c_170) (h2 c_175)]; unfold tClamp; rw [if_neg (Int64.not_lt.mpr ((lg_cmp_ge _ _).mp c_183)), if_pos (Int64.not_le.mp (fun q => c_196 ((lg_cmp_le _ _).mpr q)))])
        | exact back _ _ _ _ _ _ (by rw [tStep_y (h1.symm.trans c_158) (h5 c_163 c_170) (h2 c_175)]; unfold tClamp; rw [if_neg (Int64.not_lt.mpr ((lg_cmp_ge _ _).mp c_183)), if_neg (Int64.not_lt.mpr ((lg_cmp_le _ _).mp c_196))])
      refine Vw.aload_n (de_aload_0 (B 166 _ rfl)) 0 rfl (n := 167) rfl ?_
      refine Vw.getI (de_getfield (B 167 _ rfl) (B 168 _ rfl) (B 169 _ rfl)) fl_X12_280 rfl hM.k (n := 170) rfl ?_
      rw [em_b]
      refine Vw.if_ne (tgt := 208) (n := 173) (de_if_ne (B 170 _ rfl) (B 171 _ rfl) (B 172 _ rfl)) rfl rfl (fun c_170 => ?_) (fun c_170 => ?_)
      · first
        | exact back _ _ _ _ _ _ (tStep_n (fun q => c_158 (h1.trans q))).symm
        | exact back _ _ _ _ _ _ (tStep_h (h4 (Or.inl c_163))).symm
        | exact back _ _ _ _ _ _ (tStep_h (h4 (Or.inr c_170))).symm
        | exact back _ _ _ _ _ _ (tStep_b (h3 c_175)).symm
        | exact back _ _ _ _ _ _ (by rw [tStep_y (h1.symm.trans c_158) (h5 c_163 c_170) (h2 c_175)]; unfold tClamp; rw [if_pos (Int64.not_le.mp (fun q => c_183 ((lg_cmp_ge _ _).mpr q)))])
        | exact back _ _ _ _ _ _ (by rw [tStep_y (h1.symm.trans c_158) (h5 c_163 c_170) (h2 c_175)]; unfold tClamp; rw [if_neg (Int64.not_lt.mpr ((lg_cmp_ge _ _).mp c_183)), if_pos (Int64.not_le.mp (fun q => c_196 ((lg_cmp_le _ _).mpr q)))])
        | exact back _ _ _ _ _ _ (by rw [tStep_y (h1.symm.trans c_158) (h5 c_163 c_170) (h2 c_175)]; unfold tClamp; rw [if_neg (Int64.not_lt.mpr ((lg_cmp_ge _ _).mp c_183)), if_neg (Int64.not_lt.mpr ((lg_cmp_le _ _).mp c_196))])
      refine Vw.iload (de_iload (B 173 _ rfl) (B 174 _ rfl)) 8 rfl (n := 175) rfl ?_
      refine Vw.if_ne (tgt := 208) (n := 178) (de_if_ne (B 175 _ rfl) (B 176 _ rfl) (B 177 _ rfl)) rfl rfl (fun c_175 => ?_) (fun c_175 => ?_)
      · first
        | exact back _ _ _ _ _ _ (tStep_n (fun q => c_158 (h1.trans q))).symm
        | exact back _ _ _ _ _ _ (tStep_h (h4 (Or.inl c_163))).symm
        | exact back _ _ _ _ _ _ (tStep_h (h4 (Or.inr c_170))).symm
        | exact back _ _ _ _ _ _ (tStep_b (h3 c_175)).symm
        | exact back _ _ _ _ _ _ (by rw [tStep_y (h1.symm.trans c_158) (h5 c_163 c_170) (h2 c_175)]; unfold tClamp; rw [if_pos (Int64.not_le.mp (fun q => c_183 ((lg_cmp_ge _ _).mpr q)))])
        | exact back _ _ _ _ _ _ (by rw [tStep_y (h1.symm.trans c_158) (h5 c_163 c_170) (h2 c_175)]; unfold tClamp; rw [if_neg (Int64.not_lt.mpr ((lg_cmp_ge _ _).mp c_183)), if_pos (Int64.not_le.mp (fun q => c_196 ((lg_cmp_le _ _).mpr q)))])
        | exact back _ _ _ _ _ _ (by rw [tStep_y (h1.symm.trans c_158) (h5 c_163 c_170) (h2 c_175)]; unfold tClamp; rw [if_neg (Int64.not_lt.mpr ((lg_cmp_ge _ _).mp c_183)), if_neg (Int64.not_lt.mpr ((lg_cmp_le _ _).mp c_196))])
      refine Vw.lload (de_lload (B 178 _ rfl) (B 179 _ rfl)) 7 rfl (n := 180) rfl ?_
      refine Vw.iload_n (de_iload_2 (B 180 _ rfl)) 2 rfl (n := 181) rfl ?_
      refine Vw.i2l (de_i2l (B 181 _ rfl)) (n := 182) rfl ?_
      refine Vw.lcmp (de_lcmp (B 182 _ rfl)) (n := 183) rfl ?_
      refine Vw.if_ge (tgt := 191) (n := 186) (de_if_ge (B 183 _ rfl) (B 184 _ rfl) (B 185 _ rfl)) rfl rfl (fun c_183 => ?_) (fun c_183 => ?_)
      · refine Vw.lload (de_lload (B 191 _ rfl) (B 192 _ rfl)) 7 rfl (n := 193) rfl ?_
        refine Vw.iload_n (de_iload_3 (B 193 _ rfl)) 3 rfl (n := 194) rfl ?_
        refine Vw.i2l (de_i2l (B 194 _ rfl)) (n := 195) rfl ?_
        refine Vw.lcmp (de_lcmp (B 195 _ rfl)) (n := 196) rfl ?_
        refine Vw.if_le (tgt := 204) (n := 199) (de_if_le (B 196 _ rfl) (B 197 _ rfl) (B 198 _ rfl)) rfl rfl (fun c_196 => ?_) (fun c_196 => ?_)
        · refine Vw.lload (de_lload (B 204 _ rfl) (B 205 _ rfl)) 7 rfl (n := 206) rfl ?_
          refine Vw.lstore (lv2 := [(0, _), (1, _), (2, _), (3, _), (4, _), (5, _), (7, _), (8, _), (10, _), (11, _)]) (de_lstore (B 206 _ rfl) (B 207 _ rfl)) (by decide) [1, 2, 3, 4, 5, 0, 6, 7, 8, 9] rfl (n := 208) rfl ?_
          first
          | exact back _ _ _ _ _ _ (tStep_n (fun q => c_158 (h1.trans q))).symm
          | exact back _ _ _ _ _ _ (tStep_h (h4 (Or.inl c_163))).symm
          | exact back _ _ _ _ _ _ (tStep_h (h4 (Or.inr c_170))).symm
          | exact back _ _ _ _ _ _ (tStep_b (h3 c_175)).symm
          | exact back _ _ _ _ _ _ (by rw [tStep_y (h1.symm.trans c_158) (h5 c_163 c_170) (h2 c_175)]; unfold tClamp; rw [if_pos (Int64.not_le.mp (fun q => c_183 ((lg_cmp_ge _ _).mpr q)))])
          | exact back _ _ _ _ _ _ (by rw [tStep_y (h1.symm.trans c_158) (h5 c_163 c_170) (h2 c_175)]; unfold tClamp; rw [if_neg (Int64.not_lt.mpr ((lg_cmp_ge _ _).mp c_183)), if_pos (Int64.not_le.mp (fun q => c_196 ((lg_cmp_le _ _).mpr q)))])
          | exact back _ _ _ _ _ _ (by rw [tStep_y (h1.symm.trans c_158) (h5 c_163 c_170) (h2 c_175)]; unfold tClamp; rw [if_neg (Int64.not_lt.mpr ((lg_cmp_ge _ _).mp c_183)), if_neg (Int64.not_lt.mpr ((lg_cmp_le _ _).mp c_196))])
        refine Vw.iload_n (de_iload_3 (B 199 _ rfl)) 3 rfl (n := 200) rfl ?_
        refine Vw.i2l (de_i2l (B 200 _ rfl)) (n := 201) rfl ?_
        refine Vw.goto_ (n := 206) (de_goto_ (B 201 _ rfl) (B 202 _ rfl) (B 203 _ rfl)) rfl ?_
        refine Vw.lstore (lv2 := [(0, _), (1, _), (2, _), (3, _), (4, _), (5, _), (7, _), (8, _), (10, _), (11, _)]) (de_lstore (B 206 _ rfl) (B 207 _ rfl)) (by decide) [1, 2, 3, 4, 5, 0, 6, 7, 8, 9] rfl (n := 208) rfl ?_
        first
        | exact back _ _ _ _ _ _ (tStep_n (fun q => c_158 (h1.trans q))).symm
        | exact back _ _ _ _ _ _ (tStep_h (h4 (Or.inl c_163))).symm
        | exact back _ _ _ _ _ _ (tStep_h (h4 (Or.inr c_170))).symm
        | exact back _ _ _ _ _ _ (tStep_b (h3 c_175)).symm
        | exact back _ _ _ _ _ _ (by rw [tStep_y (h1.symm.trans c_158) (h5 c_163 c_170) (h2 c_175)]; unfold tClamp; rw [if_pos (Int64.not_le.mp (fun q => c_183 ((lg_cmp_ge _ _).mpr q)))])
        | exact back _ _ _ _ _ _ (by rw [tStep_y (h1.symm.trans c_158) (h5 c_163 c_170) (h2 c_175)]; unfold tClamp; rw [if_neg (Int64.not_lt.mpr ((lg_cmp_ge _ _).mp c_183)), if_pos (Int64.not_le.mp (fun q => c_196 ((lg_cmp_le _ _).mpr q)))])
        | exact back _ _ _ _ _ _ (by rw [tStep_y (h1.symm.trans c_158) (h5 c_163 c_170) (h2 c_175)]; unfold tClamp; rw [if_neg (Int64.not_lt.mpr ((lg_cmp_ge _ _).mp c_183)), if_neg (Int64.not_lt.mpr ((lg_cmp_le _ _).mp c_196))])
      refine Vw.iload_n (de_iload_2 (B 186 _ rfl)) 2 rfl (n := 187) rfl ?_
      refine Vw.i2l (de_i2l (B 187 _ rfl)) (n := 188) rfl ?_
      refine Vw.goto_ (n := 206) (de_goto_ (B 188 _ rfl) (B 189 _ rfl) (B 190 _ rfl)) rfl ?_
      refine Vw.lstore (lv2 := [(0, _), (1, _), (2, _), (3, _), (4, _), (5, _), (7, _), (8, _), (10, _), (11, _)]) (de_lstore (B 206 _ rfl) (B 207 _ rfl)) (by decide) [1, 2, 3, 4, 5, 0, 6, 7, 8, 9] rfl (n := 208) rfl ?_
      first
      | exact back _ _ _ _ _ _ (tStep_n (fun q => c_158 (h1.trans q))).symm
      | exact back _ _ _ _ _ _ (tStep_h (h4 (Or.inl c_163))).symm
      | exact back _ _ _ _ _ _ (tStep_h (h4 (Or.inr c_170))).symm
      | exact back _ _ _ _ _ _ (tStep_b (h3 c_175)).symm
      | exact back _ _ _ _ _ _ (by rw [tStep_y (h1.symm.trans c_158) (h5 c_163 c_170) (h2 c_175)]; unfold tClamp; rw [if_pos (Int64.not_le.mp (fun q => c_183 ((lg_cmp_ge _ _).mpr q)))])
      | exact back _ _ _ _ _ _ (by rw [tStep_y (h1.symm.trans c_158) (h5 c_163 c_170) (h2 c_175)]; unfold tClamp; rw [if_neg (Int64.not_lt.mpr ((lg_cmp_ge _ _).mp c_183)), if_pos (Int64.not_le.mp (fun q => c_196 ((lg_cmp_le _ _).mpr q)))])
      | exact back _ _ _ _ _ _ (by rw [tStep_y (h1.symm.trans c_158) (h5 c_163 c_170) (h2 c_175)]; unfold tClamp; rw [if_neg (Int64.not_lt.mpr ((lg_cmp_ge _ _).mp c_183)), if_neg (Int64.not_lt.mpr ((lg_cmp_le _ _).mp c_196))])
    have tail : ∀ (j0 l0 : Nat) (is b1 : Int32) (sum : Int64) (v : Int32) (d1 : tD), j0 ≤ nt → pTail cd vl false v d1 tD0 1 j0 l0 = .ok (j, l2, c) → is = v → (b1 = 0 → d1 nv = some sum) → (¬ b1 = 0 → d1 nv = none) → Vw mX12_tells (d + 42) 0 0 0 0 (ViQ Q) 118 [(0, .ref r), (1, .int hd), (2, .int lo), (3, .int hi), (4, .int wo), (5, .long told), (7, .int is)] [.long sum] S (em (up2 (up2 I r 23 0) r 21 (nI (400 * t + nt))) r (nI (400 * t + j0)) b1) L := by
      intro j0 l0 is b1 sum v d1 hj0 hT h1 h2 h3
      rcases pTail_inv hT with ⟨q1, rfl, rfl⟩ | ⟨q1, ts, q2, rfl⟩
      · skip
        refine Vw.lstore (lv2 := [(0, _), (1, _), (2, _), (3, _), (4, _), (5, _), (7, _), (8, _)]) (de_lstore (B 118 _ rfl) (B 119 _ rfl)) (by decide) [1, 2, 3, 4, 5, 6, 7, 0] rfl (n := 120) rfl ?_
        refine Vw.aload_n (de_aload_0 (B 120 _ rfl)) 0 rfl (n := 121) rfl ?_
        refine Vw.getI (de_getfield (B 121 _ rfl) (B 122 _ rfl) (B 123 _ rfl)) fl_X12_280 rfl hM.k (n := 124) rfl ?_
        rw [em_b]
        refine Vw.istore (lv2 := [(0, _), (1, _), (2, _), (3, _), (4, _), (5, _), (7, _), (8, _), (10, _)]) (de_istore (B 124 _ rfl) (B 125 _ rfl)) (by decide) [1, 2, 3, 4, 5, 6, 7, 8, 0] rfl (n := 126) rfl ?_
        refine Vw.aload_n (de_aload_0 (B 126 _ rfl)) 0 rfl (n := 127) rfl ?_
        refine Vw.iconst (v := 0) (de_iconst_0 (B 127 _ rfl)) rfl (n := 128) rfl ?_
        refine Vw.putZ (de_putfield (B 128 _ rfl) (B 129 _ rfl) (B 130 _ rfl)) fl_X12_280 hM.k rfl rfl rfl rfl (n := 131) rfl ?_
        rw [em_ub]
        refine Vw.aload_n (de_aload_0 (B 131 _ rfl)) 0 rfl (n := 132) rfl ?_
        refine Vw.bipush (v := 6) (de_bipush (B 132 _ rfl) (B 133 _ rfl)) rfl (n := 134) rfl ?_
        refine Vw.ivi1 (mi' := mX12_passes0) (de_invokevirtual (B 134 _ rfl) (B 135 _ rfl) (B 136 _ rfl)) ml_X12_294 mv_X12_passes0 hM.k (Nat.le_of_ble_eq_true rfl) (n := 137) rfl (c_X12_passes0 hM hE hj0 (fun q => absurd q q1) (fun _ => ?_))
        · refine Vw.if_eq (tgt := 148) (n := 140) (de_if_eq (B 137 _ rfl) (B 138 _ rfl) (B 139 _ rfl)) rfl rfl (fun c_137 => ?_) (fun c_137 => ?_)
          · refine Vw.iconst (v := 1) (de_iconst_1 (B 148 _ rfl)) rfl (n := 149) rfl ?_
            refine Vw.goto_ (n := 153) (de_goto_ (B 149 _ rfl) (B 150 _ rfl) (B 151 _ rfl)) rfl ?_
            refine Vw.istore (lv2 := [(0, _), (1, _), (2, _), (3, _), (4, _), (5, _), (7, _), (8, _), (10, _), (11, _)]) (de_istore (B 153 _ rfl) (B 154 _ rfl)) (by decide) [1, 2, 3, 4, 5, 6, 7, 8, 9, 0] rfl (n := 155) rfl ?_
            exact body _ _ _ _ _ h1 h2 h3 (fun q => by rcases q with q | q; exact absurd q (by decide); exact absurd rfl q) (fun _ _ => rfl)
          exact absurd rfl c_137
      · have hlt := hE.lt hj0 (by rw [q1]; decide)
        refine Vw.lstore (lv2 := [(0, _), (1, _), (2, _), (3, _), (4, _), (5, _), (7, _), (8, _)]) (de_lstore (B 118 _ rfl) (B 119 _ rfl)) (by decide) [1, 2, 3, 4, 5, 6, 7, 0] rfl (n := 120) rfl ?_
        refine Vw.aload_n (de_aload_0 (B 120 _ rfl)) 0 rfl (n := 121) rfl ?_
        refine Vw.getI (de_getfield (B 121 _ rfl) (B 122 _ rfl) (B 123 _ rfl)) fl_X12_280 rfl hM.k (n := 124) rfl ?_
        rw [em_b]
        refine Vw.istore (lv2 := [(0, _), (1, _), (2, _), (3, _), (4, _), (5, _), (7, _), (8, _), (10, _)]) (de_istore (B 124 _ rfl) (B 125 _ rfl)) (by decide) [1, 2, 3, 4, 5, 6, 7, 8, 0] rfl (n := 126) rfl ?_
        refine Vw.aload_n (de_aload_0 (B 126 _ rfl)) 0 rfl (n := 127) rfl ?_
        refine Vw.iconst (v := 0) (de_iconst_0 (B 127 _ rfl)) rfl (n := 128) rfl ?_
        refine Vw.putZ (de_putfield (B 128 _ rfl) (B 129 _ rfl) (B 130 _ rfl)) fl_X12_280 hM.k rfl rfl rfl rfl (n := 131) rfl ?_
        rw [em_ub]
        refine Vw.aload_n (de_aload_0 (B 131 _ rfl)) 0 rfl (n := 132) rfl ?_
        refine Vw.bipush (v := 6) (de_bipush (B 132 _ rfl) (B 133 _ rfl)) rfl (n := 134) rfl ?_
        refine Vw.ivi1 (mi' := mX12_passes0) (de_invokevirtual (B 134 _ rfl) (B 135 _ rfl) (B 136 _ rfl)) ml_X12_294 mv_X12_passes0 hM.k (Nat.le_of_ble_eq_true rfl) (n := 137) rfl (c_X12_passes0 hM hE hj0 (fun _ => ?_) (fun q => absurd q1 q))
        · refine Vw.if_eq (tgt := 148) (n := 140) (de_if_eq (B 137 _ rfl) (B 138 _ rfl) (B 139 _ rfl)) rfl rfl (fun c_137 => ?_) (fun c_137 => ?_)
          · exact absurd c_137 (by decide)
          refine Vw.aload_n (de_aload_0 (B 140 _ rfl)) 0 rfl (n := 141) rfl ?_
          refine Vw.iconst (v := 1) (de_iconst_1 (B 141 _ rfl)) rfl (n := 142) rfl ?_
          refine Vw.ivi1 (mi' := mX12_testOf) (de_invokevirtual (B 142 _ rfl) (B 143 _ rfl) (B 144 _ rfl)) ml_X12_315 mv_X12_testOf hM.k (Nat.le_of_ble_eq_true rfl) (n := 145) rfl (et_tests 8 _ _ _ _ _ _ _ _ _ _ _ _ _ _ _ _ _ _ _ _ hM hE hEn hlt q2 (Or.inr rfl) (Or.inl rfl) (fun x b2 hx => ?_))
          · refine Vw.if_eq (tgt := 152) (n := 148) (de_if_eq (B 145 _ rfl) (B 146 _ rfl) (B 147 _ rfl)) rfl rfl (fun c_145 => ?_) (fun c_145 => ?_)
            · refine Vw.iconst (v := 0) (de_iconst_0 (B 152 _ rfl)) rfl (n := 153) rfl ?_
              refine Vw.istore (lv2 := [(0, _), (1, _), (2, _), (3, _), (4, _), (5, _), (7, _), (8, _), (10, _), (11, _)]) (de_istore (B 153 _ rfl) (B 154 _ rfl)) (by decide) [1, 2, 3, 4, 5, 6, 7, 8, 9, 0] rfl (n := 155) rfl ?_
              first
              | exact body _ _ _ _ _ h1 h2 h3 (fun q => clH_f hx (q.imp (fun q => absurd q (by decide)) id) ) (fun _ q => clH_t hx c_145 q)
              | exact body _ _ _ _ _ h1 h2 h3 (fun q => clH_f hx (Or.inl c_145)) (fun q => absurd rfl q)
            refine Vw.iconst (v := 1) (de_iconst_1 (B 148 _ rfl)) rfl (n := 149) rfl ?_
            refine Vw.goto_ (n := 153) (de_goto_ (B 149 _ rfl) (B 150 _ rfl) (B 151 _ rfl)) rfl ?_
            refine Vw.istore (lv2 := [(0, _), (1, _), (2, _), (3, _), (4, _), (5, _), (7, _), (8, _), (10, _), (11, _)]) (de_istore (B 153 _ rfl) (B 154 _ rfl)) (by decide) [1, 2, 3, 4, 5, 6, 7, 8, 9, 0] rfl (n := 155) rfl ?_
            first
            | exact body _ _ _ _ _ h1 h2 h3 (fun q => clH_f hx (q.imp (fun q => absurd q (by decide)) id) ) (fun _ q => clH_t hx c_145 q)
            | exact body _ _ _ _ _ h1 h2 h3 (fun q => clH_f hx (Or.inl c_145)) (fun q => absurd rfl q)
    rcases pClause_inv hP with ⟨h1, j0, l0, d1, h2, h3⟩ | ⟨h1, h2⟩
    · have hlt := hE.lt hk (verb_0 h1).1
      have hj0 := Bd_sum hE.2.1 8 _ _ _ _ _ hlt h2
      refine Vw.aload_n (de_aload_0 (B 67 _ rfl)) 0 rfl (n := 68) rfl ?_
      refine Vw.getI (de_getfield (B 68 _ rfl) (B 69 _ rfl) (B 70 _ rfl)) fl_X12_270 rfl hM.k (n := 71) rfl ?_
      rw [em_g]
      refine Vw.aload_n (de_aload_0 (B 71 _ rfl)) 0 rfl (n := 72) rfl ?_
      refine Vw.getI (de_getfield (B 72 _ rfl) (B 73 _ rfl) (B 74 _ rfl)) fl_X12_267 rfl hM.k (n := 75) rfl ?_
      rw [em_k (by decide) (by decide), hE.2.2.2.2]
      refine Vw.icmp_ge (tgt := 221) (n := 78) (de_icmp_ge (B 75 _ rfl) (B 76 _ rfl) (B 77 _ rfl)) rfl rfl (fun c_75 => ?_) (fun c_75 => ?_)
      · exact absurd ((nI_leI (a := 400 * t + nt) (b := 400 * t + k) (by omega) (by omega)).mp c_75) (by omega)
      refine Vw.aload_n (de_aload_0 (B 78 _ rfl)) 0 rfl (n := 79) rfl ?_
      refine Vw.aload_n (de_aload_0 (B 79 _ rfl)) 0 rfl (n := 80) rfl ?_
      refine Vw.getI (de_getfield (B 80 _ rfl) (B 81 _ rfl) (B 82 _ rfl)) fl_X12_270 rfl hM.k (n := 83) rfl ?_
      rw [em_g]
      refine Vw.ivi1 (mi' := mX12_codeAt) (de_invokevirtual (B 83 _ rfl) (B 84 _ rfl) (B 85 _ rfl)) ml_X12_273 mv_X12_codeAt hM.k (Nat.le_of_ble_eq_true rfl) (n := 86) rfl (c_X12_codeAt hM hE hk ?_)
      refine Vw.istore (lv2 := [(0, _), (1, _), (2, _), (3, _), (4, _), (5, _), (7, _)]) (de_istore (B 86 _ rfl) (B 87 _ rfl)) (by decide) [1, 2, 3, 4, 5, 6, 0] rfl (n := 88) rfl ?_
      refine Vw.aload_n (de_aload_0 (B 88 _ rfl)) 0 rfl (n := 89) rfl ?_
      refine Vw.iconst (v := 0) (de_iconst_0 (B 89 _ rfl)) rfl (n := 90) rfl ?_
      refine Vw.putZ (de_putfield (B 90 _ rfl) (B 91 _ rfl) (B 92 _ rfl)) fl_X12_280 hM.k rfl rfl rfl rfl (n := 93) rfl ?_
      rw [em_ub]
      refine Vw.aload_n (de_aload_0 (B 93 _ rfl)) 0 rfl (n := 94) rfl ?_
      refine Vw.dup (de_dup (B 94 _ rfl)) rfl (n := 95) rfl ?_
      refine Vw.getI (de_getfield (B 95 _ rfl) (B 96 _ rfl) (B 97 _ rfl)) fl_X12_270 rfl hM.k (n := 98) rfl ?_
      rw [em_g]
      refine Vw.iconst (v := 1) (de_iconst_1 (B 98 _ rfl)) rfl (n := 99) rfl ?_
      refine Vw.iadd (de_iadd (B 99 _ rfl)) (n := 100) rfl ?_
      refine Vw.putI (de_putfield (B 100 _ rfl) (B 101 _ rfl) (B 102 _ rfl)) fl_X12_270 hM.k rfl rfl (n := 103) rfl ?_
      rw [em_inc]
      refine Vw.iload (de_iload (B 103 _ rfl) (B 104 _ rfl)) 6 rfl (n := 105) rfl ?_
      refine Vw.iconst (v := 5) (de_iconst_5 (B 105 _ rfl)) rfl (n := 106) rfl ?_
      refine Vw.icmp_ne (tgt := 113) (n := 109) (de_icmp_ne (B 106 _ rfl) (B 107 _ rfl) (B 108 _ rfl)) rfl rfl (fun c_106 => ?_) (fun c_106 => ?_)
      · refine Vw.aload_n (de_aload_0 (B 113 _ rfl)) 0 rfl (n := 114) rfl ?_
        refine Vw.iconst (v := 1) (de_iconst_1 (B 114 _ rfl)) rfl (n := 115) rfl ?_
        refine Vw.ivl1 (mi' := mX12_sumOf) (de_invokevirtual (B 115 _ rfl) (B 116 _ rfl) (B 117 _ rfl)) ml_X12_297 mv_X12_sumOf hM.k (Nat.le_of_ble_eq_true rfl) (n := 118) rfl (ec_sums 8 _ _ _ _ _ _ _ _ _ _ _ _ _ _ _ _ _ _ _ _ hM hE hEn hlt h2 (Or.inr rfl) (Or.inl rfl) ?_)
        · exact tail j0 l0 _ _ _ _ d1 hj0.2 h3 rfl (ev_s1) (ev_s2)
      exact absurd c_106 (verb_0 h1).2
    · have hlt := hE.lt hk (by rw [h1]; decide)
      refine Vw.aload_n (de_aload_0 (B 67 _ rfl)) 0 rfl (n := 68) rfl ?_
      refine Vw.getI (de_getfield (B 68 _ rfl) (B 69 _ rfl) (B 70 _ rfl)) fl_X12_270 rfl hM.k (n := 71) rfl ?_
      rw [em_g]
      refine Vw.aload_n (de_aload_0 (B 71 _ rfl)) 0 rfl (n := 72) rfl ?_
      refine Vw.getI (de_getfield (B 72 _ rfl) (B 73 _ rfl) (B 74 _ rfl)) fl_X12_267 rfl hM.k (n := 75) rfl ?_
      rw [em_k (by decide) (by decide), hE.2.2.2.2]
      refine Vw.icmp_ge (tgt := 221) (n := 78) (de_icmp_ge (B 75 _ rfl) (B 76 _ rfl) (B 77 _ rfl)) rfl rfl (fun c_75 => ?_) (fun c_75 => ?_)
      · exact absurd ((nI_leI (a := 400 * t + nt) (b := 400 * t + k) (by omega) (by omega)).mp c_75) (by omega)
      refine Vw.aload_n (de_aload_0 (B 78 _ rfl)) 0 rfl (n := 79) rfl ?_
      refine Vw.aload_n (de_aload_0 (B 79 _ rfl)) 0 rfl (n := 80) rfl ?_
      refine Vw.getI (de_getfield (B 80 _ rfl) (B 81 _ rfl) (B 82 _ rfl)) fl_X12_270 rfl hM.k (n := 83) rfl ?_
      rw [em_g]
      refine Vw.ivi1 (mi' := mX12_codeAt) (de_invokevirtual (B 83 _ rfl) (B 84 _ rfl) (B 85 _ rfl)) ml_X12_273 mv_X12_codeAt hM.k (Nat.le_of_ble_eq_true rfl) (n := 86) rfl (c_X12_codeAt hM hE hk ?_)
      refine Vw.istore (lv2 := [(0, _), (1, _), (2, _), (3, _), (4, _), (5, _), (7, _)]) (de_istore (B 86 _ rfl) (B 87 _ rfl)) (by decide) [1, 2, 3, 4, 5, 6, 0] rfl (n := 88) rfl ?_
      refine Vw.aload_n (de_aload_0 (B 88 _ rfl)) 0 rfl (n := 89) rfl ?_
      refine Vw.iconst (v := 0) (de_iconst_0 (B 89 _ rfl)) rfl (n := 90) rfl ?_
      refine Vw.putZ (de_putfield (B 90 _ rfl) (B 91 _ rfl) (B 92 _ rfl)) fl_X12_280 hM.k rfl rfl rfl rfl (n := 93) rfl ?_
      rw [em_ub]
      refine Vw.aload_n (de_aload_0 (B 93 _ rfl)) 0 rfl (n := 94) rfl ?_
      refine Vw.dup (de_dup (B 94 _ rfl)) rfl (n := 95) rfl ?_
      refine Vw.getI (de_getfield (B 95 _ rfl) (B 96 _ rfl) (B 97 _ rfl)) fl_X12_270 rfl hM.k (n := 98) rfl ?_
      rw [em_g]
      refine Vw.iconst (v := 1) (de_iconst_1 (B 98 _ rfl)) rfl (n := 99) rfl ?_
      refine Vw.iadd (de_iadd (B 99 _ rfl)) (n := 100) rfl ?_
      refine Vw.putI (de_putfield (B 100 _ rfl) (B 101 _ rfl) (B 102 _ rfl)) fl_X12_270 hM.k rfl rfl (n := 103) rfl ?_
      rw [em_inc]
      refine Vw.iload (de_iload (B 103 _ rfl) (B 104 _ rfl)) 6 rfl (n := 105) rfl ?_
      refine Vw.iconst (v := 5) (de_iconst_5 (B 105 _ rfl)) rfl (n := 106) rfl ?_
      refine Vw.icmp_ne (tgt := 113) (n := 109) (de_icmp_ne (B 106 _ rfl) (B 107 _ rfl) (B 108 _ rfl)) rfl rfl (fun c_106 => ?_) (fun c_106 => ?_)
      · exact absurd h1 c_106
      refine Vw.lconst (v := 1) (de_lconst_1 (B 109 _ rfl)) rfl (n := 110) rfl ?_
      refine Vw.goto_ (n := 118) (de_goto_ (B 110 _ rfl) (B 111 _ rfl) (B 112 _ rfl)) rfl ?_
      exact tail (k + 1) l _ _ _ _ tD1 hlt h2 h1 (fun _ => rfl) (fun q => absurd rfl q)
  have exit : ∀ told j b, ¬ j < nt → j ≤ nt → Q told.toInt32 S (em (up2 (up2 I r 23 0) r 21 (nI (400 * t + nt))) r (nI (400 * t + (j + 1))) b) L → Vw mX12_tells (d + 42) 0 0 0 0 (ViQ Q) 67 [(0, .ref r), (1, .int hd), (2, .int lo), (3, .int hi), (4, .int wo), (5, .long told)] [] S (em (up2 (up2 I r 23 0) r 21 (nI (400 * t + nt))) r (nI (400 * t + (j + 1))) b) L := by
    intro told j b h1 h2 hq
    refine Vw.aload_n (de_aload_0 (B 67 _ rfl)) 0 rfl (n := 68) rfl ?_
    refine Vw.getI (de_getfield (B 68 _ rfl) (B 69 _ rfl) (B 70 _ rfl)) fl_X12_270 rfl hM.k (n := 71) rfl ?_
    rw [em_g]
    refine Vw.aload_n (de_aload_0 (B 71 _ rfl)) 0 rfl (n := 72) rfl ?_
    refine Vw.getI (de_getfield (B 72 _ rfl) (B 73 _ rfl) (B 74 _ rfl)) fl_X12_267 rfl hM.k (n := 75) rfl ?_
    rw [em_k (by decide) (by decide), hE.2.2.2.2]
    refine Vw.icmp_ge (tgt := 221) (n := 78) (de_icmp_ge (B 75 _ rfl) (B 76 _ rfl) (B 77 _ rfl)) rfl rfl (fun c_75 => ?_) (fun c_75 => ?_)
    · refine Vw.lload (de_lload (B 221 _ rfl) (B 222 _ rfl)) 5 rfl (n := 223) rfl ?_
      refine Vw.l2i (de_l2i (B 223 _ rfl)) (n := 224) rfl ?_
      exact Vw.iret (de_ireturn (B 224 _ rfl)) rfl ⟨_, rfl, hq⟩
    exact absurd ((nI_leI (a := 400 * t + nt) (b := 400 * t + (j + 1)) (by omega) (by omega)).mpr (by omega)) c_75
  have loop : ∀ m k l acc j l2 c, k ≤ nt → pClause cd vl false k l = .ok (j, l2, c) → pRest cd vl false nt m j l2 (acc ++ [c]) = .ok cs → ∀ b, Vw mX12_tells (d + 42) 0 0 0 0 (ViQ Q) 67 [(0, .ref r), (1, .int hd), (2, .int lo), (3, .int hi), (4, .int wo), (5, .long (acc.foldl (tStep hd lo hi nv) wo.toInt64))] [] S (em (up2 (up2 I r 23 0) r 21 (nI (400 * t + nt))) r (nI (400 * t + k)) b) L := by
    intro m
    induction m with
    | zero =>
      intro k l acc j l2 c hk hP hR
      refine round k l _ j l2 c hk hP (fun b => ?_)
      rcases pRest_inv hR with ⟨q1, q2, q3⟩ | ⟨q1, m2, j2, l3, c2, q2, q3, q4⟩
      · refine exit _ _ _ q2 (pCl_b hE.2.1 hk hP) ?_
        have e := h _ (SameQ_em (I := I) (r := r) (x := 0) (g := nI (400 * t + (j + 1))) (b := b) (e := nI (400 * t + nt)))
        rw [q3] at e
        simpa only [tellsP, List.foldl_append, List.foldl_cons, List.foldl_nil] using e
      · exact absurd q2 (by omega)
    | succ m ih =>
      intro k l acc j l2 c hk hP hR
      have hj := pCl_b hE.2.1 hk hP
      refine round k l _ j l2 c hk hP (fun b => ?_)
      rcases pRest_inv hR with ⟨q1, q2, q3⟩ | ⟨q1, m2, j2, l3, c2, q2, q3, q4⟩
      · refine exit _ _ _ q2 hj ?_
        have e := h _ (SameQ_em (I := I) (r := r) (x := 0) (g := nI (400 * t + (j + 1))) (b := b) (e := nI (400 * t + nt)))
        rw [q3] at e
        simpa only [tellsP, List.foldl_append, List.foldl_cons, List.foldl_nil] using e
      · obtain rfl : m = m2 := by omega
        rw [pOne, if_neg (show ¬ false = true by decide)] at q3
        have e := ih (j + 1) l2 (acc ++ [c]) j2 l3 c2 (hE.lt hj (by rw [q1]; decide)) q3 q4 b
        rw [List.foldl_append] at e
        exact e
  obtain ⟨j, l, c, e1, e2⟩ := pText_inv k5
  have start := loop 11 0 0 [] j l c (Nat.zero_le _) e1 e2 (I r 22)
  refine Vw.aload_n (de_aload_0 (B 0 _ rfl)) 0 rfl (n := 1) rfl ?_
  refine Vw.getR (de_getfield (B 1 _ rfl) (B 2 _ rfl) (B 3 _ rfl)) fl_X12_24 rfl hM.k (MS_kept hM).1 (n := 4) rfl ?_
  refine Vw.sipush (v := 145) (de_sipush (B 4 _ rfl) (B 5 _ rfl) (B 6 _ rfl)) rfl (n := 7) rfl ?_
  refine Vw.iald (de_iaload (B 7 _ rfl)) (MS_kept hM).2 (j := 145) ⟨rfl, by decide, by decide⟩ (n := 8) rfl ?_
  refine Vw.iconst (v := -1) (de_iconst_m1 (B 8 _ rfl)) rfl (n := 9) rfl ?_
  refine Vw.icmp_ne (tgt := 15) (n := 12) (de_icmp_ne (B 9 _ rfl) (B 10 _ rfl) (B 11 _ rfl)) rfl rfl (fun c_9 => ?_) (fun c_9 => ?_)
  · refine Vw.aload_n (de_aload_0 (B 15 _ rfl)) 0 rfl (n := 16) rfl ?_
    refine Vw.iconst (v := 0) (de_iconst_0 (B 16 _ rfl)) rfl (n := 17) rfl ?_
    refine Vw.putZ (de_putfield (B 17 _ rfl) (B 18 _ rfl) (B 19 _ rfl)) fl_X12_300 hM.k rfl rfl rfl rfl (n := 20) rfl ?_
    refine Vw.iload (de_iload (B 20 _ rfl) (B 21 _ rfl)) 4 rfl (n := 22) rfl ?_
    refine Vw.i2l (de_i2l (B 22 _ rfl)) (n := 23) rfl ?_
    refine Vw.lstore (lv2 := [(0, _), (1, _), (2, _), (3, _), (4, _), (5, _)]) (de_lstore (B 23 _ rfl) (B 24 _ rfl)) (by decide) [1, 2, 3, 4, 5, 0] rfl (n := 25) rfl ?_
    refine Vw.aload_n (de_aload_0 (B 25 _ rfl)) 0 rfl (n := 26) rfl ?_
    refine Vw.sipush (v := 400) (de_sipush (B 26 _ rfl) (B 27 _ rfl) (B 28 _ rfl)) rfl (n := 29) rfl ?_
    refine Vw.aload_n (de_aload_0 (B 29 _ rfl)) 0 rfl (n := 30) rfl ?_
    refine Vw.getR (de_getfield (B 30 _ rfl) (B 31 _ rfl) (B 32 _ rfl)) fl_X12_24 rfl hM.k (MS_kept hM).1 (n := 33) rfl ?_
    refine Vw.sipush (v := 145) (de_sipush (B 33 _ rfl) (B 34 _ rfl) (B 35 _ rfl)) rfl (n := 36) rfl ?_
    refine Vw.iald (de_iaload (B 36 _ rfl)) (MS_kept hM).2 (j := 145) ⟨rfl, by decide, by decide⟩ (n := 37) rfl ?_
    rw [up2_a (show r + 2 ≠ r by omega), hF]
    refine Vw.imul (de_imul (B 37 _ rfl)) (n := 38) rfl ?_
    rw [show (400 : Int32) * nI t = nI (400 * t) from (nI_M 400 t).symm]
    refine Vw.putI (de_putfield (B 38 _ rfl) (B 39 _ rfl) (B 40 _ rfl)) fl_X12_270 hM.k rfl rfl (n := 41) rfl ?_
    refine Vw.aload_n (de_aload_0 (B 41 _ rfl)) 0 rfl (n := 42) rfl ?_
    refine Vw.aload_n (de_aload_0 (B 42 _ rfl)) 0 rfl (n := 43) rfl ?_
    refine Vw.getI (de_getfield (B 43 _ rfl) (B 44 _ rfl) (B 45 _ rfl)) fl_X12_270 rfl hM.k (n := 46) rfl ?_
    rw [up2_s]
    refine Vw.aload_n (de_aload_0 (B 46 _ rfl)) 0 rfl (n := 47) rfl ?_
    refine Vw.getR (de_getfield (B 47 _ rfl) (B 48 _ rfl) (B 49 _ rfl)) fl_X12_24 rfl hM.k (MS_kept hM).1 (n := 50) rfl ?_
    refine Vw.sipush (v := 146) (de_sipush (B 50 _ rfl) (B 51 _ rfl) (B 52 _ rfl)) rfl (n := 53) rfl ?_
    refine Vw.aload_n (de_aload_0 (B 53 _ rfl)) 0 rfl (n := 54) rfl ?_
    refine Vw.getR (de_getfield (B 54 _ rfl) (B 55 _ rfl) (B 56 _ rfl)) fl_X12_24 rfl hM.k (MS_kept hM).1 (n := 57) rfl ?_
    refine Vw.sipush (v := 145) (de_sipush (B 57 _ rfl) (B 58 _ rfl) (B 59 _ rfl)) rfl (n := 60) rfl ?_
    refine Vw.iald (de_iaload (B 60 _ rfl)) (MS_kept hM).2 (j := 145) ⟨rfl, by decide, by decide⟩ (n := 61) rfl ?_
    rw [up2_a (show r + 2 ≠ r by omega), up2_a (show r + 2 ≠ r by omega), hF]
    refine Vw.iadd (de_iadd (B 61 _ rfl)) (n := 62) rfl ?_
    refine Vw.iald (de_iaload (B 62 _ rfl)) (MS_kept hM).2 (vIx_n (k := 146 + t) (by rw [nI_A]; rfl) (by omega)) (n := 63) rfl ?_
    rw [up2_a (show r + 2 ≠ r by omega), up2_a (show r + 2 ≠ r by omega), k4]
    refine Vw.iadd (de_iadd (B 63 _ rfl)) (n := 64) rfl ?_
    rw [nI_add]
    refine Vw.putI (de_putfield (B 64 _ rfl) (B 65 _ rfl) (B 66 _ rfl)) fl_X12_267 hM.k rfl rfl (n := 67) rfl ?_
    rw [em_in]
    exact start
  exact absurd (hF.symm.trans c_9) (nI_m1 (by omega))
