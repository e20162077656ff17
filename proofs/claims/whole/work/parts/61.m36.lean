/-! odds() -/
def upL (K : Nat → Int64) (j : Nat) (v : Int64) : Nat → Int64 := fun x => if x = j then v else K x
theorem upL_s (K : Nat → Int64) (j : Nat) (v : Int64) : upL K j v j = v := if_pos rfl
theorem upL_n {K : Nat → Int64} {j x : Nat} {v : Int64} (h : x ≠ j) : upL K j v x = K x := if_neg h
theorem within_ex (v : Int32) : ∃ j, 5 ≤ j ∧ j ≤ 200 ∧ zWithin v 5 200 = nI j := by
  unfold zWithin
  by_cases h1 : (5 : Int32) ≤ v
  · by_cases h2 : v ≤ 200
    · rw [if_pos h1, if_pos h2]
      rw [i32_le] at h1 h2
      have e5 : (5 : Int32).toInt = 5 := rfl
      have e2 : (200 : Int32).toInt = 200 := rfl
      obtain ⟨j, h3, h4⟩ := nI_ex (x := v) (n := 201) (by omega) (by omega)
      refine ⟨j, ?_, by omega, h4⟩
      rw [h4, nI_ti (by omega)] at h1
      omega
    · rw [if_pos h1, if_neg h2]; exact ⟨200, by decide, by decide, rfl⟩
  · rw [if_neg h1]; exact ⟨5, by decide, by decide, rfl⟩
def wMin (j : Nat) : Nat := if j + 1 ≤ 200 then j + 1 else 200
theorem min_w {j : Nat} (h : j ≤ 200) : zMin 200 (nI j + 1) = nI (wMin j) := by
  unfold zMin wMin
  rw [nI_1, show (200 : Int32) = nI 200 from rfl]
  by_cases g : j + 1 ≤ 200
  · rw [if_pos g, if_pos ((nI_leI (a := j + 1) (b := 200) (by omega) (by omega)).mpr g)]
  · rw [if_neg g, if_neg (fun z => g ((nI_leI (a := j + 1) (b := 200) (by omega) (by omega)).mp z))]
theorem wMin_le (j : Nat) : wMin j ≤ 200 := by unfold wMin; split <;> omega
/-- one quarter of chances: F of ten are feasts -/
def sprTo (W : tW) (p now : Int32) (P : tP) (w : Nat) : Nat := (zWithin (nI w + widenP W p now (P.1, P.2.1, nI w, P.2.2.2)) 5 200).toNatClampNeg
def sprL (W : tW) (p now : Int32) (P : tP) (F : Int32) (D : Nat → Int64) : Nat → Nat → Int64
  | 0 => fun _ => 0
  | w + 1 => if D w = 0 then sprL W p now P F D w else
      upL (upL (sprL W p now P F D w) (sprTo W p now P w) (sprL W p now P F D w (sprTo W p now P w) + D w / 10 * (10 - F).toInt64)) (wMin (sprTo W p now P w))
        (upL (sprL W p now P F D w) (sprTo W p now P w) (sprL W p now P F D w (sprTo W p now P w) + D w / 10 * (10 - F).toInt64) (wMin (sprTo W p now P w)) + D w / 10 * F.toInt64)
def oddD (W : tW) (K : Nat → Int32) (q : Nat) : Nat → Nat → Int64
  | 0 => fun w => if nI w = K (4 * q + 2) then 1000000000000 else 0
  | k + 1 => sprL W (nI q) (K 121 + nI k) (walkP W (nI q) (K 121) (perP K q) k) (K 140) (oddD W K q k) 201
def oddS (D : Nat → Int64) (x : Int32) : Nat → Int64
  | 0 => 0
  | w + 1 => oddS D x w + (if nI w < x then 0 else D w)
def oddP (W : tW) (K : Nat → Int32) (np : Nat) (p x n : Int32) : Int64 := if zLie p 0 (nI np - 1) = 0 ∨ zLie n 0 12 = 0 then -1 else oddS (oddD W K p.toNatClampNeg n.toNatClampNeg) x 201
def Lo (r : Nat) (L L2 : vL) : Prop := ∀ a k, a ≠ r + 16 → a ≠ r + 17 → L2 a k = L a k
theorem qvl {Q : Int64 → vS → vI → vL → Prop} {v w : Int64} {S : vS} {I : vI} {L : vL} (e : v = w) (h : Q v S I L) : Q w S I L := e ▸ h
theorem oddS_c {D E : Nat → Int64} {x : Int32} : ∀ {w : Nat}, (∀ v, v < w → D v = E v) → oddS D x w = oddS E x w
  | 0, _ => rfl
  | w + 1, h => by rw [oddS, oddS, oddS_c (fun v hv => h v (by omega)), h w (by omega)]
theorem PPw {r : Nat} {I I2 : vI} {P : tP} (h : I r 26 = P.1) (h1 : I r 27 = P.2.1) (h2 : I r 29 = P.2.2.2) (f : I2 r 26 = I r 26) (f1 : I2 r 27 = I r 27) (f2 : I2 r 29 = I r 29) : PP I2 r = (P.1, P.2.1, I2 r 28, P.2.2.2) := by unfold PP; rw [f, f1, f2, h, h1, h2]
theorem sprL_0 {W : tW} {p now : Int32} {P : tP} {F : Int32} {D : Nat → Int64} {w : Nat} (h : D w = 0) : sprL W p now P F D (w + 1) = sprL W p now P F D w := by rw [sprL, if_pos h]
theorem c_X12_odds {d : Nat} {S : vS} {I : vI} {L : vL} {Q : Int64 → vS → vI → vL → Prop} {r : Nat} {p x y : Int32} {np nc : Nat} {W : tW} (hM : MS S r) (hW : WD (I (r + 2)) W) (hT : TN (I (r + 2)) np nc) (hw : ∀ q, q < np → ∃ w0, w0 ≤ 200 ∧ I (r + 2) (4 * q + 2) = nI w0) (h : ∀ I2 L2, Fr r I I2 → Lo r L L2 → Q (oddP W (I (r + 2)) np p x y) S I2 L2) : Vc mX12_odds (d + 45) 0 0 [.ref r, .int p, .int x, .int y] S I L (VlQ Q) := by
  refine Vc.of rfl (Nat.le_of_ble_eq_true rfl) ?_
  have B := bs_X12_odds
  show Vw mX12_odds (d + 45) 0 0 0 0 (VlQ Q) 0 [(0, .ref r), (1, .int p), (2, .int x), (3, .int y)] [] S I L
  have hnp := hT.1
  have hnc := hT.2.1
  have e142 := hT.2.2.1
  have e112 := hT.2.2.2.1
  have sumL : ∀ q n, (∀ J M, Fr r I J → Lo r L M → Q (oddS (oddD W (I (r + 2)) q n) x 201) S J M) → ∀ w, w ≤ 201 → ∀ J M, Fr r I J → Lo r L M → (∀ v, v ≤ 200 → M (r + 16) v = oddD W (I (r + 2)) q n v) → Vw mX12_odds (d + 45) 0 0 0 0 (VlQ Q) 306 [(0, .ref r), (1, .int (nI q)), (2, .int x), (3, .int (nI n)), (4, .long (oddS (oddD W (I (r + 2)) q n) x w)), (6, .int (nI w))] [] S J M := by
    intro q n fin
    refine loop_up (fun w hw2 ih => ?_)
    intro J M fJ fM dM
    refine Vw.iload (de_iload (B 306 _ rfl) (B 307 _ rfl)) 5 rfl (n := 308) rfl ?_
    refine Vw.sipush (v := 200) (de_sipush (B 308 _ rfl) (B 309 _ rfl) (B 310 _ rfl)) rfl (n := 311) rfl ?_
    refine Vw.icmp_gt (tgt := 342) (n := 314) (de_icmp_gt (B 311 _ rfl) (B 312 _ rfl) (B 313 _ rfl)) rfl rfl (fun c_311 => ?_) (fun c_311 => ?_)
    · have z_311 : w = 201 := by rcases Nat.lt_or_ge w 201 with z | z; exact absurd ((nI_leI (a := w) (b := 200) (by omega) (by omega)).mpr (by omega)) (Int32.not_le.mpr c_311); omega
      subst z_311
      refine Vw.lload (de_lload (B 342 _ rfl) (B 343 _ rfl)) 4 rfl (n := 344) rfl ?_
      exact Vw.lret (de_lreturn (B 344 _ rfl)) rfl ⟨_, rfl, (fin J M fJ fM)⟩
    have z_311 : w < 201 := by rcases Nat.lt_or_ge w 201 with z | z; exact z; exact absurd (Int32.not_le.mp (fun q => absurd ((nI_leI (a := w) (b := 200) (by omega) (by omega)).mp q) (by omega))) c_311
    refine Vw.lload (de_lload (B 314 _ rfl) (B 315 _ rfl)) 4 rfl (n := 316) rfl ?_
    refine Vw.iload (de_iload (B 316 _ rfl) (B 317 _ rfl)) 5 rfl (n := 318) rfl ?_
    refine Vw.iload_n (de_iload_2 (B 318 _ rfl)) 2 rfl (n := 319) rfl ?_
    refine Vw.icmp_lt (tgt := 332) (n := 322) (de_icmp_lt (B 319 _ rfl) (B 320 _ rfl) (B 321 _ rfl)) rfl rfl (fun c_319 => ?_) (fun c_319 => ?_)
    · refine Vw.lconst (v := 0) (de_lconst_0 (B 332 _ rfl)) rfl (n := 333) rfl ?_
      refine Vw.ladd (de_ladd (B 333 _ rfl)) (n := 334) rfl ?_
      refine Vw.lstore (lv2 := [(0, _), (1, _), (2, _), (3, _), (4, _), (6, _)]) (de_lstore (B 334 _ rfl) (B 335 _ rfl)) (by decide) [1, 2, 3, 4, 0, 5] rfl (n := 336) rfl ?_
      refine Vw.iinc (v := nI (w + 1)) (lv2 := [(0, _), (1, _), (2, _), (3, _), (4, _), (6, _)]) (de_iinc (B 336 _ rfl) (B 337 _ rfl) (B 338 _ rfl)) 5 rfl (nI_1 w) (by decide) [1, 2, 3, 4, 5, 0] rfl (n := 339) rfl ?_
      refine Vw.goto_ (n := 306) (de_goto_ (B 339 _ rfl) (B 340 _ rfl) (B 341 _ rfl)) rfl ?_
      have g := ih z_311 J M fJ fM dM
      rw [oddS] at g
      first
      | (rw [if_pos c_319] at g; exact g)
      | (rw [if_neg c_319] at g; exact g)
    refine Vw.aload_n (de_aload_0 (B 322 _ rfl)) 0 rfl (n := 323) rfl ?_
    refine Vw.getR (de_getfield (B 323 _ rfl) (B 324 _ rfl) (B 325 _ rfl)) fl_X12_71 rfl hM.k (MS_now0 hM).1 (n := 326) rfl ?_
    refine Vw.iload (de_iload (B 326 _ rfl) (B 327 _ rfl)) 5 rfl (n := 328) rfl ?_
    refine Vw.lald (de_laload (B 328 _ rfl)) (MS_now0 hM).2 (vIx_n (k := w) (by simp only [nI_A, nI_M, Int32.zero_add, Int32.add_zero] <;> rfl) (by omega)) (n := 329) rfl ?_
    rw [dM w (by omega)]
    refine Vw.goto_ (n := 333) (de_goto_ (B 329 _ rfl) (B 330 _ rfl) (B 331 _ rfl)) rfl ?_
    refine Vw.ladd (de_ladd (B 333 _ rfl)) (n := 334) rfl ?_
    refine Vw.lstore (lv2 := [(0, _), (1, _), (2, _), (3, _), (4, _), (6, _)]) (de_lstore (B 334 _ rfl) (B 335 _ rfl)) (by decide) [1, 2, 3, 4, 0, 5] rfl (n := 336) rfl ?_
    refine Vw.iinc (v := nI (w + 1)) (lv2 := [(0, _), (1, _), (2, _), (3, _), (4, _), (6, _)]) (de_iinc (B 336 _ rfl) (B 337 _ rfl) (B 338 _ rfl)) 5 rfl (nI_1 w) (by decide) [1, 2, 3, 4, 5, 0] rfl (n := 339) rfl ?_
    refine Vw.goto_ (n := 306) (de_goto_ (B 339 _ rfl) (B 340 _ rfl) (B 341 _ rfl)) rfl ?_
    have g := ih z_311 J M fJ fM dM
    rw [oddS] at g
    first
    | (rw [if_pos c_319] at g; exact g)
    | (rw [if_neg c_319] at g; exact g)
  have copyL : ∀ q n k, q < np → n ≤ 12 → k < n → (∀ J M, Fr r I J → PP J r = walkP W (nI q) (I (r + 2) 121) (perP (I (r + 2)) q) (k + 1) → Lo r L M → (∀ v, v ≤ 200 → M (r + 16) v = oddD W (I (r + 2)) q (k + 1) v) → Vw mX12_odds (d + 45) 0 0 0 0 (VlQ Q) 67 [(0, .ref r), (1, .int (nI q)), (2, .int x), (3, .int (nI n)), (4, .int (nI (k + 1)))] [] S J M) → ∀ w, w ≤ 201 → ∀ J M b, Fr r I J → PP J r = walkP W (nI q) (I (r + 2) 121) (perP (I (r + 2)) q) (k + 1) → Lo r L M → (∀ v, v ≤ 200 → M (r + 17) v = oddD W (I (r + 2)) q (k + 1) v) → (∀ v, v < w → M (r + 16) v = oddD W (I (r + 2)) q (k + 1) v) → Vw mX12_odds (d + 45) 0 0 0 0 (VlQ Q) 266 [(0, .ref r), (1, .int (nI q)), (2, .int x), (3, .int (nI n)), (4, .int (nI k)), (5, .int b), (6, .int (nI w))] [] S J M := by
    intro q n k hq hn hk go
    refine loop_up (fun w hw2 ih => ?_)
    intro J M b fJ pJ fM tM dM
    refine Vw.iload (de_iload (B 266 _ rfl) (B 267 _ rfl)) 6 rfl (n := 268) rfl ?_
    refine Vw.sipush (v := 200) (de_sipush (B 268 _ rfl) (B 269 _ rfl) (B 270 _ rfl)) rfl (n := 271) rfl ?_
    refine Vw.icmp_gt (tgt := 294) (n := 274) (de_icmp_gt (B 271 _ rfl) (B 272 _ rfl) (B 273 _ rfl)) rfl rfl (fun c_271 => ?_) (fun c_271 => ?_)
    · have z_271 : w = 201 := by rcases Nat.lt_or_ge w 201 with z | z; exact absurd ((nI_leI (a := w) (b := 200) (by omega) (by omega)).mpr (by omega)) (Int32.not_le.mpr c_271); omega
      subst z_271
      refine Vw.iinc (v := nI (k + 1)) (lv2 := [(0, _), (1, _), (2, _), (3, _), (4, _), (5, _), (6, _)]) (de_iinc (B 294 _ rfl) (B 295 _ rfl) (B 296 _ rfl)) 4 rfl (nI_1 k) (by decide) [1, 2, 3, 4, 0, 5, 6] rfl (n := 297) rfl ?_
      refine Vw.goto_ (n := 67) (de_goto_ (B 297 _ rfl) (B 298 _ rfl) (B 299 _ rfl)) rfl ?_
      refine Vw.lvs (lv2 := [(0, _), (1, _), (2, _), (3, _), (4, _)]) [0, 1, 2, 3, 4] rfl ?_
      exact go J M fJ pJ fM (fun v hv => dM v (by omega))
    have z_271 : w < 201 := by rcases Nat.lt_or_ge w 201 with z | z; exact z; exact absurd (Int32.not_le.mp (fun q => absurd ((nI_leI (a := w) (b := 200) (by omega) (by omega)).mp q) (by omega))) c_271
    refine Vw.aload_n (de_aload_0 (B 274 _ rfl)) 0 rfl (n := 275) rfl ?_
    refine Vw.getR (de_getfield (B 275 _ rfl) (B 276 _ rfl) (B 277 _ rfl)) fl_X12_71 rfl hM.k (MS_now0 hM).1 (n := 278) rfl ?_
    refine Vw.iload (de_iload (B 278 _ rfl) (B 279 _ rfl)) 6 rfl (n := 280) rfl ?_
    refine Vw.aload_n (de_aload_0 (B 280 _ rfl)) 0 rfl (n := 281) rfl ?_
    refine Vw.getR (de_getfield (B 281 _ rfl) (B 282 _ rfl) (B 283 _ rfl)) fl_X12_75 rfl hM.k (MS_then0 hM).1 (n := 284) rfl ?_
    refine Vw.iload (de_iload (B 284 _ rfl) (B 285 _ rfl)) 6 rfl (n := 286) rfl ?_
    refine Vw.lald (de_laload (B 286 _ rfl)) (MS_then0 hM).2 (vIx_n (k := w) (by simp only [nI_A, nI_M, Int32.zero_add, Int32.add_zero] <;> rfl) (by omega)) (n := 287) rfl ?_
    rw [tM w (by omega)]
    refine Vw.last (de_lastore (B 287 _ rfl)) (MS_now0 hM).2 (vIx_n (k := w) (by simp only [nI_A, nI_M, Int32.zero_add, Int32.add_zero] <;> rfl) (by omega)) (n := 288) rfl ?_
    refine Vw.iinc (v := nI (w + 1)) (lv2 := [(0, _), (1, _), (2, _), (3, _), (4, _), (5, _), (6, _)]) (de_iinc (B 288 _ rfl) (B 289 _ rfl) (B 290 _ rfl)) 6 rfl (nI_1 w) (by decide) [1, 2, 3, 4, 5, 6, 0] rfl (n := 291) rfl ?_
    refine Vw.goto_ (n := 266) (de_goto_ (B 291 _ rfl) (B 292 _ rfl) (B 293 _ rfl)) rfl ?_
    refine ih z_271 J _ b fJ pJ (fun a k h1 h2 => by rw [up2_a (by omega)]; exact fM a k h1 h2) (fun v hv => by rw [up2_a (by omega)]; exact tM v hv) (fun v hv => ?_)
    by_cases e : v = w
    · rw [e, up2_s]
    · rw [up2_k e]; exact dM v (by omega)
  have sprd : ∀ q n k, q < np → n ≤ 12 → k < n → (∀ J M, Fr r I J → PP J r = walkP W (nI q) (I (r + 2) 121) (perP (I (r + 2)) q) (k + 1) → Lo r L M → (∀ v, v ≤ 200 → M (r + 16) v = oddD W (I (r + 2)) q (k + 1) v) → Vw mX12_odds (d + 45) 0 0 0 0 (VlQ Q) 67 [(0, .ref r), (1, .int (nI q)), (2, .int x), (3, .int (nI n)), (4, .int (nI (k + 1)))] [] S J M) → ∀ w, w ≤ 201 → ∀ J M, Fr r I J → J r 26 = (walkP W (nI q) (I (r + 2) 121) (perP (I (r + 2)) q) k).1 → J r 27 = (walkP W (nI q) (I (r + 2) 121) (perP (I (r + 2)) q) k).2.1 → J r 29 = (walkP W (nI q) (I (r + 2) 121) (perP (I (r + 2)) q) k).2.2.2 → Lo r L M → (∀ v, v ≤ 200 → M (r + 16) v = oddD W (I (r + 2)) q k v) → (∀ v, v ≤ 200 → M (r + 17) v = sprL W (nI q) (I (r + 2) 121 + nI k) (walkP W (nI q) (I (r + 2) 121) (perP (I (r + 2)) q) k) (I (r + 2) 140) (oddD W (I (r + 2)) q k) w v) → Vw mX12_odds (d + 45) 0 0 0 0 (VlQ Q) 107 [(0, .ref r), (1, .int (nI q)), (2, .int x), (3, .int (nI n)), (4, .int (nI k)), (5, .int (walkP W (nI q) (I (r + 2) 121) (perP (I (r + 2)) q) k).2.2.1), (6, .int (nI w))] [] S J M := by
    intro q n k hq hn hk go
    refine loop_up (fun w hw2 ih => ?_)
    intro J M fJ a1 a2 a3 fM dM tM
    have kJ := fJ.k
    refine Vw.iload (de_iload (B 107 _ rfl) (B 108 _ rfl)) 6 rfl (n := 109) rfl ?_
    refine Vw.sipush (v := 200) (de_sipush (B 109 _ rfl) (B 110 _ rfl) (B 111 _ rfl)) rfl (n := 112) rfl ?_
    refine Vw.icmp_gt (tgt := 242) (n := 115) (de_icmp_gt (B 112 _ rfl) (B 113 _ rfl) (B 114 _ rfl)) rfl rfl (fun c_112 => ?_) (fun c_112 => ?_)
    · have z_112 : w = 201 := by rcases Nat.lt_or_ge w 201 with z | z; exact absurd ((nI_leI (a := w) (b := 200) (by omega) (by omega)).mpr (by omega)) (Int32.not_le.mpr c_112); omega
      subst z_112
      refine Vw.aload_n (de_aload_0 (B 242 _ rfl)) 0 rfl (n := 243) rfl ?_
      refine Vw.iload (de_iload (B 243 _ rfl) (B 244 _ rfl)) 5 rfl (n := 245) rfl ?_
      refine Vw.putI (de_putfield (B 245 _ rfl) (B 246 _ rfl) (B 247 _ rfl)) fl_X12_324 hM.k rfl rfl (n := 248) rfl ?_
      have fU : Fr r J (up2 J r 28 (walkP W (nI q) (I (r + 2) 121) (perP (I (r + 2)) q) k).2.2.1) := (fun a k h1 h2 => by simp (disch := omega) only [up2_n])
      have pU : PP (up2 J r 28 (walkP W (nI q) (I (r + 2) 121) (perP (I (r + 2)) q) k).2.2.1) r = walkP W (nI q) (I (r + 2) 121) (perP (I (r + 2)) q) k := by unfold PP; rw [up2_k (by decide), up2_k (by decide), up2_s, up2_k (by decide), a1, a2, a3]
      have kU := fU.k.trans kJ
      refine Vw.aload_n (de_aload_0 (B 248 _ rfl)) 0 rfl (n := 249) rfl ?_
      refine Vw.iload_n (de_iload_1 (B 249 _ rfl)) 1 rfl (n := 250) rfl ?_
      refine Vw.aload_n (de_aload_0 (B 250 _ rfl)) 0 rfl (n := 251) rfl ?_
      refine Vw.getR (de_getfield (B 251 _ rfl) (B 252 _ rfl) (B 253 _ rfl)) fl_X12_24 rfl hM.k (MS_kept hM).1 (n := 254) rfl ?_
      refine Vw.bipush (v := 121) (de_bipush (B 254 _ rfl) (B 255 _ rfl)) rfl (n := 256) rfl ?_
      refine Vw.iald (de_iaload (B 256 _ rfl)) (MS_kept hM).2 (j := 121) ⟨rfl, by decide, by decide⟩ (n := 257) rfl ?_
      rw [kU]
      refine Vw.iload (de_iload (B 257 _ rfl) (B 258 _ rfl)) 4 rfl (n := 259) rfl ?_
      refine Vw.iadd (de_iadd (B 259 _ rfl)) (n := 260) rfl ?_
      refine Vw.ivv2 (mi' := mX12_goesOn) (de_invokevirtual (B 260 _ rfl) (B 261 _ rfl) (B 262 _ rfl)) ml_X12_375 mv_X12_goesOn hM.k (Nat.le_of_ble_eq_true rfl) (n := 263) rfl (c_X12_goesOn (W := W) hM (by rw [kU]; exact hW) (fun I3 f3 e3 => ?_))
      refine Vw.iconst (v := 0) (de_iconst_0 (B 263 _ rfl)) rfl (n := 264) rfl ?_
      refine Vw.istore (lv2 := [(0, _), (1, _), (2, _), (3, _), (4, _), (5, _), (6, _)]) (de_istore (B 264 _ rfl) (B 265 _ rfl)) (by decide) [1, 2, 3, 4, 5, 6, 0] rfl (n := 266) rfl ?_
      exact copyL q n k hq hn hk go 0 (Nat.zero_le _) I3 M _ ((fJ.trans fU).trans f3) (by rw [e3, pU, walkP]) fM tM (fun v hv => absurd hv (Nat.not_lt_zero _))
    have z_112 : w < 201 := by rcases Nat.lt_or_ge w 201 with z | z; exact z; exact absurd (Int32.not_le.mp (fun q => absurd ((nI_leI (a := w) (b := 200) (by omega) (by omega)).mp q) (by omega))) c_112
    refine Vw.aload_n (de_aload_0 (B 115 _ rfl)) 0 rfl (n := 116) rfl ?_
    refine Vw.getR (de_getfield (B 116 _ rfl) (B 117 _ rfl) (B 118 _ rfl)) fl_X12_71 rfl hM.k (MS_now0 hM).1 (n := 119) rfl ?_
    refine Vw.iload (de_iload (B 119 _ rfl) (B 120 _ rfl)) 6 rfl (n := 121) rfl ?_
    refine Vw.lald (de_laload (B 121 _ rfl)) (MS_now0 hM).2 (vIx_n (k := w) (by simp only [nI_A, nI_M, Int32.zero_add, Int32.add_zero] <;> rfl) (by omega)) (n := 122) rfl ?_
    rw [dM w (by omega)]
    refine Vw.lconst (v := 0) (de_lconst_0 (B 122 _ rfl)) rfl (n := 123) rfl ?_
    refine Vw.lcmp (de_lcmp (B 123 _ rfl)) (n := 124) rfl ?_
    refine Vw.if_ne (tgt := 130) (n := 127) (de_if_ne (B 124 _ rfl) (B 125 _ rfl) (B 126 _ rfl)) rfl rfl (fun c_124 => ?_) (fun c_124 => ?_)
    · refine Vw.aload_n (de_aload_0 (B 130 _ rfl)) 0 rfl (n := 131) rfl ?_
      refine Vw.iload (de_iload (B 131 _ rfl) (B 132 _ rfl)) 6 rfl (n := 133) rfl ?_
      refine Vw.putI (de_putfield (B 133 _ rfl) (B 134 _ rfl) (B 135 _ rfl)) fl_X12_324 hM.k rfl rfl (n := 136) rfl ?_
      have fU : Fr r J (up2 J r 28 (nI w)) := (fun a k h1 h2 => by simp (disch := omega) only [up2_n])
      have pU : PP (up2 J r 28 (nI w)) r = ((walkP W (nI q) (I (r + 2) 121) (perP (I (r + 2)) q) k).1, (walkP W (nI q) (I (r + 2) 121) (perP (I (r + 2)) q) k).2.1, nI w, (walkP W (nI q) (I (r + 2) 121) (perP (I (r + 2)) q) k).2.2.2) := by unfold PP; rw [up2_k (by decide), up2_k (by decide), up2_s, up2_k (by decide), a1, a2, a3]
      have kU := fU.k.trans kJ
      refine Vw.iload (de_iload (B 136 _ rfl) (B 137 _ rfl)) 6 rfl (n := 138) rfl ?_
      refine Vw.aload_n (de_aload_0 (B 138 _ rfl)) 0 rfl (n := 139) rfl ?_
      refine Vw.iload_n (de_iload_1 (B 139 _ rfl)) 1 rfl (n := 140) rfl ?_
      refine Vw.aload_n (de_aload_0 (B 140 _ rfl)) 0 rfl (n := 141) rfl ?_
      refine Vw.getR (de_getfield (B 141 _ rfl) (B 142 _ rfl) (B 143 _ rfl)) fl_X12_24 rfl hM.k (MS_kept hM).1 (n := 144) rfl ?_
      refine Vw.bipush (v := 121) (de_bipush (B 144 _ rfl) (B 145 _ rfl)) rfl (n := 146) rfl ?_
      refine Vw.iald (de_iaload (B 146 _ rfl)) (MS_kept hM).2 (j := 121) ⟨rfl, by decide, by decide⟩ (n := 147) rfl ?_
      rw [kU]
      refine Vw.iload (de_iload (B 147 _ rfl) (B 148 _ rfl)) 4 rfl (n := 149) rfl ?_
      refine Vw.iadd (de_iadd (B 149 _ rfl)) (n := 150) rfl ?_
      refine Vw.ivi2 (mi' := mX12_widens) (de_invokevirtual (B 150 _ rfl) (B 151 _ rfl) (B 152 _ rfl)) ml_X12_150 mv_X12_widens hM.k (Nat.le_of_ble_eq_true rfl) (n := 153) rfl (c_X12_widens (W := W) hM (by rw [kU]; exact hW) (fun I3 f3 e3 => ?_))
      rw [pU]
      have fI := (fJ.trans fU).trans f3
      have q3 := PPe (e3.trans pU)
      refine Vw.iadd (de_iadd (B 153 _ rfl)) (n := 154) rfl ?_
      refine Vw.iconst (v := 5) (de_iconst_5 (B 154 _ rfl)) rfl (n := 155) rfl ?_
      refine Vw.sipush (v := 200) (de_sipush (B 155 _ rfl) (B 156 _ rfl) (B 157 _ rfl)) rfl (n := 158) rfl ?_
      refine Vw.isi3 (mi' := mX12_within) (de_invokestatic (B 158 _ rfl) (B 159 _ rfl) (B 160 _ rfl)) ml_X12_338 ms_X12_within (Nat.le_of_ble_eq_true rfl) (n := 161) rfl (c_X12_within ?_)
      obtain ⟨j, hj5, hj, ej⟩ := within_ex (nI w + widenP W (nI q) (I (r + 2) 121 + nI k) ((walkP W (nI q) (I (r + 2) 121) (perP (I (r + 2)) q) k).1, (walkP W (nI q) (I (r + 2) 121) (perP (I (r + 2)) q) k).2.1, nI w, (walkP W (nI q) (I (r + 2) 121) (perP (I (r + 2)) q) k).2.2.2))
      rw [ej]
      have eto : sprTo W (nI q) (I (r + 2) 121 + nI k) (walkP W (nI q) (I (r + 2) 121) (perP (I (r + 2)) q) k) w = j := by unfold sprTo; rw [ej, nI_cl (by omega)]
      have hwm := wMin_le j
      refine Vw.istore (lv2 := [(0, _), (1, _), (2, _), (3, _), (4, _), (5, _), (6, _), (7, _)]) (de_istore (B 161 _ rfl) (B 162 _ rfl)) (by decide) [1, 2, 3, 4, 5, 6, 7, 0] rfl (n := 163) rfl ?_
      refine Vw.aload_n (de_aload_0 (B 163 _ rfl)) 0 rfl (n := 164) rfl ?_
      refine Vw.getR (de_getfield (B 164 _ rfl) (B 165 _ rfl) (B 166 _ rfl)) fl_X12_75 rfl hM.k (MS_then0 hM).1 (n := 167) rfl ?_
      refine Vw.iload (de_iload (B 167 _ rfl) (B 168 _ rfl)) 7 rfl (n := 169) rfl ?_
      refine Vw.dup2 (de_dup2 (B 169 _ rfl)) rfl rfl (n := 170) rfl ?_
      refine Vw.lald (de_laload (B 170 _ rfl)) (MS_then0 hM).2 (vIx_n (k := j) (by simp only [nI_A, nI_M, Int32.zero_add, Int32.add_zero] <;> rfl) (by omega)) (n := 171) rfl ?_
      rw [tM j (by omega)]
      refine Vw.aload_n (de_aload_0 (B 171 _ rfl)) 0 rfl (n := 172) rfl ?_
      refine Vw.getR (de_getfield (B 172 _ rfl) (B 173 _ rfl) (B 174 _ rfl)) fl_X12_71 rfl hM.k (MS_now0 hM).1 (n := 175) rfl ?_
      refine Vw.iload (de_iload (B 175 _ rfl) (B 176 _ rfl)) 6 rfl (n := 177) rfl ?_
      refine Vw.lald (de_laload (B 177 _ rfl)) (MS_now0 hM).2 (vIx_n (k := w) (by simp only [nI_A, nI_M, Int32.zero_add, Int32.add_zero] <;> rfl) (by omega)) (n := 178) rfl ?_
      rw [dM w (by omega)]
      refine Vw.ldc2 (de_ldc2_w (B 178 _ rfl) (B 179 _ rfl) (B 180 _ rfl)) kc_X12_408 (n := 181) rfl ?_
      refine Vw.ldiv (de_ldiv (B 181 _ rfl)) (by decide) (n := 182) rfl ?_
      refine Vw.bipush (v := 10) (de_bipush (B 182 _ rfl) (B 183 _ rfl)) rfl (n := 184) rfl ?_
      refine Vw.aload_n (de_aload_0 (B 184 _ rfl)) 0 rfl (n := 185) rfl ?_
      refine Vw.getR (de_getfield (B 185 _ rfl) (B 186 _ rfl) (B 187 _ rfl)) fl_X12_24 rfl hM.k (MS_kept hM).1 (n := 188) rfl ?_
      refine Vw.sipush (v := 140) (de_sipush (B 188 _ rfl) (B 189 _ rfl) (B 190 _ rfl)) rfl (n := 191) rfl ?_
      refine Vw.iald (de_iaload (B 191 _ rfl)) (MS_kept hM).2 (j := 140) ⟨rfl, by decide, by decide⟩ (n := 192) rfl ?_
      rw [fI.k]
      refine Vw.isub (de_isub (B 192 _ rfl)) (n := 193) rfl ?_
      refine Vw.i2l (de_i2l (B 193 _ rfl)) (n := 194) rfl ?_
      refine Vw.lmul (de_lmul (B 194 _ rfl)) (n := 195) rfl ?_
      refine Vw.ladd (de_ladd (B 195 _ rfl)) (n := 196) rfl ?_
      refine Vw.last (de_lastore (B 196 _ rfl)) (MS_then0 hM).2 (vIx_n (k := j) (by simp only [nI_A, nI_M, Int32.zero_add, Int32.add_zero] <;> rfl) (by omega)) (n := 197) rfl ?_
      refine Vw.aload_n (de_aload_0 (B 197 _ rfl)) 0 rfl (n := 198) rfl ?_
      refine Vw.getR (de_getfield (B 198 _ rfl) (B 199 _ rfl) (B 200 _ rfl)) fl_X12_75 rfl hM.k (MS_then0 hM).1 (n := 201) rfl ?_
      refine Vw.sipush (v := 200) (de_sipush (B 201 _ rfl) (B 202 _ rfl) (B 203 _ rfl)) rfl (n := 204) rfl ?_
      refine Vw.iload (de_iload (B 204 _ rfl) (B 205 _ rfl)) 7 rfl (n := 206) rfl ?_
      refine Vw.iconst (v := 1) (de_iconst_1 (B 206 _ rfl)) rfl (n := 207) rfl ?_
      refine Vw.iadd (de_iadd (B 207 _ rfl)) (n := 208) rfl ?_
      refine Vw.isi2 (mi' := mX12_lesser) (de_invokestatic (B 208 _ rfl) (B 209 _ rfl) (B 210 _ rfl)) ml_X12_341 ms_X12_lesser (Nat.le_of_ble_eq_true rfl) (n := 211) rfl (c_X12_lesser ?_)
      rw [min_w hj]
      refine Vw.dup2 (de_dup2 (B 211 _ rfl)) rfl rfl (n := 212) rfl ?_
      refine Vw.lald (de_laload (B 212 _ rfl)) (MS_then0 hM).2 (vIx_n (k := wMin j) (by simp only [nI_A, nI_M, Int32.zero_add, Int32.add_zero] <;> rfl) (by omega)) (n := 213) rfl ?_
      rw [show up2 M (r + 17) j (sprL W (nI q) (I (r + 2) 121 + nI k) (walkP W (nI q) (I (r + 2) 121) (perP (I (r + 2)) q) k) (I (r + 2) 140) (oddD W (I (r + 2)) q k) w j + oddD W (I (r + 2)) q k w / 10 * (10 - I (r + 2) 140).toInt64) (r + 17) (wMin j) = upL (sprL W (nI q) (I (r + 2) 121 + nI k) (walkP W (nI q) (I (r + 2) 121) (perP (I (r + 2)) q) k) (I (r + 2) 140) (oddD W (I (r + 2)) q k) w) j (sprL W (nI q) (I (r + 2) 121 + nI k) (walkP W (nI q) (I (r + 2) 121) (perP (I (r + 2)) q) k) (I (r + 2) 140) (oddD W (I (r + 2)) q k) w j + oddD W (I (r + 2)) q k w / 10 * (10 - I (r + 2) 140).toInt64) (wMin j) from by
        by_cases e : wMin j = j
        · rw [e, up2_s, upL_s]
        · rw [up2_k e, upL_n e]; exact tM _ hwm]
      refine Vw.aload_n (de_aload_0 (B 213 _ rfl)) 0 rfl (n := 214) rfl ?_
      refine Vw.getR (de_getfield (B 214 _ rfl) (B 215 _ rfl) (B 216 _ rfl)) fl_X12_71 rfl hM.k (MS_now0 hM).1 (n := 217) rfl ?_
      refine Vw.iload (de_iload (B 217 _ rfl) (B 218 _ rfl)) 6 rfl (n := 219) rfl ?_
      refine Vw.lald (de_laload (B 219 _ rfl)) (MS_now0 hM).2 (vIx_n (k := w) (by simp only [nI_A, nI_M, Int32.zero_add, Int32.add_zero] <;> rfl) (by omega)) (n := 220) rfl ?_
      rw [up2_a (show r + 16 ≠ r + 17 by omega), dM w (by omega)]
      refine Vw.ldc2 (de_ldc2_w (B 220 _ rfl) (B 221 _ rfl) (B 222 _ rfl)) kc_X12_408 (n := 223) rfl ?_
      refine Vw.ldiv (de_ldiv (B 223 _ rfl)) (by decide) (n := 224) rfl ?_
      refine Vw.aload_n (de_aload_0 (B 224 _ rfl)) 0 rfl (n := 225) rfl ?_
      refine Vw.getR (de_getfield (B 225 _ rfl) (B 226 _ rfl) (B 227 _ rfl)) fl_X12_24 rfl hM.k (MS_kept hM).1 (n := 228) rfl ?_
      refine Vw.sipush (v := 140) (de_sipush (B 228 _ rfl) (B 229 _ rfl) (B 230 _ rfl)) rfl (n := 231) rfl ?_
      refine Vw.iald (de_iaload (B 231 _ rfl)) (MS_kept hM).2 (j := 140) ⟨rfl, by decide, by decide⟩ (n := 232) rfl ?_
      rw [fI.k]
      refine Vw.i2l (de_i2l (B 232 _ rfl)) (n := 233) rfl ?_
      refine Vw.lmul (de_lmul (B 233 _ rfl)) (n := 234) rfl ?_
      refine Vw.ladd (de_ladd (B 234 _ rfl)) (n := 235) rfl ?_
      refine Vw.last (de_lastore (B 235 _ rfl)) (MS_then0 hM).2 (vIx_n (k := wMin j) (by simp only [nI_A, nI_M, Int32.zero_add, Int32.add_zero] <;> rfl) (by omega)) (n := 236) rfl ?_
      refine Vw.iinc (v := nI (w + 1)) (lv2 := [(0, _), (1, _), (2, _), (3, _), (4, _), (5, _), (6, _), (7, _)]) (de_iinc (B 236 _ rfl) (B 237 _ rfl) (B 238 _ rfl)) 6 rfl (nI_1 w) (by decide) [1, 2, 3, 4, 5, 6, 0, 7] rfl (n := 239) rfl ?_
      refine Vw.goto_ (n := 107) (de_goto_ (B 239 _ rfl) (B 240 _ rfl) (B 241 _ rfl)) rfl ?_
      refine Vw.lvs (lv2 := [(0, _), (1, _), (2, _), (3, _), (4, _), (5, _), (6, _)]) [0, 1, 2, 3, 4, 5, 6] rfl ?_
      first
      | exact ih z_112 J M fJ a1 a2 a3 fM dM (fun v hv => by rw [sprL_0 ((lg_cmp_eq _ _).mp c_124)]; exact tM v hv)
      | (refine ih z_112 I3 _ fI q3.1 q3.2.1 q3.2.2.2 (fun a k h1 h2 => by rw [up2_a h2, up2_a h2]; exact fM a k h1 h2) (fun v hv => by rw [up2_a (by omega), up2_a (by omega)]; exact dM v hv) (fun v hv => ?_)
         rw [sprL, if_neg (fun z => c_124 ((lg_cmp_eq _ _).mpr z)), eto]
         by_cases e1 : v = wMin j
         · rw [e1, up2_s, upL_s]
         · rw [up2_k e1, upL_n e1]
           by_cases e2 : v = j
           · rw [e2, up2_s, upL_s]
           · rw [up2_k e2, upL_n e2]; exact tM v hv)
    refine Vw.goto_ (n := 236) (de_goto_ (B 127 _ rfl) (B 128 _ rfl) (B 129 _ rfl)) rfl ?_
    refine Vw.iinc (v := nI (w + 1)) (lv2 := [(0, _), (1, _), (2, _), (3, _), (4, _), (5, _), (6, _)]) (de_iinc (B 236 _ rfl) (B 237 _ rfl) (B 238 _ rfl)) 6 rfl (nI_1 w) (by decide) [1, 2, 3, 4, 5, 6, 0] rfl (n := 239) rfl ?_
    refine Vw.goto_ (n := 107) (de_goto_ (B 239 _ rfl) (B 240 _ rfl) (B 241 _ rfl)) rfl ?_
    first
    | exact ih z_112 J M fJ a1 a2 a3 fM dM (fun v hv => by rw [sprL_0 ((lg_cmp_eq _ _).mp c_124)]; exact tM v hv)
    | (refine ih z_112 I3 _ fI q3.1 q3.2.1 q3.2.2.2 (fun a k h1 h2 => by rw [up2_a h2, up2_a h2]; exact fM a k h1 h2) (fun v hv => by rw [up2_a (by omega), up2_a (by omega)]; exact dM v hv) (fun v hv => ?_)
       rw [sprL, if_neg (fun z => c_124 ((lg_cmp_eq _ _).mpr z)), eto]
       by_cases e1 : v = wMin j
       · rw [e1, up2_s, upL_s]
       · rw [up2_k e1, upL_n e1]
         by_cases e2 : v = j
         · rw [e2, up2_s, upL_s]
         · rw [up2_k e2, upL_n e2]; exact tM v hv)
  have zer2 : ∀ q n k, q < np → n ≤ 12 → k < n → (∀ J M, Fr r I J → PP J r = walkP W (nI q) (I (r + 2) 121) (perP (I (r + 2)) q) (k + 1) → Lo r L M → (∀ v, v ≤ 200 → M (r + 16) v = oddD W (I (r + 2)) q (k + 1) v) → Vw mX12_odds (d + 45) 0 0 0 0 (VlQ Q) 67 [(0, .ref r), (1, .int (nI q)), (2, .int x), (3, .int (nI n)), (4, .int (nI (k + 1)))] [] S J M) → ∀ w, w ≤ 201 → ∀ J M, Fr r I J → PP J r = walkP W (nI q) (I (r + 2) 121) (perP (I (r + 2)) q) k → Lo r L M → (∀ v, v ≤ 200 → M (r + 16) v = oddD W (I (r + 2)) q k v) → (∀ v, v < w → M (r + 17) v = 0) → Vw mX12_odds (d + 45) 0 0 0 0 (VlQ Q) 82 [(0, .ref r), (1, .int (nI q)), (2, .int x), (3, .int (nI n)), (4, .int (nI k)), (5, .int (walkP W (nI q) (I (r + 2) 121) (perP (I (r + 2)) q) k).2.2.1), (6, .int (nI w))] [] S J M := by
    intro q n k hq hn hk go
    refine loop_up (fun w hw2 ih => ?_)
    intro J M fJ pJ fM dM tM
    refine Vw.iload (de_iload (B 82 _ rfl) (B 83 _ rfl)) 6 rfl (n := 84) rfl ?_
    refine Vw.sipush (v := 200) (de_sipush (B 84 _ rfl) (B 85 _ rfl) (B 86 _ rfl)) rfl (n := 87) rfl ?_
    refine Vw.icmp_gt (tgt := 104) (n := 90) (de_icmp_gt (B 87 _ rfl) (B 88 _ rfl) (B 89 _ rfl)) rfl rfl (fun c_87 => ?_) (fun c_87 => ?_)
    · have z_87 : w = 201 := by rcases Nat.lt_or_ge w 201 with z | z; exact absurd ((nI_leI (a := w) (b := 200) (by omega) (by omega)).mpr (by omega)) (Int32.not_le.mpr c_87); omega
      subst z_87
      refine Vw.iconst (v := 0) (de_iconst_0 (B 104 _ rfl)) rfl (n := 105) rfl ?_
      refine Vw.istore (lv2 := [(0, _), (1, _), (2, _), (3, _), (4, _), (5, _), (6, _)]) (de_istore (B 105 _ rfl) (B 106 _ rfl)) (by decide) [1, 2, 3, 4, 5, 6, 0] rfl (n := 107) rfl ?_
      exact sprd q n k hq hn hk go 0 (Nat.zero_le _) J M fJ (PPe pJ).1 (PPe pJ).2.1 (PPe pJ).2.2.2 fM dM (fun v hv => by rw [sprL]; exact tM v (by omega))
    have z_87 : w < 201 := by rcases Nat.lt_or_ge w 201 with z | z; exact z; exact absurd (Int32.not_le.mp (fun q => absurd ((nI_leI (a := w) (b := 200) (by omega) (by omega)).mp q) (by omega))) c_87
    refine Vw.aload_n (de_aload_0 (B 90 _ rfl)) 0 rfl (n := 91) rfl ?_
    refine Vw.getR (de_getfield (B 91 _ rfl) (B 92 _ rfl) (B 93 _ rfl)) fl_X12_75 rfl hM.k (MS_then0 hM).1 (n := 94) rfl ?_
    refine Vw.iload (de_iload (B 94 _ rfl) (B 95 _ rfl)) 6 rfl (n := 96) rfl ?_
    refine Vw.lconst (v := 0) (de_lconst_0 (B 96 _ rfl)) rfl (n := 97) rfl ?_
    refine Vw.last (de_lastore (B 97 _ rfl)) (MS_then0 hM).2 (vIx_n (k := w) (by simp only [nI_A, nI_M, Int32.zero_add, Int32.add_zero] <;> rfl) (by omega)) (n := 98) rfl ?_
    refine Vw.iinc (v := nI (w + 1)) (lv2 := [(0, _), (1, _), (2, _), (3, _), (4, _), (5, _), (6, _)]) (de_iinc (B 98 _ rfl) (B 99 _ rfl) (B 100 _ rfl)) 6 rfl (nI_1 w) (by decide) [1, 2, 3, 4, 5, 6, 0] rfl (n := 101) rfl ?_
    refine Vw.goto_ (n := 82) (de_goto_ (B 101 _ rfl) (B 102 _ rfl) (B 103 _ rfl)) rfl ?_
    refine ih z_87 J _ fJ pJ (fun a k h1 h2 => by rw [up2_a (by omega)]; exact fM a k h1 h2) (fun v hv => by rw [up2_a (by omega)]; exact dM v hv) (fun v hv => ?_)
    by_cases e : v = w
    · rw [e, up2_s]
    · rw [up2_k e]; exact tM v (by omega)
  have main : ∀ q n, q < np → n ≤ 12 → (∀ J M, Fr r I J → Lo r L M → Q (oddS (oddD W (I (r + 2)) q n) x 201) S J M) → ∀ k, k ≤ n → ∀ J M, Fr r I J → PP J r = walkP W (nI q) (I (r + 2) 121) (perP (I (r + 2)) q) k → Lo r L M → (∀ v, v ≤ 200 → M (r + 16) v = oddD W (I (r + 2)) q k v) → Vw mX12_odds (d + 45) 0 0 0 0 (VlQ Q) 67 [(0, .ref r), (1, .int (nI q)), (2, .int x), (3, .int (nI n)), (4, .int (nI k))] [] S J M := by
    intro q n hq hn fin
    refine loop_up (fun k hk ih => ?_)
    intro J M fJ pJ fM dM
    refine Vw.iload (de_iload (B 67 _ rfl) (B 68 _ rfl)) 4 rfl (n := 69) rfl ?_
    refine Vw.iload_n (de_iload_3 (B 69 _ rfl)) 3 rfl (n := 70) rfl ?_
    refine Vw.icmp_ge (tgt := 300) (n := 73) (de_icmp_ge (B 70 _ rfl) (B 71 _ rfl) (B 72 _ rfl)) rfl rfl (fun c_70 => ?_) (fun c_70 => ?_)
    · have z_70 : n ≤ k := ((nI_leI (a := n) (b := k) (by omega) (by omega)).mp c_70)
      obtain rfl : k = n := by omega
      refine Vw.lconst (v := 0) (de_lconst_0 (B 300 _ rfl)) rfl (n := 301) rfl ?_
      refine Vw.lstore (lv2 := [(0, _), (1, _), (2, _), (3, _), (4, _)]) (de_lstore (B 301 _ rfl) (B 302 _ rfl)) (by decide) [1, 2, 3, 4, 0] rfl (n := 303) rfl ?_
      refine Vw.iconst (v := 0) (de_iconst_0 (B 303 _ rfl)) rfl (n := 304) rfl ?_
      refine Vw.istore (lv2 := [(0, _), (1, _), (2, _), (3, _), (4, _), (6, _)]) (de_istore (B 304 _ rfl) (B 305 _ rfl)) (by decide) [1, 2, 3, 4, 5, 0] rfl (n := 306) rfl ?_
      exact sumL q _ fin 0 (Nat.zero_le _) J M fJ fM dM
    have z_70 : k < n := by rcases Nat.lt_or_ge k n with z | z; exact z; exact absurd ((nI_leI (a := n) (b := k) (by omega) (by omega)).mpr z) c_70
    refine Vw.aload_n (de_aload_0 (B 73 _ rfl)) 0 rfl (n := 74) rfl ?_
    refine Vw.getI (de_getfield (B 74 _ rfl) (B 75 _ rfl) (B 76 _ rfl)) fl_X12_324 rfl hM.k (n := 77) rfl ?_
    rw [(PPe pJ).2.2.1]
    refine Vw.istore (lv2 := [(0, _), (1, _), (2, _), (3, _), (4, _), (5, _)]) (de_istore (B 77 _ rfl) (B 78 _ rfl)) (by decide) [1, 2, 3, 4, 5, 0] rfl (n := 79) rfl ?_
    refine Vw.iconst (v := 0) (de_iconst_0 (B 79 _ rfl)) rfl (n := 80) rfl ?_
    refine Vw.istore (lv2 := [(0, _), (1, _), (2, _), (3, _), (4, _), (5, _), (6, _)]) (de_istore (B 80 _ rfl) (B 81 _ rfl)) (by decide) [1, 2, 3, 4, 5, 6, 0] rfl (n := 82) rfl ?_
    exact zer2 q n k hq hn z_70 (ih z_70) 0 (Nat.zero_le _) J M fJ pJ fM dM (fun v hv => absurd hv (Nat.not_lt_zero _))
  have zer1 : ∀ q n w0, q < np → n ≤ 12 → w0 ≤ 200 → I (r + 2) (4 * q + 2) = nI w0 → (∀ J M, Fr r I J → Lo r L M → Q (oddS (oddD W (I (r + 2)) q n) x 201) S J M) → ∀ w, w ≤ 201 → ∀ J M, Fr r I J → PP J r = perP (I (r + 2)) q → Lo r L M → (∀ v, v < w → M (r + 16) v = 0) → Vw mX12_odds (d + 45) 0 0 0 0 (VlQ Q) 30 [(0, .ref r), (1, .int (nI q)), (2, .int x), (3, .int (nI n)), (4, .int (nI w))] [] S J M := by
    intro q n w0 hq hn hw0 ew0 fin
    refine loop_up (fun w hw2 ih => ?_)
    intro J M fJ pJ fM dM
    refine Vw.iload (de_iload (B 30 _ rfl) (B 31 _ rfl)) 4 rfl (n := 32) rfl ?_
    refine Vw.sipush (v := 200) (de_sipush (B 32 _ rfl) (B 33 _ rfl) (B 34 _ rfl)) rfl (n := 35) rfl ?_
    refine Vw.icmp_gt (tgt := 52) (n := 38) (de_icmp_gt (B 35 _ rfl) (B 36 _ rfl) (B 37 _ rfl)) rfl rfl (fun c_35 => ?_) (fun c_35 => ?_)
    · have z_35 : w = 201 := by rcases Nat.lt_or_ge w 201 with z | z; exact absurd ((nI_leI (a := w) (b := 200) (by omega) (by omega)).mpr (by omega)) (Int32.not_le.mpr c_35); omega
      subst z_35
      refine Vw.aload_n (de_aload_0 (B 52 _ rfl)) 0 rfl (n := 53) rfl ?_
      refine Vw.getR (de_getfield (B 53 _ rfl) (B 54 _ rfl) (B 55 _ rfl)) fl_X12_71 rfl hM.k (MS_now0 hM).1 (n := 56) rfl ?_
      refine Vw.aload_n (de_aload_0 (B 56 _ rfl)) 0 rfl (n := 57) rfl ?_
      refine Vw.getI (de_getfield (B 57 _ rfl) (B 58 _ rfl) (B 59 _ rfl)) fl_X12_324 rfl hM.k (n := 60) rfl ?_
      rw [show J r 28 = nI w0 from (PPe pJ).2.2.1.trans ew0]
      refine Vw.ldc2 (de_ldc2_w (B 60 _ rfl) (B 61 _ rfl) (B 62 _ rfl)) kc_X12_406 (n := 63) rfl ?_
      refine Vw.last (de_lastore (B 63 _ rfl)) (MS_now0 hM).2 (vIx_n (k := w0) (by simp only [nI_A, nI_M, Int32.zero_add, Int32.add_zero] <;> rfl) (by omega)) (n := 64) rfl ?_
      refine Vw.iconst (v := 0) (de_iconst_0 (B 64 _ rfl)) rfl (n := 65) rfl ?_
      refine Vw.istore (lv2 := [(0, _), (1, _), (2, _), (3, _), (4, _)]) (de_istore (B 65 _ rfl) (B 66 _ rfl)) (by decide) [1, 2, 3, 4, 0] rfl (n := 67) rfl ?_
      refine main q n hq hn fin 0 (Nat.zero_le _) J _ fJ pJ (fun a k h1 h2 => by rw [up2_a (by omega)]; exact fM a k h1 h2) (fun v hv => ?_)
      rw [oddD]
      simp only
      rw [ew0]
      by_cases e : v = w0
      · rw [e, up2_s, if_pos rfl]
      · rw [up2_k e, if_neg (fun z => e (nI_inj (by omega) (by omega) z))]; exact dM v (by omega)
    have z_35 : w < 201 := by rcases Nat.lt_or_ge w 201 with z | z; exact z; exact absurd (Int32.not_le.mp (fun q => absurd ((nI_leI (a := w) (b := 200) (by omega) (by omega)).mp q) (by omega))) c_35
    refine Vw.aload_n (de_aload_0 (B 38 _ rfl)) 0 rfl (n := 39) rfl ?_
    refine Vw.getR (de_getfield (B 39 _ rfl) (B 40 _ rfl) (B 41 _ rfl)) fl_X12_71 rfl hM.k (MS_now0 hM).1 (n := 42) rfl ?_
    refine Vw.iload (de_iload (B 42 _ rfl) (B 43 _ rfl)) 4 rfl (n := 44) rfl ?_
    refine Vw.lconst (v := 0) (de_lconst_0 (B 44 _ rfl)) rfl (n := 45) rfl ?_
    refine Vw.last (de_lastore (B 45 _ rfl)) (MS_now0 hM).2 (vIx_n (k := w) (by simp only [nI_A, nI_M, Int32.zero_add, Int32.add_zero] <;> rfl) (by omega)) (n := 46) rfl ?_
    refine Vw.iinc (v := nI (w + 1)) (lv2 := [(0, _), (1, _), (2, _), (3, _), (4, _)]) (de_iinc (B 46 _ rfl) (B 47 _ rfl) (B 48 _ rfl)) 4 rfl (nI_1 w) (by decide) [1, 2, 3, 4, 0] rfl (n := 49) rfl ?_
    refine Vw.goto_ (n := 30) (de_goto_ (B 49 _ rfl) (B 50 _ rfl) (B 51 _ rfl)) rfl ?_
    refine ih z_35 J _ fJ pJ (fun a k h1 h2 => by rw [up2_a (by omega)]; exact fM a k h1 h2) (fun v hv => ?_)
    by_cases e : v = w
    · rw [e, up2_s]
    · rw [up2_k e]; exact dM v (by omega)
  refine Vw.aload_n (de_aload_0 (B 0 _ rfl)) 0 rfl (n := 1) rfl ?_
  refine Vw.iload_n (de_iload_1 (B 1 _ rfl)) 1 rfl (n := 2) rfl ?_
  refine Vw.ivi1 (mi' := mX12_isPerson) (de_invokevirtual (B 2 _ rfl) (B 3 _ rfl) (B 4 _ rfl)) ml_X12_132 mv_X12_isPerson hM.k (Nat.le_of_ble_eq_true rfl) (n := 5) rfl (c_X12_isPerson hM ?_)
  rw [e142]
  refine Vw.if_eq (tgt := 18) (n := 8) (de_if_eq (B 5 _ rfl) (B 6 _ rfl) (B 7 _ rfl)) rfl rfl (fun c_5 => ?_) (fun c_5 => ?_)
  · refine Vw.ldc2 (de_ldc2_w (B 18 _ rfl) (B 19 _ rfl) (B 20 _ rfl)) kc_X12_303 (n := 21) rfl ?_
    exact Vw.lret (de_lreturn (B 21 _ rfl)) rfl ⟨_, rfl, (qvl (by unfold oddP; rw [if_pos (by first | exact Or.inl c_5 | exact Or.inr c_15)]) (h I L Fr.rfl (fun _ _ _ _ => rfl)))⟩
  refine Vw.iload_n (de_iload_3 (B 8 _ rfl)) 3 rfl (n := 9) rfl ?_
  refine Vw.iconst (v := 0) (de_iconst_0 (B 9 _ rfl)) rfl (n := 10) rfl ?_
  refine Vw.bipush (v := 12) (de_bipush (B 10 _ rfl) (B 11 _ rfl)) rfl (n := 12) rfl ?_
  refine Vw.isi3 (mi' := mX12_lies) (de_invokestatic (B 12 _ rfl) (B 13 _ rfl) (B 14 _ rfl)) ml_X12_111 ms_X12_lies (Nat.le_of_ble_eq_true rfl) (n := 15) rfl (c_X12_lies ?_)
  refine Vw.if_ne (tgt := 22) (n := 18) (de_if_ne (B 15 _ rfl) (B 16 _ rfl) (B 17 _ rfl)) rfl rfl (fun c_15 => ?_) (fun c_15 => ?_)
  · obtain ⟨q, hq, eq⟩ := lie_ex (by omega) c_5
    subst eq
    obtain ⟨n, hn, en⟩ := lie_n (N := 12) (by decide) c_15
    subst en
    obtain ⟨w0, hw0, ew0⟩ := hw q hq
    refine Vw.aload_n (de_aload_0 (B 22 _ rfl)) 0 rfl (n := 23) rfl ?_
    refine Vw.iload_n (de_iload_1 (B 23 _ rfl)) 1 rfl (n := 24) rfl ?_
    refine Vw.ivv1 (mi' := mX12_takes) (de_invokevirtual (B 24 _ rfl) (B 25 _ rfl) (B 26 _ rfl)) ml_X12_140 mv_X12_takes hM.k (Nat.le_of_ble_eq_true rfl) (n := 27) rfl (c_X12_takes hM (by omega) (fun I2 f2 e2 => ?_))
    refine Vw.iconst (v := 0) (de_iconst_0 (B 27 _ rfl)) rfl (n := 28) rfl ?_
    refine Vw.istore (lv2 := [(0, _), (1, _), (2, _), (3, _), (4, _)]) (de_istore (B 28 _ rfl) (B 29 _ rfl)) (by decide) [1, 2, 3, 4, 0] rfl (n := 30) rfl ?_
    exact zer1 q n w0 hq hn hw0 ew0 (fun J M fJ fM => qvl (by unfold oddP; rw [if_neg (fun z => z.elim c_5 c_15), nI_cl (by omega), nI_cl (by omega)]) (h J M fJ fM)) 0 (Nat.zero_le _) I2 L f2 e2 (fun _ _ _ _ => rfl) (fun v hv => absurd hv (Nat.not_lt_zero _))
  refine Vw.ldc2 (de_ldc2_w (B 18 _ rfl) (B 19 _ rfl) (B 20 _ rfl)) kc_X12_303 (n := 21) rfl ?_
  exact Vw.lret (de_lreturn (B 21 _ rfl)) rfl ⟨_, rfl, (qvl (by unfold oddP; rw [if_pos (by first | exact Or.inl c_5 | exact Or.inr c_15)]) (h I L Fr.rfl (fun _ _ _ _ => rfl)))⟩
