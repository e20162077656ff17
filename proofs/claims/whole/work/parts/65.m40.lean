/-! cutting(): pure -/
def oSz (K : Nat → Int32) (q k : Nat) : Int32 := K (4 * q + 1) + nI (k / 4)
def oWd (K : Nat → Int32) (q k : Nat) : Int32 := K (4 * q + 2) + nI (k % 4)
def oCl (W : tW) (K : Nat → Int32) (t : Int32) (q k : Nat) : Int32 := if barP W (nI q) t (oSz K q k) (oWd K q k) (K 121) (perP K q) = 0 then clothP W (nI q) t (oSz K q k) (oWd K q k) (K 121) (perP K q) else 1000000
def oDue (W : tW) (K : Nat → Int32) (n q k : Nat) : Int32 := dueP (walkP W (nI q) (K 121) (perP K q)) (oSz K q k) (oWd K q k) n 1
def oPay (W : tW) (K : Nat → Int32) (t : Int32) (n q k : Nat) : Int32 := if oDue W K n q k = -1 then 0 else payP W (nI q) t (oSz K q k) (oWd K q k) (K 121 + oDue W K n q k) (walkP W (nI q) (K 121) (perP K q) (oDue W K n q k).toNatClampNeg)
def bestO (cs : Nat → Int32) (py : Nat → Int32) (nx : Nat → Int32) (c : Nat) : Nat → Int32
  | 0 => nx c
  | k + 1 => if cs k ≤ nI c then zMax (bestO cs py nx c k) (py k + nx (c - (cs k).toNatClampNeg)) else bestO cs py nx c k
def mostR (cs py : Nat → Nat → Int32) (np : Nat) : Nat → Nat → Int32
  | 0 => fun _ => 0
  | m + 1 => fun c => bestO (cs (np - (m + 1))) (py (np - (m + 1))) (mostR cs py np m) c 16
def optF (cs py nx : Nat → Int32) (v : Int32) (c : Nat) : Nat → Nat → Int32
  | 0, _ => 100
  | f + 1, k => if cs k ≤ nI c ∧ py k + nx (c - (cs k).toNatClampNeg) = v then nI k else optF cs py nx v c f (k + 1)
def optP (cs py : Nat → Nat → Int32) (np q c : Nat) : Int32 := optF (cs q) (py q) (mostR cs py np (np - (q + 1))) (mostR cs py np (np - q) c) c 16 0
def cutH (cs py : Nat → Nat → Int32) (np cl : Nat) : Nat → Nat
  | 0 => cl
  | q + 1 => if optP cs py np q (cutH cs py np cl q) = 100 then cutH cs py np cl q else cutH cs py np cl q - (cs q (optP cs py np q (cutH cs py np cl q)).toNatClampNeg).toNatClampNeg
def cutP (W : tW) (K : Nat → Int32) (np : Nat) (t n x : Int32) : Int32 := if zLie t 0 3 = 0 ∨ zLie n 1 40 = 0 ∨ zLie x 0 (1 + nI np) = 0 then -1
  else if x = 0 then mostR (oCl W K t) (oPay W K t n.toNatClampNeg) np np (K (113 + 2 * t.toNatClampNeg)).toNatClampNeg
  else if x = 1 then K (113 + 2 * t.toNatClampNeg) - nI (cutH (oCl W K t) (oPay W K t n.toNatClampNeg) np (K (113 + 2 * t.toNatClampNeg)).toNatClampNeg np)
  else optP (oCl W K t) (oPay W K t n.toNatClampNeg) np (x.toNatClampNeg - 2) (cutH (oCl W K t) (oPay W K t n.toNatClampNeg) np (K (113 + 2 * t.toNatClampNeg)).toNatClampNeg (x.toNatClampNeg - 2))
/-- costs are natural numbers -/
def CN (cs : Nat → Nat → Int32) (np : Nat) : Prop := ∀ q k, q < np → k < 16 → ∃ c, c ≤ 1000000 ∧ cs q k = nI c
theorem oCl_n {W : tW} {K : Nat → Int32} {t : Int32} {np : Nat} (h : ∀ q, q < np → PBt (perP K q)) : CN (oCl W K t) np := by
  intro q k hq hk
  obtain ⟨b0, b1, b2, b3⟩ := h q hq
  change 20 ≤ (K (4 * q + 1)).toInt ∧ (K (4 * q + 1)).toInt ≤ 250 at b1
  change 5 ≤ (K (4 * q + 2)).toInt ∧ (K (4 * q + 2)).toInt ≤ 200 at b2
  have e1 : (oSz K q k).toInt = (K (4 * q + 1)).toInt + (k / 4 : Nat) := by
    unfold oSz; rw [i32_add (by rw [nI_ti (by omega)]; omega) (by rw [nI_ti (by omega)]; omega), nI_ti (by omega)]
  have e2 : (oWd K q k).toInt = (K (4 * q + 2)).toInt + (k % 4 : Nat) := by
    unfold oWd; rw [i32_add (by rw [nI_ti (by omega)]; omega) (by rw [nI_ti (by omega)]; omega), nI_ti (by omega)]
  have b := area_b (s := oSz K q k) (w := oWd K q k) (A := 253) (B := 203) (by rw [e1]; omega) (by rw [e2]; omega) (by decide) (by decide)
  unfold oCl
  split
  · have g := tells_c (law := W.1) (hd := 3) (nv := nvA (nI q) (perP K q).1 (perP K q).2.2.2 (oSz K q k) (oWd K q k) t (K 121) W.2) b.1 (by omega)
    obtain ⟨c, h1, h2⟩ := nI_ex (x := clothP W (nI q) t (oSz K q k) (oWd K q k) (K 121) (perP K q)) (n := 2000) g.1 (by unfold clothP; omega)
    exact ⟨c, by omega, h2⟩
  · exact ⟨1000000, by decide, rfl⟩
theorem optF_c {cs py nx : Nat → Int32} {v : Int32} {c : Nat} : ∀ {f k : Nat}, k + f = 16 → optF cs py nx v c f k = 100 ∨ ∃ j, j < 16 ∧ optF cs py nx v c f k = nI j ∧ cs j ≤ nI c
  | 0, _, _ => Or.inl rfl
  | f + 1, k, h => by
    rw [optF]
    split
    · rename_i g; exact Or.inr ⟨k, by omega, rfl, g.1⟩
    · exact optF_c (by omega)
theorem cutH_le {cs py : Nat → Nat → Int32} {np cl : Nat} : ∀ {q : Nat}, cutH cs py np cl q ≤ cl
  | 0 => Nat.le_refl _
  | q + 1 => by
    rw [cutH]
    have := cutH_le (cs := cs) (py := py) (np := np) (cl := cl) (q := q)
    split <;> omega
def Fc (r : Nat) (I I2 : vI) : Prop := ∀ a k, ¬ (a = r ∧ 20 ≤ k ∧ k ≤ 29) → a ≠ r + 12 → ¬ (r + 18 ≤ a ∧ a ≤ r + 20) → I2 a k = I a k
theorem Fc.rfl {r : Nat} {I : vI} : Fc r I I := fun _ _ _ _ _ => Eq.refl _
theorem Fc.trans {r : Nat} {I I2 I3 : vI} (h : Fc r I I2) (g : Fc r I2 I3) : Fc r I I3 := fun a k h1 h2 h3 => (g a k h1 h2 h3).trans (h a k h1 h2 h3)
theorem Fr.fc {r : Nat} {I I2 : vI} (h : Fr r I I2) : Fc r I I2 := fun a k h1 h2 _ => h a k h1 h2
theorem Fc.k {r : Nat} {I I2 : vI} (h : Fc r I I2) : I2 (r + 2) = I (r + 2) := funext fun k => h _ _ (by omega) (by omega) (by omega)
theorem Fc.u {r a k : Nat} {v : Int32} {I J : vI} (h : Fc r I J) (ha : r + 18 ≤ a ∧ a ≤ r + 20) : Fc r I (up2 J a k v) := fun b j h1 h2 h3 => by rw [up2_a (by omega)]; exact h b j h1 h2 h3
theorem nI_ms {P p c n : Nat} (h : n ≤ c) (hc : 1000 * P + c < 2000000000) (hP : nI P = nI p + 1) : (1000 : Int32) * (nI p + 1) + nI c - nI n = nI (1000 * P + (c - n)) := by
  rw [← hP, show (1000 : Int32) = nI 1000 from rfl, ← nI_M, ← nI_A, nI_sub (by omega) (by omega)]
  congr 1; omega
