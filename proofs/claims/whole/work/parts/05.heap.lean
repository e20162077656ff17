/-! Fields, arrays, new cells, calls: the judgement's rows that read or change the memory -/
def up2 {α : Type} (f : Nat → Nat → α) (a k : Nat) (v : α) : Nat → Nat → α := fun b j => if b = a ∧ j = k then v else f b j
theorem up2_s {α : Type} (f : Nat → Nat → α) (a k : Nat) (v : α) : up2 f a k v a k = v := by simp [up2]
theorem up2_n {α : Type} {f : Nat → Nat → α} {a k b j : Nat} {v : α} (h : ¬ (b = a ∧ j = k)) : up2 f a k v b j = f b j := if_neg h
/-- a cell's row of places, all given -/
def upR {α : Type} (f : Nat → Nat → α) (a : Nat) (g : Nat → α) : Nat → Nat → α := fun b => if b = a then g else f b
def vFL (own : String) (idx c k : Nat) : Prop := c < 13 ∧ k < vN c ∧ Cond.fieldLink own idx (vT c k).1 (vT c k).2.1 (vT c k).2.2.1 ∈ vTs
theorem vMem_i {S : vS} {I : vI} {L : vL} {a k c : Nat} (hs : (S.1 a).1 = c) (ht : vTk c k = 0) : vMem S I L a k = .int (I a k) := by simp [vMem, hs, ht]
theorem vMem_l {S : vS} {I : vI} {L : vL} {a k c : Nat} (hs : (S.1 a).1 = c) (ht : vTk c k = 1) : vMem S I L a k = .long (L a k) := by simp [vMem, hs, ht]
theorem vMem_r {S : vS} {I : vI} {L : vL} {a k c : Nat} (hs : (S.1 a).1 = c) (ht : vTk c k = 2) : vMem S I L a k = va_rf (S.2.1 a k) := by simp [vMem, hs, ht]
theorem Hx.obj {G : vG} {S : vS} {I : vI} {L : vL} {H : Heap} {a c : Nat} (h : Hx G S I L H) (hs : (S.1 a).1 = c) (hc : c < 13) : t_OB a (gC G c) (vN c) (gI G c) H (vMem S I L a) := by
  have h1 := (h.2.2.1 a (by omega)).2.2
  unfold vCel at h1
  rw [hs, if_pos hc] at h1
  exact h1
theorem Hx.arr {G : vG} {S : vS} {I : vI} {L : vL} {H : Heap} {a c len : Nat} (h : Hx G S I L H) (hs : S.1 a = (c, len)) (hc : ¬ c < 13) (hc2 : c < 200) : H[a]? = some (arrV (gA G c) len (vMem S I L a)) := by
  have h1 := (h.2.2.1 a (by rw [hs]; exact hc2)).2.2
  unfold vCel at h1
  rw [hs, if_neg hc] at h1
  exact h1
/-- one place of one cell gets another value -/
theorem Hx.put {G : vG} {S S2 : vS} {I I2 : vI} {L L2 : vL} {H H2 : Heap} {a k : Nat} {v : Value} (h : Hx G S I L H) (ha : gB G ≤ a) (h1 : S2.1 = S.1) (h2 : S2.2.2 = S.2.2)
    (hm : ∀ b j, vMem S2 I2 L2 b j = if b = a ∧ j = k then v else vMem S I L b j) (hz : H2.size = H.size) (ho : ∀ q, q ≠ a → H2[q]? = H[q]?)
    (hc : (S.1 a).1 < 200 → vCel G S2 I2 L2 a H2) : Hx G S2 I2 L2 H2 := by
  refine ⟨by rw [hz, h2]; exact h.1, by rw [h2]; exact h.2.1, fun b hb => ?_, fun q hq => by rw [ho q (by omega)]; exact h.2.2.2.1 q hq, fun b => ?_⟩
  rotate_left
  · have o := h.2.2.2.2 b
    refine ⟨fun i hl hi => ?_, fun i hl hi => ?_, fun hi => ?_⟩
    · rw [h1] at hi; exact o.1 i hl hi
    · rw [h1] at hi; exact o.2.1 i hl hi
    · rw [h1] at hi ⊢
      obtain ⟨o1, o2, o3, o4⟩ := o.2.2 hi
      exact ⟨o1, o2, o3, fun k => by rw [hm, if_neg (fun q => by omega)]; exact o4 k⟩
  rw [h1] at hb
  obtain ⟨g1, g2, g3⟩ := h.2.2.1 b hb
  refine ⟨g1, by rw [h2]; exact g2, ?_⟩
  by_cases e : b = a
  · subst e; exact hc hb
  · have e2 : vMem S2 I2 L2 b = vMem S I L b := funext fun j => by rw [hm, if_neg (fun q => e q.1)]
    unfold vCel at g3 ⊢
    rw [h1, e2]
    split
    · rename_i q; rw [if_pos q] at g3; exact t_OB.kept g3 (ho b e)
    · rename_i q; rw [if_neg q] at g3; rw [ho b e]; exact g3
theorem vMem_up {S : vS} {I : vI} {L : vL} {a k c : Nat} {x : Int32} (hs : (S.1 a).1 = c) (ht : vTk c k = 0) : ∀ b j, vMem S (up2 I a k x) L b j = if b = a ∧ j = k then .int x else vMem S I L b j := by
  intro b j
  by_cases e : b = a ∧ j = k
  · rw [if_pos e, e.1, e.2, vMem_i hs ht, up2_s]
  · rw [if_neg e]; unfold vMem; rw [up2_n e]
theorem vMem_upL {S : vS} {I : vI} {L : vL} {a k c : Nat} {x : Int64} (hs : (S.1 a).1 = c) (ht : vTk c k = 1) : ∀ b j, vMem S I (up2 L a k x) b j = if b = a ∧ j = k then .long x else vMem S I L b j := by
  intro b j
  by_cases e : b = a ∧ j = k
  · rw [if_pos e, e.1, e.2, vMem_l hs ht, up2_s]
  · rw [if_neg e]; unfold vMem; rw [up2_n e]
abbrev sUp (S : vS) (a k : Nat) (x : Option Nat) : vS := (S.1, up2 S.2.1 a k x, S.2.2)
theorem vMem_upR {S : vS} {I : vI} {L : vL} {a k c : Nat} {x : Option Nat} (hs : (S.1 a).1 = c) (ht : vTk c k = 2) : ∀ b j, vMem (sUp S a k x) I L b j = if b = a ∧ j = k then va_rf x else vMem S I L b j := by
  intro b j
  by_cases e : b = a ∧ j = k
  · rw [if_pos e, e.1, e.2, vMem_r (S := sUp S a k x) hs ht]; simp [sUp, up2]
  · rw [if_neg e]; unfold vMem; simp only [sUp, up2_n e]
section HEAP
variable {mi mi' : vM} {d mc ms cr sr : Nat} {Q : Option Value → vS → vI → vL → Prop} {pc n : Nat} {lv lv2 : List (Nat × Value)} {st : List Value} {S S2 : vS} {I I2 : vI} {L L2 : vL} {a c k idx len : Nat}
theorem Vw.getv (hd : decode mi.2.1 pc = .ok (.getfield idx, 3)) (hf : vFL mi.1.cls idx c k) (hs : (S.1 a).1 = c) {v : Value} (hv : vMem S I L a k = v) (hn : pc + 3 = n) (kk : Vw mi d mc ms cr sr Q n lv (v :: st) S I L) : Vw mi d mc ms cr sr Q pc lv (.ref a :: st) S I L := by
  subst hn
  intro l G p e R s m args below meth cd H locs cells slots ls hC hH hS h1 h2 hl
  obtain ⟨f1, f2, f3⟩ := hf
  have hob := hH.obj hs f1
  have hP : va_P (gC G, gI G) vwCl [(a, .inr (c, (List.range (vN c)).map (vMem S I L a)))] H := by
    intro j q hq
    have hj : j < 1 := (List.getElem?_eq_some_iff.mp hq).1
    rw [show j = 0 by omega] at hq
    cases hq
    exact ⟨_, vCl_at f1, hob.to (fun i hi => by simp [vp_V, hi])⟩
  refine va_get (D := (gC G, gI G)) (ci := c) (v := v) (C := vR c) (T := vT c) (N := vN c) hC.1 hC.2.1 hC.2.2.2.2.2.2.1 (vIn f1) hC.2.2.2.2.2.1 hC.2.2.2.2.2.2.2.2.1.1 hP 0 rfl (vCl_at f1) k f2 (hC.2.2.2.2.2.2.1 _ f3) (fun _ h9 => h9) ?_ hd (kk l G p e R s m args below meth cd H locs cells slots ls hC hH hS h1 h2 hl)
  simp [f2, hv]
theorem Vw.getI (hd : decode mi.2.1 pc = .ok (.getfield idx, 3)) (hf : vFL mi.1.cls idx c k) (ht : vTk c k = 0) (hs : (S.1 a).1 = c) (hn : pc + 3 = n) (kk : Vw mi d mc ms cr sr Q n lv (.int (I a k) :: st) S I L) : Vw mi d mc ms cr sr Q pc lv (.ref a :: st) S I L := Vw.getv hd hf hs (vMem_i hs ht) hn kk
theorem Vw.getL (hd : decode mi.2.1 pc = .ok (.getfield idx, 3)) (hf : vFL mi.1.cls idx c k) (ht : vTk c k = 1) (hs : (S.1 a).1 = c) (hn : pc + 3 = n) (kk : Vw mi d mc ms cr sr Q n lv (.long (L a k) :: st) S I L) : Vw mi d mc ms cr sr Q pc lv (.ref a :: st) S I L := Vw.getv hd hf hs (vMem_l hs ht) hn kk
theorem Vw.getR (hd : decode mi.2.1 pc = .ok (.getfield idx, 3)) (hf : vFL mi.1.cls idx c k) (ht : vTk c k = 2) (hs : (S.1 a).1 = c) {b : Nat} (hr : S.2.1 a k = some b) (hn : pc + 3 = n) (kk : Vw mi d mc ms cr sr Q n lv (.ref b :: st) S I L) : Vw mi d mc ms cr sr Q pc lv (.ref a :: st) S I L := Vw.getv hd hf hs ((vMem_r hs ht).trans (by rw [hr]; rfl)) hn kk
theorem Vw.putv (hd : decode mi.2.1 pc = .ok (.putfield idx, 3)) (hf : vFL mi.1.cls idx c k) (hs : (S.1 a).1 = c) (hfin : (vT c k).2.2.2 = false ∨ ((vT c k).2.2.2 = true ∧ mi.1.name = "<init>" ∧ (vT c k).1 = mi.1.cls)) {v : Value} (hnw : narrow (vTy c k) v = v) (hft : fits (vTy c k) v = true)
    (e1 : S2.1 = S.1) (e2 : S2.2.2 = S.2.2) (hm : ∀ b j, vMem S2 I2 L2 b j = if b = a ∧ j = k then v else vMem S I L b j) (hn : pc + 3 = n) (kk : Vw mi d mc ms cr sr Q n lv st S2 I2 L2) : Vw mi d mc ms cr sr Q pc lv (v :: .ref a :: st) S I L := by
  subst hn
  intro l G p e R s m args below meth cd H locs cells slots ls hC hH hS h1 h2 hl
  obtain ⟨f1, f2, f3⟩ := hf
  have hx := hC.1
  have hb := hC.2.1
  have hown := hC.2.2.2.2.2.1
  have hts := hC.2.2.2.2.2.2.1
  have hK := hC.2.2.2.2.2.2.2.2.1.1
  have hob := hH.obj hs f1
  have hba : gB G ≤ a := (hH.2.2.1 a (by omega)).1
  have hc := vCl_at f1
  have hap := va_apart (own := mi.1.cls) hts (vIn f1) (vTy c) (vTy_ok f1) (vNm_ok f1) hK hc
  obtain ⟨cell, q1, q2, q3, q4⟩ := hob
  obtain ⟨hSl, hfc, kC, hkC, hkind⟩ := hK.1 c _ hc
  obtain ⟨cf, kf, fi, f, hi, hsl⟩ := hSl k f2
  have hst := (u_facts hfc hkC (u_lays hts (vIn f1) f2) hi).1
  have fin : ∀ H' : Heap, H'[a]? = some (cell.setSlot f.slot v) → H'.size = H.size → (∀ q, q ≠ a → H'[q]? = H[q]?) → Hx G S2 I2 L2 H' := by
    intro H' g1 g2 g3
    refine hH.put hba e1 e2 hm g2 g3 (fun _ => ?_)
    unfold vCel
    rw [e1, hs, if_pos f1]
    rw [hsl] at g1
    refine t_OB.to (V := updV (vMem S I L a) k v) ⟨_, g1, q2, q3, t_set q4 hap f2 v⟩ (fun j _ => ?_)
    rw [hm a j]
    by_cases hj : j = k
    · subst hj; simp [updV]
    · simp [updV, hj]
  rcases hfin with hfin | ⟨hfin, hin, hdecl⟩
  · have hlay := hts _ (vIn f1 _ (u_in_lay f2))
    unfold u_lay at hlay
    rw [if_neg (by rw [hfin]; decide)] at hlay
    have h6 := u_store hfc hkC hkind hlay hi (vTy_ok f1 k f2) hnw hft
    refine W.putK hx hb (f := f) ⟨hown, hts _ f3, ⟨_, _, _, hi⟩, hst⟩ (by rw [q2]; exact h6) q1 q3 (by rw [hsl]; exact k2_hasslot (q4 k f2)) rfl rfl hd fun H' g1 g2 g3 => ?_
    exact kk l G p e R s m args below meth cd H' _ cells slots ls hC (fin H' g1 g2 g3) (hS.put g2 g3 hba) h1 h2 hl
  · have hlay := hts _ (vIn f1 _ (u_in_lay f2))
    unfold u_lay at hlay
    rw [if_pos hfin] at hlay
    have hcf : m.cls = cf := by
      obtain ⟨_, _, c', _, _, _, -, -, hf', -, -, -, hown2, -⟩ := Cond.laysFinal_spec hlay
      have e1 : c' = cf := by have := hi.symm.trans hf'; simp at this; exact this.1.symm
      rw [hdecl] at hown2
      rw [← e1]; exact Option.some.inj (hown.symm.trans hown2)
    have h6 := u_fits hfc hkC hkind (Or.inr hlay) hi (vTy_ok f1 k f2) hnw hft
    refine W.putFinK hx hb hown (hts _ f3) hi hst hcf (hC.2.2.2.2.2.2.2.1.trans hin) (by rw [q2]; exact h6) q1 q3 (by rw [hsl]; exact k2_hasslot (q4 k f2)) rfl rfl hd fun H' g1 g2 g3 => ?_
    exact kk l G p e R s m args below meth cd H' _ cells slots ls hC (fin H' g1 g2 g3) (hS.put g2 g3 hba) h1 h2 hl
end HEAP
/-- an index: not below 0, its place, within -/
def vIx (i : Int32) (j len : Nat) : Prop := i.toNatClampNeg = j ∧ j < len ∧ ¬ i < 0
theorem vIx.vin {i : Int32} {j len : Nat} (h : vIx i j len) : vp_in i len := fun q => q.elim h.2.2 (fun q => by have := h.1; have := h.2.1; omega)
theorem vIx_nI {j len : Nat} (h : j < len) (hl : len < 2 ^ 31) : vIx (nI j) j len := ⟨nI_clamp (by omega), h, nI_pos (by omega)⟩
def sNew (S : vS) (kd len : Nat) : vS := (fun a => if a = S.2.2 then (kd, len) else S.1 a, fun a => if a = S.2.2 then (fun _ => none) else S.2.1 a, S.2.2 + 1)
def zNew (I : vI) (h : Nat) : vI := fun a => if a = h then (fun _ => 0) else I a
def zNl (L : vL) (h : Nat) : vL := fun a => if a = h then (fun _ => 0) else L a
def vOkT (t : FieldType) : Bool := match t with
  | .int => true | .boolean => true | .byte => true | .long => true | .object _ => true | .array _ => true | _ => false
theorem vOkT_all : ∀ c, c < 13 → ∀ k, k < vN c → vOkT (vTy c k) = true := by decide +kernel
theorem vDef {t : FieldType} (h : vOkT t = true) : defaultValue t = (match vTc t with | 0 => .int 0 | 1 => .long 0 | _ => Value.null) := by
  cases t <;> first | rfl | cases h
theorem Hx.born {G : vG} {S : vS} {I : vI} {L : vL} {H H2 : Heap} {kd len : Nat} (h : Hx G S I L H) (hz : H2.size = S.2.2 + 1) (ho : ∀ q, q < S.2.2 → H2[q]? = H[q]?) (hk : kd < 200)
    (hc : vCel G (sNew S kd len) (zNew I S.2.2) (zNl L S.2.2) S.2.2 H2) : Hx G (sNew S kd len) (zNew I S.2.2) (zNl L S.2.2) H2 := by
  refine ⟨hz, Nat.le_succ_of_le h.2.1, fun b hb => ?_, fun q hq => by rw [ho q (by have := h.2.1; omega)]; exact h.2.2.2.1 q hq, fun b => ?_⟩
  rotate_left
  · have o := h.2.2.2.2 b
    by_cases e : b = S.2.2
    · have e1 : ((sNew S kd len).1 b).1 = kd := by simp [sNew, e]
      exact ⟨fun i hl hi => by rw [e1] at hi; omega, fun i hl hi => by have h2 := hi.1; rw [e1] at h2; omega, fun hi => by rw [e1] at hi; omega⟩
    · have e1 : (sNew S kd len).1 b = S.1 b := by simp [sNew, e]
      have e2 : ∀ j, vMem (sNew S kd len) (zNew I S.2.2) (zNl L S.2.2) b j = vMem S I L b j := fun j => by simp [vMem, e1, zNew, zNl, sNew, e]
      refine ⟨fun i hl hi => ?_, fun i hl hi => ?_, fun hi => ?_⟩
      · rw [e1] at hi; exact o.1 i hl hi
      · rw [e1] at hi; exact o.2.1 i hl hi
      · rw [e1] at hi ⊢
        obtain ⟨o1, o2, o3, o4⟩ := o.2.2 hi
        exact ⟨o1, o2, o3, fun k => by rw [e2]; exact o4 k⟩
  by_cases e : b = S.2.2
  · subst e
    exact ⟨h.2.1, Nat.lt_succ_self _, hc⟩
  · have e1 : (sNew S kd len).1 b = S.1 b := by simp [sNew, e]
    rw [e1] at hb
    obtain ⟨g1, g2, g3⟩ := h.2.2.1 b hb
    refine ⟨g1, Nat.lt_succ_of_lt g2, ?_⟩
    have e2 : vMem (sNew S kd len) (zNew I S.2.2) (zNl L S.2.2) b = vMem S I L b := funext fun j => by simp [vMem, e1, zNew, zNl, sNew, e]
    unfold vCel at g3 ⊢
    rw [e1, e2]
    split
    · rename_i q; rw [if_pos q] at g3; exact t_OB.kept g3 (ho b g2)
    · rename_i q; rw [if_neg q] at g3; rw [ho b g2]; exact g3
theorem vMem_born {S : vS} {I : vI} {L : vL} {kd len j : Nat} : vMem (sNew S kd len) (zNew I S.2.2) (zNl L S.2.2) S.2.2 j = (match vTk kd j with | 0 => .int 0 | 1 => .long 0 | _ => Value.null) := by
  have e1 : ((sNew S kd len).1 S.2.2).1 = kd := by simp [sNew]
  unfold vMem
  rw [e1]
  have e2 : va_rf ((sNew S kd len).2.1 S.2.2 j) = .null := by simp [sNew, va_rf]
  rw [e2]
  simp only [zNew, zNl, if_pos]
  generalize vTk kd j = z
  match z with
  | 0 => rfl
  | 1 => rfl
  | z + 2 => rfl
section HEAPB
variable {mi mi' : vM} {d mc ms cr sr : Nat} {Q : Option Value → vS → vI → vL → Prop} {pc n : Nat} {lv lv2 : List (Nat × Value)} {st : List Value} {S S2 : vS} {I I2 : vI} {L L2 : vL} {a c k idx len : Nat}
theorem Vw.putI (hd : decode mi.2.1 pc = .ok (.putfield idx, 3)) (hf : vFL mi.1.cls idx c k) (hs : (S.1 a).1 = c) (ht : vTy c k = .int) (hfin : (vT c k).2.2.2 = false) {x : Int32} (hn : pc + 3 = n) (kk : Vw mi d mc ms cr sr Q n lv st S (up2 I a k x) L) : Vw mi d mc ms cr sr Q pc lv (.int x :: .ref a :: st) S I L :=
  Vw.putv hd hf hs (Or.inl hfin) (by rw [ht]; rfl) (by rw [ht]; rfl) rfl rfl (vMem_up hs (by simp [vTk, hf.1, ht, vTc])) hn kk
theorem Vw.putZ (hd : decode mi.2.1 pc = .ok (.putfield idx, 3)) (hf : vFL mi.1.cls idx c k) (hs : (S.1 a).1 = c) (ht : vTy c k = .boolean) (hfin : (vT c k).2.2.2 = false) {x : Int32} (hx : narrow .boolean (.int x) = .int x) (hx2 : fits .boolean (.int x) = true) (hn : pc + 3 = n) (kk : Vw mi d mc ms cr sr Q n lv st S (up2 I a k x) L) : Vw mi d mc ms cr sr Q pc lv (.int x :: .ref a :: st) S I L :=
  Vw.putv hd hf hs (Or.inl hfin) (by rw [ht]; exact hx) (by rw [ht]; exact hx2) rfl rfl (vMem_up hs (by simp [vTk, hf.1, ht, vTc])) hn kk
theorem Vw.putL (hd : decode mi.2.1 pc = .ok (.putfield idx, 3)) (hf : vFL mi.1.cls idx c k) (hs : (S.1 a).1 = c) (ht : vTy c k = .long) (hfin : (vT c k).2.2.2 = false) {x : Int64} (hn : pc + 3 = n) (kk : Vw mi d mc ms cr sr Q n lv st S I (up2 L a k x)) : Vw mi d mc ms cr sr Q pc lv (.long x :: .ref a :: st) S I L :=
  Vw.putv hd hf hs (Or.inl hfin) (by rw [ht]; rfl) (by rw [ht]; rfl) rfl rfl (vMem_upL hs (by simp [vTk, hf.1, ht, vTc])) hn kk
/-- a reference: in a final field of a constructor, or one that is not final -/
theorem Vw.putR (hd : decode mi.2.1 pc = .ok (.putfield idx, 3)) (hf : vFL mi.1.cls idx c k) (hs : (S.1 a).1 = c) (ht : vTk c k = 2) (hfin : (vT c k).2.2.2 = false ∨ ((vT c k).2.2.2 = true ∧ mi.1.name = "<init>" ∧ (vT c k).1 = mi.1.cls)) {b : Nat} (hn : pc + 3 = n) (kk : Vw mi d mc ms cr sr Q n lv st (sUp S a k (some b)) I L) : Vw mi d mc ms cr sr Q pc lv (.ref b :: .ref a :: st) S I L := by
  have ht2 : vTc (vTy c k) = 2 := by simpa [vTk, hf.1] using ht
  refine Vw.putv (S2 := sUp S a k (some b)) (I2 := I) (L2 := L) (v := va_rf (some b)) hd hf hs hfin ?_ ?_ rfl rfl (vMem_upR hs ht) hn kk
  · revert ht2; cases vTy c k <;> intro h <;> first | rfl | (simp [vTc] at h)
  · revert ht2; cases vTy c k <;> intro h <;> first | rfl | (simp [vTc] at h)
theorem Vw.iald {i : Int32} {j : Nat} (hd : decode mi.2.1 pc = .ok (.iaload, 1)) (hs : S.1 a = (100, len)) (hi : vIx i j len) (hn : pc + 1 = n) (kk : Vw mi d mc ms cr sr Q n lv (.int (I a j) :: st) S I L) : Vw mi d mc ms cr sr Q pc lv (.int i :: .ref a :: st) S I L := by
  subst hn
  intro l G p e R s m args below meth cd H locs cells slots ls hC hH hS h1 h2 hl
  exact W.iald (v := .int (I a j)) hC.1 hC.2.1 (hH.arr hs (by decide) (by decide)) ((hC.2.2.2.2.2.2.2.2.1.1.2 0 _ rfl).1 len _) (fun q => by cases q) (by show ¬ (i < 0 ∨ (arrV _ _ _).slots.size ≤ _); rw [arrV_size]; exact hi.vin) (by show (arrV _ _ _).slots[_]? = _; rw [hi.1, arrV_read _ _ hi.2.1, vMem_i (c := 100) (by rw [hs]) rfl]) rfl rfl hd (kk l G p e R s m args below meth cd H locs cells slots ls hC hH hS h1 h2 hl)
theorem Vw.zald {i : Int32} {j : Nat} (hd : decode mi.2.1 pc = .ok (.baload, 1)) (hs : S.1 a = (101, len)) (hi : vIx i j len) (hn : pc + 1 = n) (kk : Vw mi d mc ms cr sr Q n lv (.int (I a j) :: st) S I L) : Vw mi d mc ms cr sr Q pc lv (.int i :: .ref a :: st) S I L := by
  subst hn
  intro l G p e R s m args below meth cd H locs cells slots ls hC hH hS h1 h2 hl
  exact W.zald (v := .int (I a j)) hC.1 hC.2.1 (hH.arr hs (by decide) (by decide)) ((hC.2.2.2.2.2.2.2.2.1.1.2 1 _ rfl).1 len _) (fun q => by cases q) (by show ¬ (i < 0 ∨ (arrV _ _ _).slots.size ≤ _); rw [arrV_size]; exact hi.vin) (by show (arrV _ _ _).slots[_]? = _; rw [hi.1, arrV_read _ _ hi.2.1, vMem_i (c := 101) (by rw [hs]) rfl]) rfl rfl hd (kk l G p e R s m args below meth cd H locs cells slots ls hC hH hS h1 h2 hl)
theorem Vw.bald {i : Int32} {j : Nat} (hd : decode mi.2.1 pc = .ok (.baload, 1)) (hs : S.1 a = (102, len)) (hi : vIx i j len) (hn : pc + 1 = n) (kk : Vw mi d mc ms cr sr Q n lv (.int (I a j) :: st) S I L) : Vw mi d mc ms cr sr Q pc lv (.int i :: .ref a :: st) S I L := by
  subst hn
  intro l G p e R s m args below meth cd H locs cells slots ls hC hH hS h1 h2 hl
  exact W.bald (v := .int (I a j)) hC.1 hC.2.1 (hH.arr hs (by decide) (by decide)) ((hC.2.2.2.2.2.2.2.2.1.1.2 2 _ rfl).1 len _) (fun q => by cases q) (by show ¬ (i < 0 ∨ (arrV _ _ _).slots.size ≤ _); rw [arrV_size]; exact hi.vin) (by show (arrV _ _ _).slots[_]? = _; rw [hi.1, arrV_read _ _ hi.2.1, vMem_i (c := 102) (by rw [hs]) rfl]) rfl rfl hd (kk l G p e R s m args below meth cd H locs cells slots ls hC hH hS h1 h2 hl)
theorem Vw.lald {i : Int32} {j : Nat} (hd : decode mi.2.1 pc = .ok (.laload, 1)) (hs : S.1 a = (103, len)) (hi : vIx i j len) (hn : pc + 1 = n) (kk : Vw mi d mc ms cr sr Q n lv (.long (L a j) :: st) S I L) : Vw mi d mc ms cr sr Q pc lv (.int i :: .ref a :: st) S I L := by
  subst hn
  intro l G p e R s m args below meth cd H locs cells slots ls hC hH hS h1 h2 hl
  exact W.lald (v := .long (L a j)) hC.1 hC.2.1 (hH.arr hs (by decide) (by decide)) ((hC.2.2.2.2.2.2.2.2.1.1.2 3 _ rfl).1 len _) (fun q => by cases q) (by show ¬ (i < 0 ∨ (arrV _ _ _).slots.size ≤ _); rw [arrV_size]; exact hi.vin) (by show (arrV _ _ _).slots[_]? = _; rw [hi.1, arrV_read _ _ hi.2.1, vMem_l (c := 103) (by rw [hs]) rfl]) rfl rfl hd (kk l G p e R s m args below meth cd H locs cells slots ls hC hH hS h1 h2 hl)
theorem Vw.aald0 {i : Int32} {j b : Nat} (hd : decode mi.2.1 pc = .ok (.aaload, 1)) (hs : S.1 a = (110, len)) (hi : vIx i j len) {v : Value} (hr : va_rf (S.2.1 a j) = v) (hn : pc + 1 = n) (kk : Vw mi d mc ms cr sr Q n lv (v :: st) S I L) : Vw mi d mc ms cr sr Q pc lv (.int i :: .ref a :: st) S I L := by
  subst hn
  intro l G p e R s m args below meth cd H locs cells slots ls hC hH hS h1 h2 hl
  exact W.aald (v := v) (ty := .object RX0) hC.1 hC.2.1 (hH.arr hs (by decide) (by decide)) ((hC.2.2.2.2.2.2.2.2.1.1.2 4 _ rfl).1 len _) rfl (fun q => by cases q) (by show ¬ (i < 0 ∨ (arrV _ _ _).slots.size ≤ _); rw [arrV_size]; exact hi.vin) (by show (arrV _ _ _).slots[_]? = _; rw [hi.1, arrV_read _ _ hi.2.1, vMem_r (c := 110) (by rw [hs]) rfl, hr]) rfl rfl hd (kk l G p e R s m args below meth cd H locs cells slots ls hC hH hS h1 h2 hl)
theorem Vw.aald3 {i : Int32} {j b : Nat} (hd : decode mi.2.1 pc = .ok (.aaload, 1)) (hs : S.1 a = (113, len)) (hi : vIx i j len) {v : Value} (hr : va_rf (S.2.1 a j) = v) (hn : pc + 1 = n) (kk : Vw mi d mc ms cr sr Q n lv (v :: st) S I L) : Vw mi d mc ms cr sr Q pc lv (.int i :: .ref a :: st) S I L := by
  subst hn
  intro l G p e R s m args below meth cd H locs cells slots ls hC hH hS h1 h2 hl
  exact W.aald (v := v) (ty := .object RX3) hC.1 hC.2.1 (hH.arr hs (by decide) (by decide)) ((hC.2.2.2.2.2.2.2.2.1.1.2 5 _ rfl).1 len _) rfl (fun q => by cases q) (by show ¬ (i < 0 ∨ (arrV _ _ _).slots.size ≤ _); rw [arrV_size]; exact hi.vin) (by show (arrV _ _ _).slots[_]? = _; rw [hi.1, arrV_read _ _ hi.2.1, vMem_r (c := 113) (by rw [hs]) rfl, hr]) rfl rfl hd (kk l G p e R s m args below meth cd H locs cells slots ls hC hH hS h1 h2 hl)
theorem Vw.aald7 {i : Int32} {j b : Nat} (hd : decode mi.2.1 pc = .ok (.aaload, 1)) (hs : S.1 a = (117, len)) (hi : vIx i j len) {v : Value} (hr : va_rf (S.2.1 a j) = v) (hn : pc + 1 = n) (kk : Vw mi d mc ms cr sr Q n lv (v :: st) S I L) : Vw mi d mc ms cr sr Q pc lv (.int i :: .ref a :: st) S I L := by
  subst hn
  intro l G p e R s m args below meth cd H locs cells slots ls hC hH hS h1 h2 hl
  exact W.aald (v := v) (ty := .object RX7) hC.1 hC.2.1 (hH.arr hs (by decide) (by decide)) ((hC.2.2.2.2.2.2.2.2.1.1.2 6 _ rfl).1 len _) rfl (fun q => by cases q) (by show ¬ (i < 0 ∨ (arrV _ _ _).slots.size ≤ _); rw [arrV_size]; exact hi.vin) (by show (arrV _ _ _).slots[_]? = _; rw [hi.1, arrV_read _ _ hi.2.1, vMem_r (c := 117) (by rw [hs]) rfl, hr]) rfl rfl hd (kk l G p e R s m args below meth cd H locs cells slots ls hC hH hS h1 h2 hl)
theorem Vw.aald8 {i : Int32} {j b : Nat} (hd : decode mi.2.1 pc = .ok (.aaload, 1)) (hs : S.1 a = (118, len)) (hi : vIx i j len) {v : Value} (hr : va_rf (S.2.1 a j) = v) (hn : pc + 1 = n) (kk : Vw mi d mc ms cr sr Q n lv (v :: st) S I L) : Vw mi d mc ms cr sr Q pc lv (.int i :: .ref a :: st) S I L := by
  subst hn
  intro l G p e R s m args below meth cd H locs cells slots ls hC hH hS h1 h2 hl
  exact W.aald (v := v) (ty := .object RX8) hC.1 hC.2.1 (hH.arr hs (by decide) (by decide)) ((hC.2.2.2.2.2.2.2.2.1.1.2 7 _ rfl).1 len _) rfl (fun q => by cases q) (by show ¬ (i < 0 ∨ (arrV _ _ _).slots.size ≤ _); rw [arrV_size]; exact hi.vin) (by show (arrV _ _ _).slots[_]? = _; rw [hi.1, arrV_read _ _ hi.2.1, vMem_r (c := 118) (by rw [hs]) rfl, hr]) rfl rfl hd (kk l G p e R s m args below meth cd H locs cells slots ls hC hH hS h1 h2 hl)
theorem Vw.aald9 {i : Int32} {j b : Nat} (hd : decode mi.2.1 pc = .ok (.aaload, 1)) (hs : S.1 a = (119, len)) (hi : vIx i j len) {v : Value} (hr : va_rf (S.2.1 a j) = v) (hn : pc + 1 = n) (kk : Vw mi d mc ms cr sr Q n lv (v :: st) S I L) : Vw mi d mc ms cr sr Q pc lv (.int i :: .ref a :: st) S I L := by
  subst hn
  intro l G p e R s m args below meth cd H locs cells slots ls hC hH hS h1 h2 hl
  exact W.aald (v := v) (ty := .object RX9) hC.1 hC.2.1 (hH.arr hs (by decide) (by decide)) ((hC.2.2.2.2.2.2.2.2.1.1.2 8 _ rfl).1 len _) rfl (fun q => by cases q) (by show ¬ (i < 0 ∨ (arrV _ _ _).slots.size ≤ _); rw [arrV_size]; exact hi.vin) (by show (arrV _ _ _).slots[_]? = _; rw [hi.1, arrV_read _ _ hi.2.1, vMem_r (c := 119) (by rw [hs]) rfl, hr]) rfl rfl hd (kk l G p e R s m args below meth cd H locs cells slots ls hC hH hS h1 h2 hl)
theorem Vw.iast {i : Int32} {x : Int32} {j : Nat}  (hd : decode mi.2.1 pc = .ok (.iastore, 1)) (hs : S.1 a = (100, len)) (hi : vIx i j len)  (hn : pc + 1 = n) (kk : Vw mi d mc ms cr sr Q n lv st S (up2 I a j x) L) : Vw mi d mc ms cr sr Q pc lv (.int x :: .int i :: .ref a :: st) S I L := by
  subst hn
  intro l G p e R s m args below meth cd H locs cells slots ls hC hH hS h1 h2 hl
  have hba : gB G ≤ a := (hH.2.2.1 a (by rw [hs]; show 100 < 200; decide)).1
  refine W.iast hC.1 hC.2.1 (hH.arr hs (by decide) (by decide)) ((hC.2.2.2.2.2.2.2.2.1.1.2 0 _ rfl).1 len _) (fun q => by cases q) (by show ¬ (i < 0 ∨ (arrV _ _ _).slots.size ≤ _); rw [arrV_size]; exact hi.vin) rfl rfl hd fun H2 e1 z1 o1 => ?_
  refine kk l G p e R s m args below meth cd H2 _ cells slots ls hC (hH.put (a := a) (k := j) (v := .int x) hba rfl rfl (vMem_up (c := 100) (by rw [hs]) rfl) z1 o1 (fun _ => ?_)) (hS.put z1 o1 hba) h1 h2 hl
  unfold vCel
  rw [hs, if_neg (by show ¬ 100 < 13; decide)]
  rw [e1, arrV_store]
  congr 2
  funext q
  rw [vMem_up (c := 100) (by rw [hs]) rfl]
  rw [hi.1]
  by_cases hq : q = j
  · subst hq; simp [updV]
  · simp [updV, hq]
theorem Vw.zast {i : Int32} {x : Int32} {j : Nat} {y : Int32} (hd : decode mi.2.1 pc = .ok (.bastore, 1)) (hs : S.1 a = (101, len)) (hi : vIx i j len) (hx : narrow .boolean (.int x) = .int y) (hn : pc + 1 = n) (kk : Vw mi d mc ms cr sr Q n lv st S (up2 I a j y) L) : Vw mi d mc ms cr sr Q pc lv (.int x :: .int i :: .ref a :: st) S I L := by
  subst hn
  intro l G p e R s m args below meth cd H locs cells slots ls hC hH hS h1 h2 hl
  have hba : gB G ≤ a := (hH.2.2.1 a (by rw [hs]; show 101 < 200; decide)).1
  refine W.zast hC.1 hC.2.1 (hH.arr hs (by decide) (by decide)) ((hC.2.2.2.2.2.2.2.2.1.1.2 1 _ rfl).1 len _) (fun q => by cases q) (by show ¬ (i < 0 ∨ (arrV _ _ _).slots.size ≤ _); rw [arrV_size]; exact hi.vin) rfl rfl hd fun H2 e1 z1 o1 => ?_
  refine kk l G p e R s m args below meth cd H2 _ cells slots ls hC (hH.put (a := a) (k := j) (v := .int y) hba rfl rfl (vMem_up (c := 101) (by rw [hs]) rfl) z1 o1 (fun _ => ?_)) (hS.put z1 o1 hba) h1 h2 hl
  unfold vCel
  rw [hs, if_neg (by show ¬ 101 < 13; decide)]
  rw [e1, arrV_store]
  congr 2
  funext q
  rw [vMem_up (c := 101) (by rw [hs]) rfl]
  rw [hi.1]
  by_cases hq : q = j
  · subst hq; simp [updV, hx]
  · simp [updV, hq]
theorem Vw.bast {i : Int32} {x : Int32} {j : Nat} {y : Int32} (hd : decode mi.2.1 pc = .ok (.bastore, 1)) (hs : S.1 a = (102, len)) (hi : vIx i j len) (hx : narrow .byte (.int x) = .int y) (hn : pc + 1 = n) (kk : Vw mi d mc ms cr sr Q n lv st S (up2 I a j y) L) : Vw mi d mc ms cr sr Q pc lv (.int x :: .int i :: .ref a :: st) S I L := by
  subst hn
  intro l G p e R s m args below meth cd H locs cells slots ls hC hH hS h1 h2 hl
  have hba : gB G ≤ a := (hH.2.2.1 a (by rw [hs]; show 102 < 200; decide)).1
  refine W.bast hC.1 hC.2.1 (hH.arr hs (by decide) (by decide)) ((hC.2.2.2.2.2.2.2.2.1.1.2 2 _ rfl).1 len _) (fun q => by cases q) (by show ¬ (i < 0 ∨ (arrV _ _ _).slots.size ≤ _); rw [arrV_size]; exact hi.vin) rfl rfl hd fun H2 e1 z1 o1 => ?_
  refine kk l G p e R s m args below meth cd H2 _ cells slots ls hC (hH.put (a := a) (k := j) (v := .int y) hba rfl rfl (vMem_up (c := 102) (by rw [hs]) rfl) z1 o1 (fun _ => ?_)) (hS.put z1 o1 hba) h1 h2 hl
  unfold vCel
  rw [hs, if_neg (by show ¬ 102 < 13; decide)]
  rw [e1, arrV_store]
  congr 2
  funext q
  rw [vMem_up (c := 102) (by rw [hs]) rfl]
  rw [hi.1]
  by_cases hq : q = j
  · subst hq; simp [updV, hx]
  · simp [updV, hq]
theorem Vw.last {i : Int32} {x : Int64} {j : Nat}  (hd : decode mi.2.1 pc = .ok (.lastore, 1)) (hs : S.1 a = (103, len)) (hi : vIx i j len)  (hn : pc + 1 = n) (kk : Vw mi d mc ms cr sr Q n lv st S I (up2 L a j x)) : Vw mi d mc ms cr sr Q pc lv (.long x :: .int i :: .ref a :: st) S I L := by
  subst hn
  intro l G p e R s m args below meth cd H locs cells slots ls hC hH hS h1 h2 hl
  have hba : gB G ≤ a := (hH.2.2.1 a (by rw [hs]; show 103 < 200; decide)).1
  refine W.last hC.1 hC.2.1 (hH.arr hs (by decide) (by decide)) ((hC.2.2.2.2.2.2.2.2.1.1.2 3 _ rfl).1 len _) (fun q => by cases q) (by show ¬ (i < 0 ∨ (arrV _ _ _).slots.size ≤ _); rw [arrV_size]; exact hi.vin) rfl rfl hd fun H2 e1 z1 o1 => ?_
  refine kk l G p e R s m args below meth cd H2 _ cells slots ls hC (hH.put (a := a) (k := j) (v := .long x) hba rfl rfl (vMem_upL (c := 103) (by rw [hs]) rfl) z1 o1 (fun _ => ?_)) (hS.put z1 o1 hba) h1 h2 hl
  unfold vCel
  rw [hs, if_neg (by show ¬ 103 < 13; decide)]
  rw [e1, arrV_store]
  congr 2
  funext q
  rw [vMem_upL (c := 103) (by rw [hs]) rfl]
  rw [hi.1]
  by_cases hq : q = j
  · subst hq; simp [updV]
  · simp [updV, hq]
theorem Vw.aast0 {i : Int32} {j b : Nat} (hd : decode mi.2.1 pc = .ok (.aastore, 1)) (hs : S.1 a = (110, len)) (hi : vIx i j len) (hb : (S.1 b).1 = 0) (hn : pc + 1 = n) (kk : Vw mi d mc ms cr sr Q n lv st (sUp S a j (some b)) I L) : Vw mi d mc ms cr sr Q pc lv (.ref b :: .int i :: .ref a :: st) S I L := by
  subst hn
  intro l G p e R s m args below meth cd H locs cells slots ls hC hH hS h1 h2 hl
  have hba : gB G ≤ a := (hH.2.2.1 a (by rw [hs]; show 110 < 200; decide)).1
  have hK := hC.2.2.2.2.2.2.2.2.1.1
  obtain ⟨cellV, g1, g2, g3, -⟩ := hH.obj hb (by decide)
  have hcls := (hK.1 0 _ (vCl_at (by decide))).2
  obtain ⟨kA, comp, k1, k2, k3, -⟩ := (hK.2 4 _ rfl).2
  have hcomp : comp = gC G 0 := Option.some.inj (k3.symm.trans hcls.1)
  subst hcomp
  obtain ⟨kC, hkC, -⟩ := id hcls.2
  refine W.aast hC.1 hC.2.1 (hH.arr hs (by decide) (by decide)) (fun q h => by cases h) (fun h => by cases h) k1 k2 rfl hkC ⟨hi.2.2, by show _ < (arrV _ _ _).slots.size; rw [arrV_size, hi.1]; exact hi.2.1⟩ g1 (fun q h => by rw [g3] at h; cases h) (by rw [g2]; exact hkC) (by rw [g2]; exact va_assign hcls) rfl rfl hd fun H2 e1 z1 o1 => ?_
  refine kk l G p e R s m args below meth cd H2 _ cells slots ls hC (hH.put (a := a) (k := j) (v := va_rf (some b)) hba rfl rfl (vMem_upR (c := 110) (by rw [hs]) rfl) z1 o1 (fun _ => ?_)) (hS.put z1 o1 hba) h1 h2 hl
  unfold vCel
  rw [show (sUp S a j (some b)).1 = S.1 from rfl, hs, if_neg (by show ¬ 110 < 13; decide)]
  rw [e1, arrV_store]
  congr 2
  funext q
  rw [vMem_upR (c := 110) (by rw [hs]) rfl, hi.1]
  by_cases hq : q = j
  · subst hq; simp [updV, va_rf]
  · simp [updV, hq]
theorem Vw.aast3 {i : Int32} {j b : Nat} (hd : decode mi.2.1 pc = .ok (.aastore, 1)) (hs : S.1 a = (113, len)) (hi : vIx i j len) (hb : (S.1 b).1 = 3) (hn : pc + 1 = n) (kk : Vw mi d mc ms cr sr Q n lv st (sUp S a j (some b)) I L) : Vw mi d mc ms cr sr Q pc lv (.ref b :: .int i :: .ref a :: st) S I L := by
  subst hn
  intro l G p e R s m args below meth cd H locs cells slots ls hC hH hS h1 h2 hl
  have hba : gB G ≤ a := (hH.2.2.1 a (by rw [hs]; show 113 < 200; decide)).1
  have hK := hC.2.2.2.2.2.2.2.2.1.1
  obtain ⟨cellV, g1, g2, g3, -⟩ := hH.obj hb (by decide)
  have hcls := (hK.1 3 _ (vCl_at (by decide))).2
  obtain ⟨kA, comp, k1, k2, k3, -⟩ := (hK.2 5 _ rfl).2
  have hcomp : comp = gC G 3 := Option.some.inj (k3.symm.trans hcls.1)
  subst hcomp
  obtain ⟨kC, hkC, -⟩ := id hcls.2
  refine W.aast hC.1 hC.2.1 (hH.arr hs (by decide) (by decide)) (fun q h => by cases h) (fun h => by cases h) k1 k2 rfl hkC ⟨hi.2.2, by show _ < (arrV _ _ _).slots.size; rw [arrV_size, hi.1]; exact hi.2.1⟩ g1 (fun q h => by rw [g3] at h; cases h) (by rw [g2]; exact hkC) (by rw [g2]; exact va_assign hcls) rfl rfl hd fun H2 e1 z1 o1 => ?_
  refine kk l G p e R s m args below meth cd H2 _ cells slots ls hC (hH.put (a := a) (k := j) (v := va_rf (some b)) hba rfl rfl (vMem_upR (c := 113) (by rw [hs]) rfl) z1 o1 (fun _ => ?_)) (hS.put z1 o1 hba) h1 h2 hl
  unfold vCel
  rw [show (sUp S a j (some b)).1 = S.1 from rfl, hs, if_neg (by show ¬ 113 < 13; decide)]
  rw [e1, arrV_store]
  congr 2
  funext q
  rw [vMem_upR (c := 113) (by rw [hs]) rfl, hi.1]
  by_cases hq : q = j
  · subst hq; simp [updV, va_rf]
  · simp [updV, hq]
theorem Vw.aast7 {i : Int32} {j b : Nat} (hd : decode mi.2.1 pc = .ok (.aastore, 1)) (hs : S.1 a = (117, len)) (hi : vIx i j len) (hb : (S.1 b).1 = 7) (hn : pc + 1 = n) (kk : Vw mi d mc ms cr sr Q n lv st (sUp S a j (some b)) I L) : Vw mi d mc ms cr sr Q pc lv (.ref b :: .int i :: .ref a :: st) S I L := by
  subst hn
  intro l G p e R s m args below meth cd H locs cells slots ls hC hH hS h1 h2 hl
  have hba : gB G ≤ a := (hH.2.2.1 a (by rw [hs]; show 117 < 200; decide)).1
  have hK := hC.2.2.2.2.2.2.2.2.1.1
  obtain ⟨cellV, g1, g2, g3, -⟩ := hH.obj hb (by decide)
  have hcls := (hK.1 7 _ (vCl_at (by decide))).2
  obtain ⟨kA, comp, k1, k2, k3, -⟩ := (hK.2 6 _ rfl).2
  have hcomp : comp = gC G 7 := Option.some.inj (k3.symm.trans hcls.1)
  subst hcomp
  obtain ⟨kC, hkC, -⟩ := id hcls.2
  refine W.aast hC.1 hC.2.1 (hH.arr hs (by decide) (by decide)) (fun q h => by cases h) (fun h => by cases h) k1 k2 rfl hkC ⟨hi.2.2, by show _ < (arrV _ _ _).slots.size; rw [arrV_size, hi.1]; exact hi.2.1⟩ g1 (fun q h => by rw [g3] at h; cases h) (by rw [g2]; exact hkC) (by rw [g2]; exact va_assign hcls) rfl rfl hd fun H2 e1 z1 o1 => ?_
  refine kk l G p e R s m args below meth cd H2 _ cells slots ls hC (hH.put (a := a) (k := j) (v := va_rf (some b)) hba rfl rfl (vMem_upR (c := 117) (by rw [hs]) rfl) z1 o1 (fun _ => ?_)) (hS.put z1 o1 hba) h1 h2 hl
  unfold vCel
  rw [show (sUp S a j (some b)).1 = S.1 from rfl, hs, if_neg (by show ¬ 117 < 13; decide)]
  rw [e1, arrV_store]
  congr 2
  funext q
  rw [vMem_upR (c := 117) (by rw [hs]) rfl, hi.1]
  by_cases hq : q = j
  · subst hq; simp [updV, va_rf]
  · simp [updV, hq]
theorem Vw.aast8 {i : Int32} {j b : Nat} (hd : decode mi.2.1 pc = .ok (.aastore, 1)) (hs : S.1 a = (118, len)) (hi : vIx i j len) (hb : (S.1 b).1 = 8) (hn : pc + 1 = n) (kk : Vw mi d mc ms cr sr Q n lv st (sUp S a j (some b)) I L) : Vw mi d mc ms cr sr Q pc lv (.ref b :: .int i :: .ref a :: st) S I L := by
  subst hn
  intro l G p e R s m args below meth cd H locs cells slots ls hC hH hS h1 h2 hl
  have hba : gB G ≤ a := (hH.2.2.1 a (by rw [hs]; show 118 < 200; decide)).1
  have hK := hC.2.2.2.2.2.2.2.2.1.1
  obtain ⟨cellV, g1, g2, g3, -⟩ := hH.obj hb (by decide)
  have hcls := (hK.1 8 _ (vCl_at (by decide))).2
  obtain ⟨kA, comp, k1, k2, k3, -⟩ := (hK.2 7 _ rfl).2
  have hcomp : comp = gC G 8 := Option.some.inj (k3.symm.trans hcls.1)
  subst hcomp
  obtain ⟨kC, hkC, -⟩ := id hcls.2
  refine W.aast hC.1 hC.2.1 (hH.arr hs (by decide) (by decide)) (fun q h => by cases h) (fun h => by cases h) k1 k2 rfl hkC ⟨hi.2.2, by show _ < (arrV _ _ _).slots.size; rw [arrV_size, hi.1]; exact hi.2.1⟩ g1 (fun q h => by rw [g3] at h; cases h) (by rw [g2]; exact hkC) (by rw [g2]; exact va_assign hcls) rfl rfl hd fun H2 e1 z1 o1 => ?_
  refine kk l G p e R s m args below meth cd H2 _ cells slots ls hC (hH.put (a := a) (k := j) (v := va_rf (some b)) hba rfl rfl (vMem_upR (c := 118) (by rw [hs]) rfl) z1 o1 (fun _ => ?_)) (hS.put z1 o1 hba) h1 h2 hl
  unfold vCel
  rw [show (sUp S a j (some b)).1 = S.1 from rfl, hs, if_neg (by show ¬ 118 < 13; decide)]
  rw [e1, arrV_store]
  congr 2
  funext q
  rw [vMem_upR (c := 118) (by rw [hs]) rfl, hi.1]
  by_cases hq : q = j
  · subst hq; simp [updV, va_rf]
  · simp [updV, hq]
theorem Vw.aast9 {i : Int32} {j b : Nat} (hd : decode mi.2.1 pc = .ok (.aastore, 1)) (hs : S.1 a = (119, len)) (hi : vIx i j len) (hb : (S.1 b).1 = 9) (hn : pc + 1 = n) (kk : Vw mi d mc ms cr sr Q n lv st (sUp S a j (some b)) I L) : Vw mi d mc ms cr sr Q pc lv (.ref b :: .int i :: .ref a :: st) S I L := by
  subst hn
  intro l G p e R s m args below meth cd H locs cells slots ls hC hH hS h1 h2 hl
  have hba : gB G ≤ a := (hH.2.2.1 a (by rw [hs]; show 119 < 200; decide)).1
  have hK := hC.2.2.2.2.2.2.2.2.1.1
  obtain ⟨cellV, g1, g2, g3, -⟩ := hH.obj hb (by decide)
  have hcls := (hK.1 9 _ (vCl_at (by decide))).2
  obtain ⟨kA, comp, k1, k2, k3, -⟩ := (hK.2 8 _ rfl).2
  have hcomp : comp = gC G 9 := Option.some.inj (k3.symm.trans hcls.1)
  subst hcomp
  obtain ⟨kC, hkC, -⟩ := id hcls.2
  refine W.aast hC.1 hC.2.1 (hH.arr hs (by decide) (by decide)) (fun q h => by cases h) (fun h => by cases h) k1 k2 rfl hkC ⟨hi.2.2, by show _ < (arrV _ _ _).slots.size; rw [arrV_size, hi.1]; exact hi.2.1⟩ g1 (fun q h => by rw [g3] at h; cases h) (by rw [g2]; exact hkC) (by rw [g2]; exact va_assign hcls) rfl rfl hd fun H2 e1 z1 o1 => ?_
  refine kk l G p e R s m args below meth cd H2 _ cells slots ls hC (hH.put (a := a) (k := j) (v := va_rf (some b)) hba rfl rfl (vMem_upR (c := 119) (by rw [hs]) rfl) z1 o1 (fun _ => ?_)) (hS.put z1 o1 hba) h1 h2 hl
  unfold vCel
  rw [show (sUp S a j (some b)).1 = S.1 from rfl, hs, if_neg (by show ¬ 119 < 13; decide)]
  rw [e1, arrV_store]
  congr 2
  funext q
  rw [vMem_upR (c := 119) (by rw [hs]) rfl, hi.1]
  by_cases hq : q = j
  · subst hq; simp [updV, va_rf]
  · simp [updV, hq]
theorem Vw.alen {i : Int32} (hd : decode mi.2.1 pc = .ok (.arraylength, 1)) (hs : S.1 a = (100, len)) (hv : Int32.ofNat len = i) (hn : pc + 1 = n) (kk : Vw mi d mc ms cr sr Q n lv (.int i :: st) S I L) : Vw mi d mc ms cr sr Q pc lv (.ref a :: st) S I L := by
  subst hn
  intro l G p e R s m args below meth cd H locs cells slots ls hC hH hS h1 h2 hl
  exact W.alen hC.1 hC.2.1 (hH.arr hs (by decide) (by decide)) ((hC.2.2.2.2.2.2.2.2.1.1.2 0 _ rfl).1 len _) (by show (arrV _ _ _).slots.size.toInt32 = i; rw [arrV_size]; exact hv) rfl rfl hd (kk l G p e R s m args below meth cd H locs cells slots ls hC hH hS h1 h2 hl)
theorem Vw.alenB {i : Int32} (hd : decode mi.2.1 pc = .ok (.arraylength, 1)) (hs : S.1 a = (102, len)) (hv : Int32.ofNat len = i) (hn : pc + 1 = n) (kk : Vw mi d mc ms cr sr Q n lv (.int i :: st) S I L) : Vw mi d mc ms cr sr Q pc lv (.ref a :: st) S I L := by
  subst hn
  intro l G p e R s m args below meth cd H locs cells slots ls hC hH hS h1 h2 hl
  exact W.alen hC.1 hC.2.1 (hH.arr hs (by decide) (by decide)) ((hC.2.2.2.2.2.2.2.2.1.1.2 2 _ rfl).1 len _) (by show (arrV _ _ _).slots.size.toInt32 = i; rw [arrV_size]; exact hv) rfl rfl hd (kk l G p e R s m args below meth cd H locs cells slots ls hC hH hS h1 h2 hl)
theorem Vw.alenL {i : Int32} (hd : decode mi.2.1 pc = .ok (.arraylength, 1)) (hs : S.1 a = (103, len)) (hv : Int32.ofNat len = i) (hn : pc + 1 = n) (kk : Vw mi d mc ms cr sr Q n lv (.int i :: st) S I L) : Vw mi d mc ms cr sr Q pc lv (.ref a :: st) S I L := by
  subst hn
  intro l G p e R s m args below meth cd H locs cells slots ls hC hH hS h1 h2 hl
  exact W.alen hC.1 hC.2.1 (hH.arr hs (by decide) (by decide)) ((hC.2.2.2.2.2.2.2.2.1.1.2 3 _ rfl).1 len _) (by show (arrV _ _ _).slots.size.toInt32 = i; rw [arrV_size]; exact hv) rfl rfl hd (kk l G p e R s m args below meth cd H locs cells slots ls hC hH hS h1 h2 hl)
theorem Vw.newO (hd : decode mi.2.1 pc = .ok (.new idx, 3)) (hc : c < 13) (hw : Cond.classLink mi.1.cls idx (vR c) ∈ vTs ∧ Cond.instantiable (vR c) (vN c) ∈ vTs ∧ Cond.initialized (vR c) ∈ vTs) (hn : pc + 3 = n) (kk : Vw mi d mc ms cr sr Q n lv (.ref S.2.2 :: st) (sNew S c 0) (zNew I S.2.2) (zNl L S.2.2)) : Vw mi d mc ms (cr + 1) (sr + vN c) Q pc lv st S I L := by
  subst hn
  intro l G p e R s m args below meth cd H locs cells slots ls hC hH hS h1 h2 hl
  have hts := hC.2.2.2.2.2.2.1
  have hK := hC.2.2.2.2.2.2.2.2.1.1
  have hKn := hK.1 c _ (vCl_at hc)
  refine W.newcK hC.1 hC.2.1 hC.2.2.2.2.2.1 (hts _ hw.1) (hts _ hw.2.1) (hts _ hw.2.2) rfl hd (by have := hC.2.2.2.2.2.2.2.2.2.2.2.2.2.1; omega) (by have := hC.2.2.2.2.2.2.2.2.2.2.2.2.2.2; omega) hKn.2.1 hH.1 fun H2 kC hkC e1 z1 o1 => ?_
  have hb := hH.2.1
  refine kk l G p e R s m args below meth cd H2 locs (cells + 1) (slots + vN c) ls hC (hH.born z1 o1 (by omega) ?_) ⟨Nat.le_trans hS.1 (by rw [hH.1, z1]; omega), fun q g1 g2 => (o1 q (by rw [← hH.1]; exact Nat.lt_of_lt_of_le g1 hS.1)).trans (hS.2.1 q g1 g2), hS.2.2⟩ (by omega) (by omega) hl
  have e2 : ((sNew S c 0).1 S.2.2).1 = c := by simp [sNew]
  unfold vCel
  rw [e2, if_pos hc]
  refine (u_born (vTy c) hts (vIn hc) hKn hkC e1 (vTy_ok hc)).to (fun j hj => ?_)
  rw [vMem_born, vDef (vOkT_all c hc j hj)]
  simp [vTk, hc]
theorem Vw.newaI {i : Int32} (hd : decode mi.2.1 pc = .ok (.newarray .int, 2)) (hw : Cond.arrayClass .int ∈ vTs) (hi : i.toNatClampNeg = len ∧ ¬ i < 0 ∧ len ≤ 60000) (hn : pc + 2 = n) (kk : Vw mi d mc ms cr sr Q n lv (.ref S.2.2 :: st) (sNew S 100 len) (zNew I S.2.2) (zNl L S.2.2)) : Vw mi d mc ms (cr + 1) (sr + len) Q pc lv (.int i :: st) S I L := by
  subst hn
  intro l G p e R s m args below meth cd H locs cells slots ls hC hH hS h1 h2 hl
  have hts := hC.2.2.2.2.2.2.1
  have hK := hC.2.2.2.2.2.2.2.2.1.1
  refine va_newaK (atype := .int) hC.1 hC.2.1 (hts _ hw) rfl hd rfl hi.2.1 hi.1 (by have := hi.2.2; show len * componentBytes .int ≤ 536870912; simp only [componentBytes]; omega) (by have := hC.2.2.2.2.2.2.2.2.2.2.2.2.2.1; omega) (by have := hC.2.2.2.2.2.2.2.2.2.2.2.2.2.2; omega) hH.1 fun H2 cA e1 z1 o1 hAr hNm => ?_
  have hb := hH.2.1
  refine kk l G p e R s m args below meth cd H2 locs (cells + 1) (slots + len) ls hC (hH.born z1 o1 (by decide) ?_) ⟨Nat.le_trans hS.1 (by rw [hH.1, z1]; omega), fun q g1 g2 => (o1 q (by rw [← hH.1]; exact Nat.lt_of_lt_of_le g1 hS.1)).trans (hS.2.1 q g1 g2), hS.2.2⟩ (by omega) (by omega) hl
  have e2 : (sNew S 100 len).1 S.2.2 = (100, len) := by simp [sNew]
  have e3 : cA = gA G 100 := Option.some.inj (hNm.symm.trans (hK.2 0 _ rfl).2)
  unfold vCel
  rw [e2, if_neg (by show ¬ 100 < 13; decide), e1, e3]
  congr 2
  funext j
  rw [vMem_born]
  rfl
theorem Vw.newaZ {i : Int32} (hd : decode mi.2.1 pc = .ok (.newarray .boolean, 2)) (hw : Cond.arrayClass .boolean ∈ vTs) (hi : i.toNatClampNeg = len ∧ ¬ i < 0 ∧ len ≤ 60000) (hn : pc + 2 = n) (kk : Vw mi d mc ms cr sr Q n lv (.ref S.2.2 :: st) (sNew S 101 len) (zNew I S.2.2) (zNl L S.2.2)) : Vw mi d mc ms (cr + 1) (sr + len) Q pc lv (.int i :: st) S I L := by
  subst hn
  intro l G p e R s m args below meth cd H locs cells slots ls hC hH hS h1 h2 hl
  have hts := hC.2.2.2.2.2.2.1
  have hK := hC.2.2.2.2.2.2.2.2.1.1
  refine va_newaK (atype := .boolean) hC.1 hC.2.1 (hts _ hw) rfl hd rfl hi.2.1 hi.1 (by have := hi.2.2; show len * componentBytes .boolean ≤ 536870912; simp only [componentBytes]; omega) (by have := hC.2.2.2.2.2.2.2.2.2.2.2.2.2.1; omega) (by have := hC.2.2.2.2.2.2.2.2.2.2.2.2.2.2; omega) hH.1 fun H2 cA e1 z1 o1 hAr hNm => ?_
  have hb := hH.2.1
  refine kk l G p e R s m args below meth cd H2 locs (cells + 1) (slots + len) ls hC (hH.born z1 o1 (by decide) ?_) ⟨Nat.le_trans hS.1 (by rw [hH.1, z1]; omega), fun q g1 g2 => (o1 q (by rw [← hH.1]; exact Nat.lt_of_lt_of_le g1 hS.1)).trans (hS.2.1 q g1 g2), hS.2.2⟩ (by omega) (by omega) hl
  have e2 : (sNew S 101 len).1 S.2.2 = (101, len) := by simp [sNew]
  have e3 : cA = gA G 101 := Option.some.inj (hNm.symm.trans (hK.2 1 _ rfl).2)
  unfold vCel
  rw [e2, if_neg (by show ¬ 101 < 13; decide), e1, e3]
  congr 2
  funext j
  rw [vMem_born]
  rfl
theorem Vw.newaB {i : Int32} (hd : decode mi.2.1 pc = .ok (.newarray .byte, 2)) (hw : Cond.arrayClass .byte ∈ vTs) (hi : i.toNatClampNeg = len ∧ ¬ i < 0 ∧ len ≤ 60000) (hn : pc + 2 = n) (kk : Vw mi d mc ms cr sr Q n lv (.ref S.2.2 :: st) (sNew S 102 len) (zNew I S.2.2) (zNl L S.2.2)) : Vw mi d mc ms (cr + 1) (sr + len) Q pc lv (.int i :: st) S I L := by
  subst hn
  intro l G p e R s m args below meth cd H locs cells slots ls hC hH hS h1 h2 hl
  have hts := hC.2.2.2.2.2.2.1
  have hK := hC.2.2.2.2.2.2.2.2.1.1
  refine va_newaK (atype := .byte) hC.1 hC.2.1 (hts _ hw) rfl hd rfl hi.2.1 hi.1 (by have := hi.2.2; show len * componentBytes .byte ≤ 536870912; simp only [componentBytes]; omega) (by have := hC.2.2.2.2.2.2.2.2.2.2.2.2.2.1; omega) (by have := hC.2.2.2.2.2.2.2.2.2.2.2.2.2.2; omega) hH.1 fun H2 cA e1 z1 o1 hAr hNm => ?_
  have hb := hH.2.1
  refine kk l G p e R s m args below meth cd H2 locs (cells + 1) (slots + len) ls hC (hH.born z1 o1 (by decide) ?_) ⟨Nat.le_trans hS.1 (by rw [hH.1, z1]; omega), fun q g1 g2 => (o1 q (by rw [← hH.1]; exact Nat.lt_of_lt_of_le g1 hS.1)).trans (hS.2.1 q g1 g2), hS.2.2⟩ (by omega) (by omega) hl
  have e2 : (sNew S 102 len).1 S.2.2 = (102, len) := by simp [sNew]
  have e3 : cA = gA G 102 := Option.some.inj (hNm.symm.trans (hK.2 2 _ rfl).2)
  unfold vCel
  rw [e2, if_neg (by show ¬ 102 < 13; decide), e1, e3]
  congr 2
  funext j
  rw [vMem_born]
  rfl
theorem Vw.newaJ {i : Int32} (hd : decode mi.2.1 pc = .ok (.newarray .long, 2)) (hw : Cond.arrayClass .long ∈ vTs) (hi : i.toNatClampNeg = len ∧ ¬ i < 0 ∧ len ≤ 60000) (hn : pc + 2 = n) (kk : Vw mi d mc ms cr sr Q n lv (.ref S.2.2 :: st) (sNew S 103 len) (zNew I S.2.2) (zNl L S.2.2)) : Vw mi d mc ms (cr + 1) (sr + len) Q pc lv (.int i :: st) S I L := by
  subst hn
  intro l G p e R s m args below meth cd H locs cells slots ls hC hH hS h1 h2 hl
  have hts := hC.2.2.2.2.2.2.1
  have hK := hC.2.2.2.2.2.2.2.2.1.1
  refine va_newaK (atype := .long) hC.1 hC.2.1 (hts _ hw) rfl hd rfl hi.2.1 hi.1 (by have := hi.2.2; show len * componentBytes .long ≤ 536870912; simp only [componentBytes]; omega) (by have := hC.2.2.2.2.2.2.2.2.2.2.2.2.2.1; omega) (by have := hC.2.2.2.2.2.2.2.2.2.2.2.2.2.2; omega) hH.1 fun H2 cA e1 z1 o1 hAr hNm => ?_
  have hb := hH.2.1
  refine kk l G p e R s m args below meth cd H2 locs (cells + 1) (slots + len) ls hC (hH.born z1 o1 (by decide) ?_) ⟨Nat.le_trans hS.1 (by rw [hH.1, z1]; omega), fun q g1 g2 => (o1 q (by rw [← hH.1]; exact Nat.lt_of_lt_of_le g1 hS.1)).trans (hS.2.1 q g1 g2), hS.2.2⟩ (by omega) (by omega) hl
  have e2 : (sNew S 103 len).1 S.2.2 = (103, len) := by simp [sNew]
  have e3 : cA = gA G 103 := Option.some.inj (hNm.symm.trans (hK.2 3 _ rfl).2)
  unfold vCel
  rw [e2, if_neg (by show ¬ 103 < 13; decide), e1, e3]
  congr 2
  funext j
  rw [vMem_born]
  rfl
theorem Vw.anew0 {i : Int32} (hd : decode mi.2.1 pc = .ok (.anewarray idx, 3)) (hw : Cond.classLink mi.1.cls idx RX0 ∈ vTs) (hi : i.toNatClampNeg = len ∧ ¬ i < 0 ∧ len ≤ 60000) (hn : pc + 3 = n) (kk : Vw mi d mc ms cr sr Q n lv (.ref S.2.2 :: st) (sNew S 110 len) (zNew I S.2.2) (zNl L S.2.2)) : Vw mi d mc ms (cr + 1) (sr + len) Q pc lv (.int i :: st) S I L := by
  subst hn
  intro l G p e R s m args below meth cd H locs cells slots ls hC hH hS h1 h2 hl
  have hts := hC.2.2.2.2.2.2.1
  have hK := hC.2.2.2.2.2.2.2.2.1.1
  have hb := hH.2.1
  refine W.anew hC.1 hC.2.1 hC.2.2.2.2.2.1 (hts _ hw) (va_AO.use (hC.2.2.2.2.2.2.2.2.1.2.2.1 RX0 (by simp))) rfl hd rfl hi.2.1 (by rw [hi.1]; have := hi.2.2; omega) (by have := hC.2.2.2.2.2.2.2.2.2.2.2.2.2.1; omega) (by rw [hi.1]; have := hC.2.2.2.2.2.2.2.2.2.2.2.2.2.2; omega) fun cA kA comp f1 f2 f3 f4 => ?_
  rw [hi.1, arrV_new]
  generalize hH2 : H.push (arrV cA len (fun _ => .null)) = H2
  have z1 : H2.size = S.2.2 + 1 := by rw [← hH2, Array.size_push, hH.1]
  have e1 : H2[S.2.2]? = some (arrV cA len (fun _ => .null)) := by rw [← hH2, ← hH.1, Array.getElem?_push_size]
  have o1 : ∀ q : Nat, q < S.2.2 → H2[q]? = H[q]? := fun q hq => by rw [← hH2, Array.getElem?_push, if_neg (by rw [hH.1]; exact Nat.ne_of_lt hq)]
  rw [hH.1]
  refine kk l G p e R s m args below meth cd H2 locs (cells + 1) (slots + len) ls hC (hH.born z1 o1 (by decide) ?_) ⟨Nat.le_trans hS.1 (by rw [hH.1, z1]; omega), fun q g1 g2 => (o1 q (by rw [← hH.1]; exact Nat.lt_of_lt_of_le g1 hS.1)).trans (hS.2.1 q g1 g2), hS.2.2⟩ (by omega) (by omega) hl
  have e2 : (sNew S 110 len).1 S.2.2 = (110, len) := by simp [sNew]
  obtain ⟨kA2, comp2, k1, k2, k3, k4⟩ := (hK.2 4 _ rfl).2
  have e3 : cA = gA G 110 := Option.some.inj (f1.symm.trans k4)
  unfold vCel
  rw [e2, if_neg (by show ¬ 110 < 13; decide), e1, e3]
  congr 2
  funext j
  rw [vMem_born]
  rfl
theorem Vw.anew3 {i : Int32} (hd : decode mi.2.1 pc = .ok (.anewarray idx, 3)) (hw : Cond.classLink mi.1.cls idx RX3 ∈ vTs) (hi : i.toNatClampNeg = len ∧ ¬ i < 0 ∧ len ≤ 60000) (hn : pc + 3 = n) (kk : Vw mi d mc ms cr sr Q n lv (.ref S.2.2 :: st) (sNew S 113 len) (zNew I S.2.2) (zNl L S.2.2)) : Vw mi d mc ms (cr + 1) (sr + len) Q pc lv (.int i :: st) S I L := by
  subst hn
  intro l G p e R s m args below meth cd H locs cells slots ls hC hH hS h1 h2 hl
  have hts := hC.2.2.2.2.2.2.1
  have hK := hC.2.2.2.2.2.2.2.2.1.1
  have hb := hH.2.1
  refine W.anew hC.1 hC.2.1 hC.2.2.2.2.2.1 (hts _ hw) (va_AO.use (hC.2.2.2.2.2.2.2.2.1.2.2.1 RX3 (by simp))) rfl hd rfl hi.2.1 (by rw [hi.1]; have := hi.2.2; omega) (by have := hC.2.2.2.2.2.2.2.2.2.2.2.2.2.1; omega) (by rw [hi.1]; have := hC.2.2.2.2.2.2.2.2.2.2.2.2.2.2; omega) fun cA kA comp f1 f2 f3 f4 => ?_
  rw [hi.1, arrV_new]
  generalize hH2 : H.push (arrV cA len (fun _ => .null)) = H2
  have z1 : H2.size = S.2.2 + 1 := by rw [← hH2, Array.size_push, hH.1]
  have e1 : H2[S.2.2]? = some (arrV cA len (fun _ => .null)) := by rw [← hH2, ← hH.1, Array.getElem?_push_size]
  have o1 : ∀ q : Nat, q < S.2.2 → H2[q]? = H[q]? := fun q hq => by rw [← hH2, Array.getElem?_push, if_neg (by rw [hH.1]; exact Nat.ne_of_lt hq)]
  rw [hH.1]
  refine kk l G p e R s m args below meth cd H2 locs (cells + 1) (slots + len) ls hC (hH.born z1 o1 (by decide) ?_) ⟨Nat.le_trans hS.1 (by rw [hH.1, z1]; omega), fun q g1 g2 => (o1 q (by rw [← hH.1]; exact Nat.lt_of_lt_of_le g1 hS.1)).trans (hS.2.1 q g1 g2), hS.2.2⟩ (by omega) (by omega) hl
  have e2 : (sNew S 113 len).1 S.2.2 = (113, len) := by simp [sNew]
  obtain ⟨kA2, comp2, k1, k2, k3, k4⟩ := (hK.2 5 _ rfl).2
  have e3 : cA = gA G 113 := Option.some.inj (f1.symm.trans k4)
  unfold vCel
  rw [e2, if_neg (by show ¬ 113 < 13; decide), e1, e3]
  congr 2
  funext j
  rw [vMem_born]
  rfl
theorem Vw.anew7 {i : Int32} (hd : decode mi.2.1 pc = .ok (.anewarray idx, 3)) (hw : Cond.classLink mi.1.cls idx RX7 ∈ vTs) (hi : i.toNatClampNeg = len ∧ ¬ i < 0 ∧ len ≤ 60000) (hn : pc + 3 = n) (kk : Vw mi d mc ms cr sr Q n lv (.ref S.2.2 :: st) (sNew S 117 len) (zNew I S.2.2) (zNl L S.2.2)) : Vw mi d mc ms (cr + 1) (sr + len) Q pc lv (.int i :: st) S I L := by
  subst hn
  intro l G p e R s m args below meth cd H locs cells slots ls hC hH hS h1 h2 hl
  have hts := hC.2.2.2.2.2.2.1
  have hK := hC.2.2.2.2.2.2.2.2.1.1
  have hb := hH.2.1
  refine W.anew hC.1 hC.2.1 hC.2.2.2.2.2.1 (hts _ hw) (va_AO.use (hC.2.2.2.2.2.2.2.2.1.2.2.1 RX7 (by simp))) rfl hd rfl hi.2.1 (by rw [hi.1]; have := hi.2.2; omega) (by have := hC.2.2.2.2.2.2.2.2.2.2.2.2.2.1; omega) (by rw [hi.1]; have := hC.2.2.2.2.2.2.2.2.2.2.2.2.2.2; omega) fun cA kA comp f1 f2 f3 f4 => ?_
  rw [hi.1, arrV_new]
  generalize hH2 : H.push (arrV cA len (fun _ => .null)) = H2
  have z1 : H2.size = S.2.2 + 1 := by rw [← hH2, Array.size_push, hH.1]
  have e1 : H2[S.2.2]? = some (arrV cA len (fun _ => .null)) := by rw [← hH2, ← hH.1, Array.getElem?_push_size]
  have o1 : ∀ q : Nat, q < S.2.2 → H2[q]? = H[q]? := fun q hq => by rw [← hH2, Array.getElem?_push, if_neg (by rw [hH.1]; exact Nat.ne_of_lt hq)]
  rw [hH.1]
  refine kk l G p e R s m args below meth cd H2 locs (cells + 1) (slots + len) ls hC (hH.born z1 o1 (by decide) ?_) ⟨Nat.le_trans hS.1 (by rw [hH.1, z1]; omega), fun q g1 g2 => (o1 q (by rw [← hH.1]; exact Nat.lt_of_lt_of_le g1 hS.1)).trans (hS.2.1 q g1 g2), hS.2.2⟩ (by omega) (by omega) hl
  have e2 : (sNew S 117 len).1 S.2.2 = (117, len) := by simp [sNew]
  obtain ⟨kA2, comp2, k1, k2, k3, k4⟩ := (hK.2 6 _ rfl).2
  have e3 : cA = gA G 117 := Option.some.inj (f1.symm.trans k4)
  unfold vCel
  rw [e2, if_neg (by show ¬ 117 < 13; decide), e1, e3]
  congr 2
  funext j
  rw [vMem_born]
  rfl
theorem Vw.anew8 {i : Int32} (hd : decode mi.2.1 pc = .ok (.anewarray idx, 3)) (hw : Cond.classLink mi.1.cls idx RX8 ∈ vTs) (hi : i.toNatClampNeg = len ∧ ¬ i < 0 ∧ len ≤ 60000) (hn : pc + 3 = n) (kk : Vw mi d mc ms cr sr Q n lv (.ref S.2.2 :: st) (sNew S 118 len) (zNew I S.2.2) (zNl L S.2.2)) : Vw mi d mc ms (cr + 1) (sr + len) Q pc lv (.int i :: st) S I L := by
  subst hn
  intro l G p e R s m args below meth cd H locs cells slots ls hC hH hS h1 h2 hl
  have hts := hC.2.2.2.2.2.2.1
  have hK := hC.2.2.2.2.2.2.2.2.1.1
  have hb := hH.2.1
  refine W.anew hC.1 hC.2.1 hC.2.2.2.2.2.1 (hts _ hw) (va_AO.use (hC.2.2.2.2.2.2.2.2.1.2.2.1 RX8 (by simp))) rfl hd rfl hi.2.1 (by rw [hi.1]; have := hi.2.2; omega) (by have := hC.2.2.2.2.2.2.2.2.2.2.2.2.2.1; omega) (by rw [hi.1]; have := hC.2.2.2.2.2.2.2.2.2.2.2.2.2.2; omega) fun cA kA comp f1 f2 f3 f4 => ?_
  rw [hi.1, arrV_new]
  generalize hH2 : H.push (arrV cA len (fun _ => .null)) = H2
  have z1 : H2.size = S.2.2 + 1 := by rw [← hH2, Array.size_push, hH.1]
  have e1 : H2[S.2.2]? = some (arrV cA len (fun _ => .null)) := by rw [← hH2, ← hH.1, Array.getElem?_push_size]
  have o1 : ∀ q : Nat, q < S.2.2 → H2[q]? = H[q]? := fun q hq => by rw [← hH2, Array.getElem?_push, if_neg (by rw [hH.1]; exact Nat.ne_of_lt hq)]
  rw [hH.1]
  refine kk l G p e R s m args below meth cd H2 locs (cells + 1) (slots + len) ls hC (hH.born z1 o1 (by decide) ?_) ⟨Nat.le_trans hS.1 (by rw [hH.1, z1]; omega), fun q g1 g2 => (o1 q (by rw [← hH.1]; exact Nat.lt_of_lt_of_le g1 hS.1)).trans (hS.2.1 q g1 g2), hS.2.2⟩ (by omega) (by omega) hl
  have e2 : (sNew S 118 len).1 S.2.2 = (118, len) := by simp [sNew]
  obtain ⟨kA2, comp2, k1, k2, k3, k4⟩ := (hK.2 7 _ rfl).2
  have e3 : cA = gA G 118 := Option.some.inj (f1.symm.trans k4)
  unfold vCel
  rw [e2, if_neg (by show ¬ 118 < 13; decide), e1, e3]
  congr 2
  funext j
  rw [vMem_born]
  rfl
theorem Vw.anew9 {i : Int32} (hd : decode mi.2.1 pc = .ok (.anewarray idx, 3)) (hw : Cond.classLink mi.1.cls idx RX9 ∈ vTs) (hi : i.toNatClampNeg = len ∧ ¬ i < 0 ∧ len ≤ 60000) (hn : pc + 3 = n) (kk : Vw mi d mc ms cr sr Q n lv (.ref S.2.2 :: st) (sNew S 119 len) (zNew I S.2.2) (zNl L S.2.2)) : Vw mi d mc ms (cr + 1) (sr + len) Q pc lv (.int i :: st) S I L := by
  subst hn
  intro l G p e R s m args below meth cd H locs cells slots ls hC hH hS h1 h2 hl
  have hts := hC.2.2.2.2.2.2.1
  have hK := hC.2.2.2.2.2.2.2.2.1.1
  have hb := hH.2.1
  refine W.anew hC.1 hC.2.1 hC.2.2.2.2.2.1 (hts _ hw) (va_AO.use (hC.2.2.2.2.2.2.2.2.1.2.2.1 RX9 (by simp))) rfl hd rfl hi.2.1 (by rw [hi.1]; have := hi.2.2; omega) (by have := hC.2.2.2.2.2.2.2.2.2.2.2.2.2.1; omega) (by rw [hi.1]; have := hC.2.2.2.2.2.2.2.2.2.2.2.2.2.2; omega) fun cA kA comp f1 f2 f3 f4 => ?_
  rw [hi.1, arrV_new]
  generalize hH2 : H.push (arrV cA len (fun _ => .null)) = H2
  have z1 : H2.size = S.2.2 + 1 := by rw [← hH2, Array.size_push, hH.1]
  have e1 : H2[S.2.2]? = some (arrV cA len (fun _ => .null)) := by rw [← hH2, ← hH.1, Array.getElem?_push_size]
  have o1 : ∀ q : Nat, q < S.2.2 → H2[q]? = H[q]? := fun q hq => by rw [← hH2, Array.getElem?_push, if_neg (by rw [hH.1]; exact Nat.ne_of_lt hq)]
  rw [hH.1]
  refine kk l G p e R s m args below meth cd H2 locs (cells + 1) (slots + len) ls hC (hH.born z1 o1 (by decide) ?_) ⟨Nat.le_trans hS.1 (by rw [hH.1, z1]; omega), fun q g1 g2 => (o1 q (by rw [← hH.1]; exact Nat.lt_of_lt_of_le g1 hS.1)).trans (hS.2.1 q g1 g2), hS.2.2⟩ (by omega) (by omega) hl
  have e2 : (sNew S 119 len).1 S.2.2 = (119, len) := by simp [sNew]
  obtain ⟨kA2, comp2, k1, k2, k3, k4⟩ := (hK.2 8 _ rfl).2
  have e3 : cA = gA G 119 := Option.some.inj (f1.symm.trans k4)
  unfold vCel
  rw [e2, if_neg (by show ¬ 119 < 13; decide), e1, e3]
  congr 2
  funext j
  rw [vMem_born]
  rfl
end HEAPB
