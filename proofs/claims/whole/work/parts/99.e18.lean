/-! null stored in an array of scripts -/
section AASTN
variable {p : Program} {l : Launch} {e : Env} {R : Room} {s : State} {m : MethodId} {args : Array Value} {below : List Frame} {meth : Method} {c : Code} {T : State} {locs : List Loc} {cells slots : Nat}
theorem nullIn (X : Stand p l e R s m args below meth c T locs cells slots) (hexec : p.tables.exec = Jvm.exec) {a : Addr} {cell : Cell} {j : Int32} {k : Class} {comp : ClassId} {t : FieldType} (hcell : T.heap[a]? = some cell) (hobj : ∀ q, cell.vm ≠ .statics q) (hknown : cell.vm ≠ .unknown) (hk : s.vm.classes[cell.cls]? = some k) (hkind : k.kind = .array comp t) (href : t.isReference = true) (hin : ¬ j < 0 ∧ j.toNatClampNeg < cell.slots.size) {g : JFrame} (hg : g.method = m) {rest : List Value} (hstack : g.stack = .null :: .int j :: .ref a :: rest) (hdg : decode c.code g.pc = .ok (.aastore, 1)) : Stand p l e R s m args below meth c (T.setCell a (cell.setSlot j.toNatClampNeg .null)) (locs ++ [⟨a, j.toNatClampNeg⟩]) cells slots ∧ ∀ target, Steps p.tables e below ((T.setCell a (cell.setSlot j.toNatClampNeg .null)).setTop { g with pc := g.pc + 1, stack := rest }) target → Steps p.tables e below (T.setTop g) target := by
  obtain ⟨k2, hk2, e2⟩ := X.warmed.alike.2.2 _ _ hk
  have kd : k2.kind = .array comp t := by rw [e2]; exact hkind
  have fit : T.fitsSlot cell.cls cell.vm j.toNatClampNeg .null = true := by
    cases hv : cell.vm with
    | none => simp [State.fitsSlot, State.slotType?, hk2, kd]; cases t <;> first | rfl | (simp [FieldType.isReference] at href)
    | statics q => exact absurd hv (hobj q)
    | unknown => exact absurd hv hknown
    | _ => simp [State.fitsSlot, State.slotType?, hk2, kd]; cases t <;> first | rfl | (simp [FieldType.isReference] at href)
  refine ⟨X.stored hcell _ _, fun target hr => ?_⟩
  subst hg
  jvm_step X.here [hexec, hdg, aastore.wp_null (e := e) (s := T) (f := g) X.here.top hstack hcell hobj hknown hk2 kd hin.1 hin.2]
  exact ⟨fit, hr⟩
end AASTN
theorem W.aastN {p : Program} {l : Launch} {e : Env} {R : Room} {s : State} {m : MethodId} {args : Array Value} {below : List Frame} {meth : Method} {c : Code} {H : Heap} {locs : List Loc} {cells slots : Nat} {Q : _} {cc : ByteArray} (hexec : p.tables.exec = Jvm.exec) (hb : c.code = cc) {a : Addr} {cell : Cell} {j : Int32} {k : Class} {comp : ClassId} {t : FieldType} (hcell : H[a]? = some cell) (hobj : ∀ q, cell.vm ≠ .statics q) (hknown : cell.vm ≠ .unknown) (hk : s.vm.classes[cell.cls]? = some k) (hkind : k.kind = .array comp t) (href : t.isReference = true) (hin : ¬ j < 0 ∧ j.toNatClampNeg < cell.slots.size) {g : JFrame} (hg : g.method = m) {rest : List Value} (hstack : g.stack = .null :: .int j :: .ref a :: rest) (hdg : decode cc g.pc = .ok (.aastore, 1)) (kk : ∀ H' : Heap, H'[a]? = some (cell.setSlot j.toNatClampNeg .null) → H'.size = H.size → (∀ q, q ≠ a → H'[q]? = H[q]?) → W p l e R s m args below meth c H' (locs ++ [⟨a, j.toNatClampNeg⟩]) cells slots Q { g with pc := g.pc + 1, stack := rest }) : W p l e R s m args below meth c H locs cells slots Q g := by
  intro T hT X
  have hT2 : T.heap[a]? = some cell := by rw [hT]; exact hcell
  obtain ⟨X2, st⟩ := nullIn X hexec hT2 hobj hknown hk hkind href hin hg hstack (by rw [hb]; exact hdg)
  have hlt : a < T.heap.size := (Array.getElem?_eq_some_iff.mp hT2).1
  obtain ⟨t2, a1, b1⟩ := kk _ (heapAt_setCell_self _ hlt) (by rw [size_setCell, hT]) (fun q hq => by rw [heapAt_setCell_ne _ (Ne.symm hq), hT]) (T.setCell a (cell.setSlot j.toNatClampNeg .null)) rfl X2
  exact ⟨t2, st t2 a1, b1⟩
section AAST7N
variable {mi : vM} {d mc ms cr sr pc n a len : Nat} {Q : Option Value → vS → vI → vL → Prop} {lv : List (Nat × Value)} {st : List Value} {S : vS} {I : vI} {L : vL}
theorem Vw.aast7N {i : Int32} {j : Nat} (hd : decode mi.2.1 pc = .ok (.aastore, 1)) (hs : S.1 a = (117, len)) (hi : vIx i j len) (hn : pc + 1 = n) (kk : Vw mi d mc ms cr sr Q n lv st (sUp S a j none) I L) : Vw mi d mc ms cr sr Q pc lv (.null :: .int i :: .ref a :: st) S I L := by
  subst hn
  intro l G p e R s m args below meth cd H locs cells slots ls hC hH hS h1 h2 hl
  have hba : gB G ≤ a := (hH.2.2.1 a (by rw [hs]; show 117 < 200; decide)).1
  have hK := hC.2.2.2.2.2.2.2.2.1.1
  obtain ⟨kA, comp, k1, k2, k3, -⟩ := (hK.2 6 _ rfl).2
  refine W.aastN hC.1 hC.2.1 (hH.arr hs (by decide) (by decide)) (fun q h => by cases h) (fun h => by cases h) k1 k2 rfl ⟨hi.2.2, by show _ < (arrV _ _ _).slots.size; rw [arrV_size, hi.1]; exact hi.2.1⟩ rfl rfl hd fun H2 e1 z1 o1 => ?_
  refine kk l G p e R s m args below meth cd H2 _ cells slots ls hC (hH.put (a := a) (k := j) (v := va_rf none) hba rfl rfl (vMem_upR (c := 117) (by rw [hs]) rfl) z1 o1 (fun _ => ?_)) (hS.put z1 o1 hba) h1 h2 hl
  unfold vCel
  rw [show (sUp S a j none).1 = S.1 from rfl, hs, if_neg (by show ¬ 117 < 13; decide)]
  rw [e1, arrV_store]
  congr 2
  funext q
  rw [vMem_upR (c := 117) (by rw [hs]) rfl, hi.1]
  by_cases hq : q = j
  · subst hq; simp [updV, va_rf]
  · simp [updV, hq]
end AAST7N
