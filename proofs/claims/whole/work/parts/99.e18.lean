/-! null stored in an array of scripts -/
section AASTN
variable {p : Program} {l : Launch} {e : Env} {R : Room} {s : State} {m : MethodId} {args : Array Value} {below : List Frame} {meth : Method} {c : Code} {T : State} {locs : List Loc} {cells slots : Nat}
theorem nullIn (X : Stand p l e R s m args below meth c T locs cells slots) (hexec : p.tables.exec = Jvm.exec) {a : Addr} {cell : Cell} {j : Int32} {k : Class} {comp : ClassId} {t : FieldType} (hcell : T.heap[a]? = some cell) (hobj : ∀ q, cell.vm ≠ .statics q) (hknown : cell.vm ≠ .unknown) (hk : s.vm.classes[cell.cls]? = some k) (hkind : k.kind = .array comp t) (href : t.isReference = true) (hin : ¬ j < 0 ∧ j.toNatClampNeg < cell.slots.size) {g : JFrame} (hg : g.method = m) {rest : List Value} (hstack : g.stack = .null :: .int j :: .ref a :: rest) (hdg : decode c.code g.pc = .ok (.aastore, 1)) : Stand p l e R s m args below meth c (T.setCell a (cell.setSlot j.toNatClampNeg .null)) (locs ++ [⟨a, j.toNatClampNeg⟩]) cells slots ∧ ∀ target, Steps p.tables e below ((T.setCell a (cell.setSlot j.toNatClampNeg .null)).setTop { g with pc := g.pc + 1, stack := rest }) target → Steps p.tables e below (T.setTop g) target := by
  obtain ⟨k2, hk2, e2⟩ := X.warmed.alike.2.2 _ _ hk
  have kd : k2.kind = .array comp t := by rw [e2]; exact hkind
  have fit : T.fitsSlot cell.cls cell.vm j.toNatClampNeg .null = true := by
    cases hv : cell.vm with
    | none => simp [State.fitsSlot, State.slotType?, hk2, kd]; cases t <;> first | rfl | (simp [FieldType.isReference] at href)
    | statics q => exact absurd hv (hobj q)
    | unknown => exact absurd hv hknown
    | _ => simp [State.fitsSlot, State.slotType?, hk2, kd]; cases t <;> first | rfl | (simp [FieldType.isReference] at href)
  refine ⟨X.stored hcell _ _, fun target hr => ?_⟩
  subst hg
  jvm_step X.here [hexec, hdg, aastore.wp_null (e := e) (s := T) (f := g) X.here.top hstack hcell hobj hknown hk2 kd hin.1 hin.2]
  exact ⟨fit, hr⟩
end AASTN
