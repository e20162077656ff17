/-! The walking judgement over a typed flat memory. S: kinds and lengths of cells, references, the heap's size; I: ints by cell and place; L: longs. -/
abbrev vSh : Type := Nat → Nat × Nat
abbrev vRf : Type := Nat → Nat → Option Nat
abbrev vS : Type := vSh × vRf × Nat
abbrev vI : Type := Nat → Nat → Int32
abbrev vL : Type := Nat → Nat → Int64
abbrev vM : Type := MethodName × ByteArray × Nat × Option FieldType
/-- what is fixed in one run: class numbers, slots, array classes; base, the heap below it; the script; the texts' cells -/
abbrev vG : Type := ((Nat → ClassId) × (Nat → Nat → Nat) × (Nat → ClassId)) × (Nat × Heap) × (Nat × Nat × (Nat → Int32)) × ((Nat → Nat) × (Nat → Nat))
def gC (G : vG) : Nat → ClassId := G.1.1
def gI (G : vG) : Nat → Nat → Nat := G.1.2.1
def gA (G : vG) : Nat → ClassId := G.1.2.2
def gB (G : vG) : Nat := G.2.1.1
def gH (G : vG) : Heap := G.2.1.2
def gScr (G : vG) : Nat := G.2.2.1.1
def gLen (G : vG) : Nat := G.2.2.1.2.1
def gXs (G : vG) : Nat → Int32 := G.2.2.1.2.2
def gKs (G : vG) : Nat → Nat := G.2.2.2.1
def gVs (G : vG) : Nat → Nat := G.2.2.2.2
abbrev gAb (G : vG) : Nat → Prop := fun q => gB G ≤ q
def vTs : List Cond := lw_tbl.filter goodWord
theorem vTs_in {i : Nat} {w : Cond} (h : lw_tbl[i]? = some w) (hg : goodWord w = true) : w ∈ vTs := List.mem_filter.mpr ⟨List.mem_of_getElem? h, hg⟩
theorem vTs_good : GoodIn vTs vTs := fun w hw => ⟨hw, good_of_word (List.mem_filter.mp hw).2⟩
-- the classes by number
def vR : Nat → String := fun c => match c with
  | 0 => RX0 | 1 => RX1 | 2 => RX2 | 3 => RX3 | 4 => RX4 | 5 => RX5 | 6 => RX6 | 7 => RX7 | 8 => RX8 | 9 => RX9 | 10 => RX10 | 11 => RX11 | _ => RX12
def vT : Nat → u_T := fun c => match c with
  | 0 => TX0 | 1 => TX1 | 2 => TX2 | 3 => TX3 | 4 => TX4 | 5 => TX5 | 6 => TX6 | 7 => TX7 | 8 => TX8 | 9 => TX9 | 10 => TX10 | 11 => TX11 | _ => TX12
def vN : Nat → Nat := fun c => match c with
  | 0 => 8 | 1 => 14 | 2 => 4 | 3 => 4 | 4 => 13 | 5 => 12 | 6 => 7 | 7 => 8 | 8 => 10 | 9 => 7 | 10 => 7 | 11 => 18 | _ => 57
def vTy : Nat → Nat → FieldType := fun c => match c with
  | 0 => tyX0 | 1 => tyX1 | 2 => tyX2 | 3 => tyX3 | 4 => tyX4 | 5 => tyX5 | 6 => tyX6 | 7 => tyX7 | 8 => tyX8 | 9 => tyX9 | 10 => tyX10 | 11 => tyX11 | _ => tyX12
def vTc (t : FieldType) : Nat := match t with
  | .long => 1 | .object _ => 2 | .array _ => 2 | _ => 0
/-- what a place of a cell of a kind holds: 0 an int, 1 a long, 2 a reference -/
def vTk (kd k : Nat) : Nat := if kd < 13 then vTc (vTy kd k) else if kd = 103 then 1 else if kd < 110 then 0 else if kd = 400 then 0 else 2
theorem vCl_at {c : Nat} (h : c < 13) : vwCl[c]? = some (vR c, vT c, vN c) := by
  match c, h with
  | 0, _ => rfl | 1, _ => rfl | 2, _ => rfl | 3, _ => rfl | 4, _ => rfl | 5, _ => rfl | 6, _ => rfl | 7, _ => rfl | 8, _ => rfl | 9, _ => rfl | 10, _ => rfl | 11, _ => rfl | 12, _ => rfl
theorem vTy_ok {c : Nat} (h : c < 13) : ∀ k, k < vN c → parseFieldDescriptor (vT c k).2.2.1 = some (vTy c k) := by
  match c, h with
  | 0, _ => exact tyX0_ok | 1, _ => exact tyX1_ok | 2, _ => exact tyX2_ok | 3, _ => exact tyX3_ok | 4, _ => exact tyX4_ok | 5, _ => exact tyX5_ok | 6, _ => exact tyX6_ok | 7, _ => exact tyX7_ok | 8, _ => exact tyX8_ok | 9, _ => exact tyX9_ok | 10, _ => exact tyX10_ok | 11, _ => exact tyX11_ok | 12, _ => exact tyX12_ok
theorem vNm_ok {c : Nat} (h : c < 13) : ∀ a, a < vN c → ∀ b, b < vN c → a ≠ b → (vT c a).2.1 ≠ (vT c b).2.1 := by
  match c, h with
  | 0, _ => exact nmX0 | 1, _ => exact nmX1 | 2, _ => exact nmX2 | 3, _ => exact nmX3 | 4, _ => exact nmX4 | 5, _ => exact nmX5 | 6, _ => exact nmX6 | 7, _ => exact nmX7 | 8, _ => exact nmX8 | 9, _ => exact nmX9 | 10, _ => exact nmX10 | 11, _ => exact nmX11 | 12, _ => exact nmX12
-- array kinds: 100 int, 101 boolean, 102 byte, 103 long, 110 + c of class c
def vTys (G : vG) : List (ClassId × FieldType) := [(gA G 100, .int), (gA G 101, .boolean), (gA G 102, .byte), (gA G 103, .long), (gA G 110, .object RX0), (gA G 113, .object RX3), (gA G 117, .object RX7), (gA G 118, .object RX8), (gA G 119, .object RX9)]
def vMem (S : vS) (I : vI) (L : vL) (a k : Nat) : Value := match vTk (S.1 a).1 k with
  | 0 => .int (I a k) | 1 => .long (L a k) | _ => va_rf (S.2.1 a k)
def vCel (G : vG) (S : vS) (I : vI) (L : vL) (a : Nat) (H : Heap) : Prop :=
  if (S.1 a).1 < 13 then t_OB a (gC G (S.1 a).1) (vN (S.1 a).1) (gI G (S.1 a).1) H (vMem S I L a) else H[a]? = some (arrV (gA G (S.1 a).1) (S.1 a).2 (vMem S I L a))
/-- where a text's bytes lie (beside what else may lie there) -/
def vBy (q : Nat × Nat) (i : Nat) : Prop := 200 ≤ q.1 ∧ q.1 < 400 ∧ q.2 = 320 + i
/-- what lay there before: kind 300 + i: the i-th text, 320 + i: its bytes; kind 400: the script -/
def vOld (G : vG) (S : vS) (I : vI) (L : vL) (a : Nat) : Prop := (∀ i, i < 11 → (S.1 a).1 = 300 + i → a = gKs G i) ∧ (∀ i, i < 11 → vBy (S.1 a) i → a = gVs G i) ∧ ((S.1 a).1 = 400 → a < gB G ∧ a = gScr G ∧ (S.1 a).2 = gLen G ∧ ∀ k, vMem S I L a k = .int (gXs G k))
def Hx (G : vG) (S : vS) (I : vI) (L : vL) (H : Heap) : Prop :=
  H.size = S.2.2 ∧ gB G ≤ S.2.2 ∧ (∀ a, (S.1 a).1 < 200 → gB G ≤ a ∧ a < S.2.2 ∧ vCel G S I L a H) ∧ (∀ q, q < gB G → H[q]? = (gH G)[q]?) ∧ ∀ a, vOld G S I L a
-- words that are not of the plain kind
def vNst : List Cond := [.methodLinkNest RX11 11 yX8_init RX11, .methodLinkNest RX9 30 yX3_init RX11, .methodLinkNest RX9 31 yX0_init RX11, .methodLinkNest RX4 11 yX3_init RX11, .methodLinkNest RX11 52 yX5_init RX11, .methodLinkNest RX6 43 yX11_nearest RX11, .methodLinkNest RX4 159 yX11_nearest RX11, .methodLinkNest RX1 59 yX11_nearest RX11]
def vSt : List (Nat × String) := [(91, "feed hand hem button quarter"), (93, "grows widens cloth pays bars"), (168, "now done paid long wide"), (170, "person age fed long wide tailor quarter mood"), (134, "by"), (136, "to"), (118, "times"), (126, "if"), (154, "not"), (152, "and"), (141, "or")]
def vStx (i : Nat) : String := (vSt.getD i (0, "")).2
def vSlen : List Nat := [28, 28, 23, 44, 2, 2, 5, 2, 3, 3, 2]
def vSby : List (List Int32) := [[102, 101, 101, 100, 32, 104, 97, 110, 100, 32, 104, 101, 109, 32, 98, 117, 116, 116, 111, 110, 32, 113, 117, 97, 114, 116, 101, 114], [103, 114, 111, 119, 115, 32, 119, 105, 100, 101, 110, 115, 32, 99, 108, 111, 116, 104, 32, 112, 97, 121, 115, 32, 98, 97, 114, 115], [110, 111, 119, 32, 100, 111, 110, 101, 32, 112, 97, 105, 100, 32, 108, 111, 110, 103, 32, 119, 105, 100, 101], [112, 101, 114, 115, 111, 110, 32, 97, 103, 101, 32, 102, 101, 100, 32, 108, 111, 110, 103, 32, 119, 105, 100, 101, 32, 116, 97, 105, 108, 111, 114, 32, 113, 117, 97, 114, 116, 101, 114, 32, 109, 111, 111, 100], [98, 121], [116, 111], [116, 105, 109, 101, 115], [105, 102], [110, 111, 116], [97, 110, 100], [111, 114]]
/-- what the tables and the constants say at a state -/
def Kx (G : vG) (s : State) : Prop :=
  va_K (gC G, gI G) vwCl (vTys G) s ∧ (∀ w ∈ vNst, va_Nw w s) ∧ (∀ c ∈ [RX0, RX3, RX7, RX8, RX9], va_AO c s) ∧ (∀ i, i < 11 → vk_R RX5 (vSt.getD i (0, "")).1 (vStx i) (gKs G i) s) ∧
  vk_S 11 vSlen vSby (gKs G) (gVs G) (gAb G) s (gH G) ∧ va_Z "java/lang/String" "COMPACT_STRINGS" "Z" (.int 1) (gAb G) s (gH G) ∧ va_X (gScr G) (gLen G) (gXs G) s (gH G) ∧ gScr G < gB G ∧ gB G = (gH G).size ∧ va_Zq "jdk/internal/util/Preconditions" "SIOOBE_FORMATTER" "Ljava/util/function/BiFunction;" (gAb G) s (gH G)
theorem Kx.warm {G : vG} {s U : State} (hW : s.WarmedH U.vm) (h : Kx G s) : Kx G U := by
  obtain ⟨h1, h2, h3, h4, h5, h6, h7, h8, h8b, h8c⟩ := h
  refine ⟨va_K.moved hW.alike h1, fun w hw => ?_, fun c hc => va_AO.moved hW.alike (h3 c hc), fun i hi => vk_R.warm hW (h4 i hi), vk_S.moved hW.alike h5, va_Z.moved hW.alike h6, va_X.moved hW.alike h7, h8, h8b, va_Zq.moved hW.alike h8c⟩
  have h9 := h2 w hw
  simp only [vNst, List.mem_cons, List.not_mem_nil, or_false] at hw
  rcases hw with rfl | rfl | rfl | rfl | rfl | rfl | rfl | rfl <;> exact va_Nw.warmM hW h9
def vRm (d mc ms : Nat) : Room := { frames := d, cells := mc, slots := ms, locals := 48 * d }
def vWs (mi : vM) : List Cond := .code mi.1 mi.2.1 mi.2.2.1 mi.2.2.2 :: vTs
def vQc (G : vG) (Q : Option Value → vS → vI → vL → Prop) : Array Value → State → Outcome → State → Prop := fun _ st oc t =>
  (∃ (v : Option Value) (S : vS) (I : vI) (L : vL), oc = .returned v ∧ Q v S I L ∧ Hx G S I L t.heap) ∧ va_F (gAb G) st t
def Cx (mi : vM) (d mc ms : Nat) (G : vG) (p : Program) (R : Room) (s : State) (m : MethodId) (args : Array Value) (meth : Method) (c : Code) : Prop :=
  p.tables.exec = Jvm.exec ∧ c.code = mi.2.1 ∧ c.maxLocals = mi.2.2.1 ∧ meth.sig.returnType = mi.2.2.2 ∧ meth.locks = false ∧ s.vm.findClass mi.1.cls = some m.cls ∧ (∀ w ∈ vTs, w.before args s = true) ∧ meth.name = mi.1.name ∧ Kx G s ∧ gB G ≤ s.heap.size ∧ (∀ q, q < gB G → s.heap[q]? = (gH G)[q]?) ∧ d ≤ R.frames ∧ 48 * d ≤ R.locals ∧ mc ≤ R.cells ∧ ms ≤ R.slots
/-- THE JUDGEMENT: from pc, with these locals, this stack, this memory, the method comes to an end with Q; d frames, mc cells, ms slots are its room, cr and sr of them are left -/
def Vw (mi : vM) (d mc ms cr sr : Nat) (Q : Option Value → vS → vI → vL → Prop) (pc : Nat) (lv : List (Nat × Value)) (st : List Value) (S : vS) (I : vI) (L : vL) : Prop :=
  ∀ (l : Launch) (G : vG) (p : Program) (e : Env) (R : Room) (s : State) (m : MethodId) (args : Array Value) (below : List Frame) (meth : Method) (c : Code) (H : Heap) (locs : List Loc) (cells slots : Nat) (ls : Array Slot),
    Cx mi d mc ms G p R s m args meth c → Hx G S I L H → va_S (gAb G) s.heap H locs → cells + cr ≤ mc → slots + sr ≤ ms → lv_has ls mi.2.2.1 lv →
    W p l e R s m args below meth c H locs cells slots (MQ below (vQc G Q) args s mc ms (gAb G)) (F0 m pc ls st)
/-- a method's contract -/
def Vc (mi : vM) (d mc ms : Nat) (av : List Value) (S : vS) (I : vI) (L : vL) (Q : Option Value → vS → vI → vL → Prop) : Prop :=
  ∀ (l : Launch) (G : vG), Met l mi.1 (vWs mi) (vRm d mc ms) (va_Pc av (fun U => Hx G S I L U.heap ∧ Kx G U)) (vQc G Q) mc ms (gAb G)
theorem Vc.of {mi : vM} {d mc ms : Nat} {av : List Value} {S : vS} {I : vI} {L : vL} {Q : Option Value → vS → vI → vL → Prop} (hy : plainName mi.1.cls = true) (he : (lg_sl av).length ≤ mi.2.2.1)
    (h : Vw mi d mc ms mc ms Q 0 (lv_args 0 av) [] S I L) : Vc mi d mc ms av S I L Q := by
  intro l G
  refine Met.ofW (cc := mi.2.1) (maxL := mi.2.2.1) (ret := mi.2.2.2) hy rfl ?_
  intro p e s m args below meth c s₁ B hml hv
  obtain ⟨rfl, hH, hK⟩ := hv
  have hts := atoms_spec (ws := vWs mi) B.pre
  have hb : gB G ≤ s.heap.size := by rw [hH.1]; exact hH.2.1
  have C : Cx mi d mc ms G p (vRm d mc ms) s m av.toArray meth c := ⟨B.exec, B.bytes, hml, B.returns, B.notSynchronized, findClass_of_methodNamed B.named, fun w hw => hts w (List.mem_cons_of_mem _ hw), (name_of_methodNamed B.named B.method).1, hK, hb, hH.2.2.2.1, Nat.le_refl _, Nat.le_refl _, Nat.le_refl _, Nat.le_refl _⟩
  have hl := lv_entry av (n := mi.2.2.1) he
  rw [lg_entry_eq]
  exact h l G p e (vRm d mc ms) s m av.toArray below meth c s.heap [] 0 0 _ C hH va_S.rf (by omega) (by omega) hl
section CALC
variable {mi : vM} {d mc ms cr sr : Nat} {Q : Option Value → vS → vI → vL → Prop} {pc n : Nat} {lv lv2 : List (Nat × Value)} {st : List Value} {S : vS} {I : vI} {L : vL}
theorem Vw.iconst {z : Int} {v : Int32} (hd : decode mi.2.1 pc = .ok (.iconst z, 1)) (hv : Int32.ofInt z = v) (hn : pc + 1 = n) (k : Vw mi d mc ms cr sr Q n lv (.int v :: st) S I L) : Vw mi d mc ms cr sr Q pc lv st S I L := by
  subst hn
  intro l G p e R s m args below meth c H locs cells slots ls hC hH hS h1 h2 hl
  exact lv_iconst hC.1 hC.2.1 hd hv (k l G p e R s m args below meth c H locs cells slots ls hC hH hS h1 h2 hl)
theorem Vw.bipush {z : Int} {v : Int32} (hd : decode mi.2.1 pc = .ok (.bipush z, 2)) (hv : (Int8.ofInt z).toInt32 = v) (hn : pc + 2 = n) (k : Vw mi d mc ms cr sr Q n lv (.int v :: st) S I L) : Vw mi d mc ms cr sr Q pc lv st S I L := by
  subst hn
  intro l G p e R s m args below meth c H locs cells slots ls hC hH hS h1 h2 hl
  exact lv_bipush hC.1 hC.2.1 hd hv (k l G p e R s m args below meth c H locs cells slots ls hC hH hS h1 h2 hl)
theorem Vw.sipush {z : Int} {v : Int32} (hd : decode mi.2.1 pc = .ok (.sipush z, 3)) (hv : (Int16.ofInt z).toInt32 = v) (hn : pc + 3 = n) (k : Vw mi d mc ms cr sr Q n lv (.int v :: st) S I L) : Vw mi d mc ms cr sr Q pc lv st S I L := by
  subst hn
  intro l G p e R s m args below meth c H locs cells slots ls hC hH hS h1 h2 hl
  exact lv_sipush hC.1 hC.2.1 hd hv (k l G p e R s m args below meth c H locs cells slots ls hC hH hS h1 h2 hl)
theorem Vw.lconst {z : Fin 2} {v : Int64} (hd : decode mi.2.1 pc = .ok (.lconst z, 1)) (hv : Int64.ofNat (z : Nat) = v) (hn : pc + 1 = n) (k : Vw mi d mc ms cr sr Q n lv (.long v :: st) S I L) : Vw mi d mc ms cr sr Q pc lv st S I L := by
  subst hn
  intro l G p e R s m args below meth c H locs cells slots ls hC hH hS h1 h2 hl
  exact lv_lconst hC.1 hC.2.1 hd hv (k l G p e R s m args below meth c H locs cells slots ls hC hH hS h1 h2 hl)
theorem Vw.ldc {z : Nat} {v : Int32} (hd : decode mi.2.1 pc = .ok (.ldc z, 2)) (hw : Cond.constant mi.1.cls z v ∈ vTs) (hn : pc + 2 = n) (k : Vw mi d mc ms cr sr Q n lv (.int v :: st) S I L) : Vw mi d mc ms cr sr Q pc lv st S I L := by
  subst hn
  intro l G p e R s m args below meth c H locs cells slots ls hC hH hS h1 h2 hl
  exact lv_ldc hC.1 hC.2.1 hC.2.2.2.2.2.1 (hC.2.2.2.2.2.2.1 _ hw) hd (k l G p e R s m args below meth c H locs cells slots ls hC hH hS h1 h2 hl)
theorem Vw.ldcw {z : Nat} {v : Int32} (hd : decode mi.2.1 pc = .ok (.ldc_w z, 3)) (hw : Cond.constant mi.1.cls z v ∈ vTs) (hn : pc + 3 = n) (k : Vw mi d mc ms cr sr Q n lv (.int v :: st) S I L) : Vw mi d mc ms cr sr Q pc lv st S I L := by
  subst hn
  intro l G p e R s m args below meth c H locs cells slots ls hC hH hS h1 h2 hl
  exact lv_ldcw hC.1 hC.2.1 hC.2.2.2.2.2.1 (hC.2.2.2.2.2.2.1 _ hw) hd (k l G p e R s m args below meth c H locs cells slots ls hC hH hS h1 h2 hl)
theorem Vw.ldc2 {z : Nat} {v : Int64} (hd : decode mi.2.1 pc = .ok (.ldc2_w z, 3)) (hw : Cond.constantLong mi.1.cls z v ∈ vTs) (hn : pc + 3 = n) (k : Vw mi d mc ms cr sr Q n lv (.long v :: st) S I L) : Vw mi d mc ms cr sr Q pc lv st S I L := by
  subst hn
  intro l G p e R s m args below meth c H locs cells slots ls hC hH hS h1 h2 hl
  exact lv_ldc2 hC.1 hC.2.1 hC.2.2.2.2.2.1 (hC.2.2.2.2.2.2.1 _ hw) hd (k l G p e R s m args below meth c H locs cells slots ls hC hH hS h1 h2 hl)
theorem Vw.null  (hd : decode mi.2.1 pc = .ok (.aconst_null, 1))  (hn : pc + 1 = n) (k : Vw mi d mc ms cr sr Q n lv (.null :: st) S I L) : Vw mi d mc ms cr sr Q pc lv st S I L := by
  subst hn
  intro l G p e R s m args below meth c H locs cells slots ls hC hH hS h1 h2 hl
  exact lv_null hC.1 hC.2.1 hd (k l G p e R s m args below meth c H locs cells slots ls hC hH hS h1 h2 hl)
theorem Vw.iload_n {z : Fin 4} {x : Int32} (hd : decode mi.2.1 pc = .ok (.iload_n z, 1)) (q : Nat) (hq : lv[q]? = some ((z : Nat), .int x)) (hn : pc + 1 = n) (k : Vw mi d mc ms cr sr Q n lv (.int x :: st) S I L) : Vw mi d mc ms cr sr Q pc lv st S I L := by
  subst hn
  intro l G p e R s m args below meth c H locs cells slots ls hC hH hS h1 h2 hl
  exact lv_iload_n hC.1 hC.2.1 hd rfl (lv_at hl q hq) (k l G p e R s m args below meth c H locs cells slots ls hC hH hS h1 h2 hl)
theorem Vw.iload {i : Nat} {x : Int32} (hd : decode mi.2.1 pc = .ok (.iload i, 2)) (q : Nat) (hq : lv[q]? = some (i, .int x)) (hn : pc + 2 = n) (k : Vw mi d mc ms cr sr Q n lv (.int x :: st) S I L) : Vw mi d mc ms cr sr Q pc lv st S I L := by
  subst hn
  intro l G p e R s m args below meth c H locs cells slots ls hC hH hS h1 h2 hl
  exact lv_iload hC.1 hC.2.1 hd (lv_at hl q hq) (k l G p e R s m args below meth c H locs cells slots ls hC hH hS h1 h2 hl)
theorem Vw.lload_n {z : Fin 4} {x : Int64} (hd : decode mi.2.1 pc = .ok (.lload_n z, 1)) (q : Nat) (hq : lv[q]? = some ((z : Nat), .long x)) (hn : pc + 1 = n) (k : Vw mi d mc ms cr sr Q n lv (.long x :: st) S I L) : Vw mi d mc ms cr sr Q pc lv st S I L := by
  subst hn
  intro l G p e R s m args below meth c H locs cells slots ls hC hH hS h1 h2 hl
  exact lv_lload_n hC.1 hC.2.1 hd rfl (lv_at hl q hq) (k l G p e R s m args below meth c H locs cells slots ls hC hH hS h1 h2 hl)
theorem Vw.lload {i : Nat} {x : Int64} (hd : decode mi.2.1 pc = .ok (.lload i, 2)) (q : Nat) (hq : lv[q]? = some (i, .long x)) (hn : pc + 2 = n) (k : Vw mi d mc ms cr sr Q n lv (.long x :: st) S I L) : Vw mi d mc ms cr sr Q pc lv st S I L := by
  subst hn
  intro l G p e R s m args below meth c H locs cells slots ls hC hH hS h1 h2 hl
  exact lv_lload hC.1 hC.2.1 hd (lv_at hl q hq) (k l G p e R s m args below meth c H locs cells slots ls hC hH hS h1 h2 hl)
theorem Vw.aload_n {z : Fin 4} {x : Nat} (hd : decode mi.2.1 pc = .ok (.aload_n z, 1)) (q : Nat) (hq : lv[q]? = some ((z : Nat), .ref x)) (hn : pc + 1 = n) (k : Vw mi d mc ms cr sr Q n lv (.ref x :: st) S I L) : Vw mi d mc ms cr sr Q pc lv st S I L := by
  subst hn
  intro l G p e R s m args below meth c H locs cells slots ls hC hH hS h1 h2 hl
  exact lv_aload_n hC.1 hC.2.1 hd rfl (lv_at hl q hq) (k l G p e R s m args below meth c H locs cells slots ls hC hH hS h1 h2 hl)
theorem Vw.aload {i : Nat} {x : Nat} (hd : decode mi.2.1 pc = .ok (.aload i, 2)) (q : Nat) (hq : lv[q]? = some (i, .ref x)) (hn : pc + 2 = n) (k : Vw mi d mc ms cr sr Q n lv (.ref x :: st) S I L) : Vw mi d mc ms cr sr Q pc lv st S I L := by
  subst hn
  intro l G p e R s m args below meth c H locs cells slots ls hC hH hS h1 h2 hl
  exact lv_aload hC.1 hC.2.1 hd (lv_at hl q hq) (k l G p e R s m args below meth c H locs cells slots ls hC hH hS h1 h2 hl)
theorem Vw.aload_nN {z : Fin 4} (hd : decode mi.2.1 pc = .ok (.aload_n z, 1)) (q : Nat) (hq : lv[q]? = some ((z : Nat), .null)) (hn : pc + 1 = n) (k : Vw mi d mc ms cr sr Q n lv (.null :: st) S I L) : Vw mi d mc ms cr sr Q pc lv st S I L := by
  subst hn
  intro l G p e R s m args below meth c H locs cells slots ls hC hH hS h1 h2 hl
  exact lv_aload_nN hC.1 hC.2.1 hd rfl (lv_at hl q hq) (k l G p e R s m args below meth c H locs cells slots ls hC hH hS h1 h2 hl)
theorem Vw.aloadN {i : Nat} (hd : decode mi.2.1 pc = .ok (.aload i, 2)) (q : Nat) (hq : lv[q]? = some (i, .null)) (hn : pc + 2 = n) (k : Vw mi d mc ms cr sr Q n lv (.null :: st) S I L) : Vw mi d mc ms cr sr Q pc lv st S I L := by
  subst hn
  intro l G p e R s m args below meth c H locs cells slots ls hC hH hS h1 h2 hl
  exact lv_aloadN hC.1 hC.2.1 hd (lv_at hl q hq) (k l G p e R s m args below meth c H locs cells slots ls hC hH hS h1 h2 hl)
theorem Vw.istore_n {z : Fin 4} {i : Nat} {x : Int32} (hd : decode mi.2.1 pc = .ok (.istore_n z, 1)) (hi : (z : Nat) = i) (hm : i < mi.2.2.1) (is : List Nat) (hs : lv_pick ((i, Value.int x) :: lv.filter (fun q => !(q.1 == i) && !(q.1 + 1 == i && q.2.category == 2))) is = lv2) (hn : pc + 1 = n) (k : Vw mi d mc ms cr sr Q n lv2 st S I L) : Vw mi d mc ms cr sr Q pc lv (.int x :: st) S I L := by
  subst hn
  intro l G p e R s m args below meth c H locs cells slots ls hC hH hS h1 h2 hl
  exact lv_istore_n hC.1 hC.2.1 hd hi hl hm rfl (fun ls hl => k l G p e R s m args below meth c H locs cells slots ls hC hH hS h1 h2 (lv_sub hl is hs))
theorem Vw.istore {i : Nat} {x : Int32} (hd : decode mi.2.1 pc = .ok (.istore i, 2)) (hm : i < mi.2.2.1) (is : List Nat) (hs : lv_pick ((i, Value.int x) :: lv.filter (fun q => !(q.1 == i) && !(q.1 + 1 == i && q.2.category == 2))) is = lv2) (hn : pc + 2 = n) (k : Vw mi d mc ms cr sr Q n lv2 st S I L) : Vw mi d mc ms cr sr Q pc lv (.int x :: st) S I L := by
  subst hn
  intro l G p e R s m args below meth c H locs cells slots ls hC hH hS h1 h2 hl
  exact lv_istore hC.1 hC.2.1 hd hl hm rfl (fun ls hl => k l G p e R s m args below meth c H locs cells slots ls hC hH hS h1 h2 (lv_sub hl is hs))
theorem Vw.lstore_n {z : Fin 4} {i : Nat} {x : Int64} (hd : decode mi.2.1 pc = .ok (.lstore_n z, 1)) (hi : (z : Nat) = i) (hm : i + 1 < mi.2.2.1) (is : List Nat) (hs : lv_pick ((i, Value.long x) :: lv.filter (fun q => !(q.1 == i) && (!(q.1 == i + 1) && !(q.1 + 1 == i && q.2.category == 2)))) is = lv2) (hn : pc + 1 = n) (k : Vw mi d mc ms cr sr Q n lv2 st S I L) : Vw mi d mc ms cr sr Q pc lv (.long x :: st) S I L := by
  subst hn
  intro l G p e R s m args below meth c H locs cells slots ls hC hH hS h1 h2 hl
  exact lv_lstore_n hC.1 hC.2.1 hd hi hl hm rfl (fun ls hl => k l G p e R s m args below meth c H locs cells slots ls hC hH hS h1 h2 (lv_sub hl is hs))
theorem Vw.lstore {i : Nat} {x : Int64} (hd : decode mi.2.1 pc = .ok (.lstore i, 2)) (hm : i + 1 < mi.2.2.1) (is : List Nat) (hs : lv_pick ((i, Value.long x) :: lv.filter (fun q => !(q.1 == i) && (!(q.1 == i + 1) && !(q.1 + 1 == i && q.2.category == 2)))) is = lv2) (hn : pc + 2 = n) (k : Vw mi d mc ms cr sr Q n lv2 st S I L) : Vw mi d mc ms cr sr Q pc lv (.long x :: st) S I L := by
  subst hn
  intro l G p e R s m args below meth c H locs cells slots ls hC hH hS h1 h2 hl
  exact lv_lstore hC.1 hC.2.1 hd hl hm rfl (fun ls hl => k l G p e R s m args below meth c H locs cells slots ls hC hH hS h1 h2 (lv_sub hl is hs))
theorem Vw.astore_n {z : Fin 4} {i : Nat} {x : Nat} (hd : decode mi.2.1 pc = .ok (.astore_n z, 1)) (hi : (z : Nat) = i) (hm : i < mi.2.2.1) (is : List Nat) (hs : lv_pick ((i, Value.ref x) :: lv.filter (fun q => !(q.1 == i) && !(q.1 + 1 == i && q.2.category == 2))) is = lv2) (hn : pc + 1 = n) (k : Vw mi d mc ms cr sr Q n lv2 st S I L) : Vw mi d mc ms cr sr Q pc lv (.ref x :: st) S I L := by
  subst hn
  intro l G p e R s m args below meth c H locs cells slots ls hC hH hS h1 h2 hl
  exact lv_astore_n hC.1 hC.2.1 hd hi hl hm rfl (fun ls hl => k l G p e R s m args below meth c H locs cells slots ls hC hH hS h1 h2 (lv_sub hl is hs))
theorem Vw.astore {i : Nat} {x : Nat} (hd : decode mi.2.1 pc = .ok (.astore i, 2)) (hm : i < mi.2.2.1) (is : List Nat) (hs : lv_pick ((i, Value.ref x) :: lv.filter (fun q => !(q.1 == i) && !(q.1 + 1 == i && q.2.category == 2))) is = lv2) (hn : pc + 2 = n) (k : Vw mi d mc ms cr sr Q n lv2 st S I L) : Vw mi d mc ms cr sr Q pc lv (.ref x :: st) S I L := by
  subst hn
  intro l G p e R s m args below meth c H locs cells slots ls hC hH hS h1 h2 hl
  exact lv_astore hC.1 hC.2.1 hd hl hm rfl (fun ls hl => k l G p e R s m args below meth c H locs cells slots ls hC hH hS h1 h2 (lv_sub hl is hs))
theorem Vw.astore_nN {z : Fin 4} {i : Nat} (hd : decode mi.2.1 pc = .ok (.astore_n z, 1)) (hi : (z : Nat) = i) (hm : i < mi.2.2.1) (is : List Nat) (hs : lv_pick ((i, Value.null) :: lv.filter (fun q => !(q.1 == i) && !(q.1 + 1 == i && q.2.category == 2))) is = lv2) (hn : pc + 1 = n) (k : Vw mi d mc ms cr sr Q n lv2 st S I L) : Vw mi d mc ms cr sr Q pc lv (.null :: st) S I L := by
  subst hn
  intro l G p e R s m args below meth c H locs cells slots ls hC hH hS h1 h2 hl
  exact lv_astore_nN hC.1 hC.2.1 hd hi hl hm rfl (fun ls hl => k l G p e R s m args below meth c H locs cells slots ls hC hH hS h1 h2 (lv_sub hl is hs))
theorem Vw.astoreN {i : Nat} (hd : decode mi.2.1 pc = .ok (.astore i, 2)) (hm : i < mi.2.2.1) (is : List Nat) (hs : lv_pick ((i, Value.null) :: lv.filter (fun q => !(q.1 == i) && !(q.1 + 1 == i && q.2.category == 2))) is = lv2) (hn : pc + 2 = n) (k : Vw mi d mc ms cr sr Q n lv2 st S I L) : Vw mi d mc ms cr sr Q pc lv (.null :: st) S I L := by
  subst hn
  intro l G p e R s m args below meth c H locs cells slots ls hC hH hS h1 h2 hl
  exact lv_astoreN hC.1 hC.2.1 hd hl hm rfl (fun ls hl => k l G p e R s m args below meth c H locs cells slots ls hC hH hS h1 h2 (lv_sub hl is hs))
theorem Vw.iinc {i : Nat} {z : Int} {x v : Int32} (hd : decode mi.2.1 pc = .ok (.iinc i z, 3)) (q : Nat) (hq : lv[q]? = some (i, .int x)) (hv : x + Int32.ofInt z = v) (hm : i < mi.2.2.1) (is : List Nat) (hs : lv_pick ((i, Value.int v) :: lv.filter (fun q => !(q.1 == i) && !(q.1 + 1 == i && q.2.category == 2))) is = lv2) (hn : pc + 3 = n) (k : Vw mi d mc ms cr sr Q n lv2 st S I L) : Vw mi d mc ms cr sr Q pc lv st S I L := by
  subst hn
  intro l G p e R s m args below meth c H locs cells slots ls hC hH hS h1 h2 hl
  exact lv_iinc hC.1 hC.2.1 hd hl hq hv hm rfl (fun ls hl => k l G p e R s m args below meth c H locs cells slots ls hC hH hS h1 h2 (lv_sub hl is hs))
theorem Vw.iadd {x y : Int32} (hd : decode mi.2.1 pc = .ok (.iadd, 1))  (hn : pc + 1 = n) (k : Vw mi d mc ms cr sr Q n lv (.int (x + y) :: st) S I L) : Vw mi d mc ms cr sr Q pc lv (.int y :: .int x :: st) S I L := by
  subst hn
  intro l G p e R s m args below meth c H locs cells slots ls hC hH hS h1 h2 hl
  exact lv_iadd hC.1 hC.2.1 hd (k l G p e R s m args below meth c H locs cells slots ls hC hH hS h1 h2 hl)
theorem Vw.isub {x y : Int32} (hd : decode mi.2.1 pc = .ok (.isub, 1))  (hn : pc + 1 = n) (k : Vw mi d mc ms cr sr Q n lv (.int (x - y) :: st) S I L) : Vw mi d mc ms cr sr Q pc lv (.int y :: .int x :: st) S I L := by
  subst hn
  intro l G p e R s m args below meth c H locs cells slots ls hC hH hS h1 h2 hl
  exact lv_isub hC.1 hC.2.1 hd (k l G p e R s m args below meth c H locs cells slots ls hC hH hS h1 h2 hl)
theorem Vw.imul {x y : Int32} (hd : decode mi.2.1 pc = .ok (.imul, 1))  (hn : pc + 1 = n) (k : Vw mi d mc ms cr sr Q n lv (.int (x * y) :: st) S I L) : Vw mi d mc ms cr sr Q pc lv (.int y :: .int x :: st) S I L := by
  subst hn
  intro l G p e R s m args below meth c H locs cells slots ls hC hH hS h1 h2 hl
  exact lv_imul hC.1 hC.2.1 hd (k l G p e R s m args below meth c H locs cells slots ls hC hH hS h1 h2 hl)
theorem Vw.iand {x y : Int32} (hd : decode mi.2.1 pc = .ok (.iand, 1))  (hn : pc + 1 = n) (k : Vw mi d mc ms cr sr Q n lv (.int (x &&& y) :: st) S I L) : Vw mi d mc ms cr sr Q pc lv (.int y :: .int x :: st) S I L := by
  subst hn
  intro l G p e R s m args below meth c H locs cells slots ls hC hH hS h1 h2 hl
  exact lv_iand hC.1 hC.2.1 hd (k l G p e R s m args below meth c H locs cells slots ls hC hH hS h1 h2 hl)
theorem Vw.ior {x y : Int32} (hd : decode mi.2.1 pc = .ok (.ior, 1))  (hn : pc + 1 = n) (k : Vw mi d mc ms cr sr Q n lv (.int (x ||| y) :: st) S I L) : Vw mi d mc ms cr sr Q pc lv (.int y :: .int x :: st) S I L := by
  subst hn
  intro l G p e R s m args below meth c H locs cells slots ls hC hH hS h1 h2 hl
  exact lv_ior hC.1 hC.2.1 hd (k l G p e R s m args below meth c H locs cells slots ls hC hH hS h1 h2 hl)
theorem Vw.ixor {x y : Int32} (hd : decode mi.2.1 pc = .ok (.ixor, 1))  (hn : pc + 1 = n) (k : Vw mi d mc ms cr sr Q n lv (.int (x ^^^ y) :: st) S I L) : Vw mi d mc ms cr sr Q pc lv (.int y :: .int x :: st) S I L := by
  subst hn
  intro l G p e R s m args below meth c H locs cells slots ls hC hH hS h1 h2 hl
  exact lv_ixor hC.1 hC.2.1 hd (k l G p e R s m args below meth c H locs cells slots ls hC hH hS h1 h2 hl)
theorem Vw.ladd {x y : Int64} (hd : decode mi.2.1 pc = .ok (.ladd, 1))  (hn : pc + 1 = n) (k : Vw mi d mc ms cr sr Q n lv (.long (x + y) :: st) S I L) : Vw mi d mc ms cr sr Q pc lv (.long y :: .long x :: st) S I L := by
  subst hn
  intro l G p e R s m args below meth c H locs cells slots ls hC hH hS h1 h2 hl
  exact lv_ladd hC.1 hC.2.1 hd (k l G p e R s m args below meth c H locs cells slots ls hC hH hS h1 h2 hl)
theorem Vw.lsub {x y : Int64} (hd : decode mi.2.1 pc = .ok (.lsub, 1))  (hn : pc + 1 = n) (k : Vw mi d mc ms cr sr Q n lv (.long (x - y) :: st) S I L) : Vw mi d mc ms cr sr Q pc lv (.long y :: .long x :: st) S I L := by
  subst hn
  intro l G p e R s m args below meth c H locs cells slots ls hC hH hS h1 h2 hl
  exact lv_lsub hC.1 hC.2.1 hd (k l G p e R s m args below meth c H locs cells slots ls hC hH hS h1 h2 hl)
theorem Vw.lmul {x y : Int64} (hd : decode mi.2.1 pc = .ok (.lmul, 1))  (hn : pc + 1 = n) (k : Vw mi d mc ms cr sr Q n lv (.long (x * y) :: st) S I L) : Vw mi d mc ms cr sr Q pc lv (.long y :: .long x :: st) S I L := by
  subst hn
  intro l G p e R s m args below meth c H locs cells slots ls hC hH hS h1 h2 hl
  exact lv_lmul hC.1 hC.2.1 hd (k l G p e R s m args below meth c H locs cells slots ls hC hH hS h1 h2 hl)
theorem Vw.idiv {x y : Int32} (hd : decode mi.2.1 pc = .ok (.idiv, 1)) (h0 : ¬ y = 0) (hn : pc + 1 = n) (k : Vw mi d mc ms cr sr Q n lv (.int (x / y) :: st) S I L) : Vw mi d mc ms cr sr Q pc lv (.int y :: .int x :: st) S I L := by
  subst hn
  intro l G p e R s m args below meth c H locs cells slots ls hC hH hS h1 h2 hl
  exact lv_idiv hC.1 hC.2.1 hd h0 (k l G p e R s m args below meth c H locs cells slots ls hC hH hS h1 h2 hl)
theorem Vw.irem {x y : Int32} (hd : decode mi.2.1 pc = .ok (.irem, 1)) (h0 : ¬ y = 0) (hn : pc + 1 = n) (k : Vw mi d mc ms cr sr Q n lv (.int (x - x / y * y) :: st) S I L) : Vw mi d mc ms cr sr Q pc lv (.int y :: .int x :: st) S I L := by
  subst hn
  intro l G p e R s m args below meth c H locs cells slots ls hC hH hS h1 h2 hl
  exact lv_irem hC.1 hC.2.1 hd h0 (k l G p e R s m args below meth c H locs cells slots ls hC hH hS h1 h2 hl)
theorem Vw.ldiv {x y : Int64} (hd : decode mi.2.1 pc = .ok (.ldiv, 1)) (h0 : ¬ y = 0) (hn : pc + 1 = n) (k : Vw mi d mc ms cr sr Q n lv (.long (x / y) :: st) S I L) : Vw mi d mc ms cr sr Q pc lv (.long y :: .long x :: st) S I L := by
  subst hn
  intro l G p e R s m args below meth c H locs cells slots ls hC hH hS h1 h2 hl
  exact lv_ldiv hC.1 hC.2.1 hd h0 (k l G p e R s m args below meth c H locs cells slots ls hC hH hS h1 h2 hl)
theorem Vw.lrem {x y : Int64} (hd : decode mi.2.1 pc = .ok (.lrem, 1)) (h0 : ¬ y = 0) (hn : pc + 1 = n) (k : Vw mi d mc ms cr sr Q n lv (.long (x - x / y * y) :: st) S I L) : Vw mi d mc ms cr sr Q pc lv (.long y :: .long x :: st) S I L := by
  subst hn
  intro l G p e R s m args below meth c H locs cells slots ls hC hH hS h1 h2 hl
  exact lv_lrem hC.1 hC.2.1 hd h0 (k l G p e R s m args below meth c H locs cells slots ls hC hH hS h1 h2 hl)
theorem Vw.ineg {x : Int32} (hd : decode mi.2.1 pc = .ok (.ineg, 1))  (hn : pc + 1 = n) (k : Vw mi d mc ms cr sr Q n lv (.int (-x) :: st) S I L) : Vw mi d mc ms cr sr Q pc lv (.int x :: st) S I L := by
  subst hn
  intro l G p e R s m args below meth c H locs cells slots ls hC hH hS h1 h2 hl
  exact lv_ineg hC.1 hC.2.1 hd (k l G p e R s m args below meth c H locs cells slots ls hC hH hS h1 h2 hl)
theorem Vw.ishl {x y : Int32} (hd : decode mi.2.1 pc = .ok (.ishl, 1))  (hn : pc + 1 = n) (k : Vw mi d mc ms cr sr Q n lv (.int (x <<< (y &&& 31)) :: st) S I L) : Vw mi d mc ms cr sr Q pc lv (.int y :: .int x :: st) S I L := by
  subst hn
  intro l G p e R s m args below meth c H locs cells slots ls hC hH hS h1 h2 hl
  exact lv_ishl hC.1 hC.2.1 hd (k l G p e R s m args below meth c H locs cells slots ls hC hH hS h1 h2 hl)
theorem Vw.ishr {x y : Int32} (hd : decode mi.2.1 pc = .ok (.ishr, 1))  (hn : pc + 1 = n) (k : Vw mi d mc ms cr sr Q n lv (.int (x >>> (y &&& 31)) :: st) S I L) : Vw mi d mc ms cr sr Q pc lv (.int y :: .int x :: st) S I L := by
  subst hn
  intro l G p e R s m args below meth c H locs cells slots ls hC hH hS h1 h2 hl
  exact lv_ishr hC.1 hC.2.1 hd (k l G p e R s m args below meth c H locs cells slots ls hC hH hS h1 h2 hl)
theorem Vw.iushr {x y : Int32} (hd : decode mi.2.1 pc = .ok (.iushr, 1))  (hn : pc + 1 = n) (k : Vw mi d mc ms cr sr Q n lv (.int ((x.toUInt32 >>> (y.toUInt32 &&& Int32.toUInt32 31)).toInt32) :: st) S I L) : Vw mi d mc ms cr sr Q pc lv (.int y :: .int x :: st) S I L := by
  subst hn
  intro l G p e R s m args below meth c H locs cells slots ls hC hH hS h1 h2 hl
  exact lv_iushr hC.1 hC.2.1 hd rfl (k l G p e R s m args below meth c H locs cells slots ls hC hH hS h1 h2 hl)
theorem Vw.i2l {x : Int32} (hd : decode mi.2.1 pc = .ok (.i2l, 1))  (hn : pc + 1 = n) (k : Vw mi d mc ms cr sr Q n lv (.long x.toInt64 :: st) S I L) : Vw mi d mc ms cr sr Q pc lv (.int x :: st) S I L := by
  subst hn
  intro l G p e R s m args below meth c H locs cells slots ls hC hH hS h1 h2 hl
  exact lv_i2l hC.1 hC.2.1 hd rfl (k l G p e R s m args below meth c H locs cells slots ls hC hH hS h1 h2 hl)
theorem Vw.l2i {x : Int64} (hd : decode mi.2.1 pc = .ok (.l2i, 1))  (hn : pc + 1 = n) (k : Vw mi d mc ms cr sr Q n lv (.int x.toInt32 :: st) S I L) : Vw mi d mc ms cr sr Q pc lv (.long x :: st) S I L := by
  subst hn
  intro l G p e R s m args below meth c H locs cells slots ls hC hH hS h1 h2 hl
  exact lv_l2i hC.1 hC.2.1 hd rfl (k l G p e R s m args below meth c H locs cells slots ls hC hH hS h1 h2 hl)
theorem Vw.i2b {x : Int32} (hd : decode mi.2.1 pc = .ok (.i2b, 1))  (hn : pc + 1 = n) (k : Vw mi d mc ms cr sr Q n lv (.int x.toInt8.toInt32 :: st) S I L) : Vw mi d mc ms cr sr Q pc lv (.int x :: st) S I L := by
  subst hn
  intro l G p e R s m args below meth c H locs cells slots ls hC hH hS h1 h2 hl
  exact lv_i2b hC.1 hC.2.1 hd rfl (k l G p e R s m args below meth c H locs cells slots ls hC hH hS h1 h2 hl)
theorem Vw.lcmp {x y : Int64} (hd : decode mi.2.1 pc = .ok (.lcmp, 1))  (hn : pc + 1 = n) (k : Vw mi d mc ms cr sr Q n lv (.int (lg_cmp x y) :: st) S I L) : Vw mi d mc ms cr sr Q pc lv (.long y :: .long x :: st) S I L := by
  subst hn
  intro l G p e R s m args below meth c H locs cells slots ls hC hH hS h1 h2 hl
  exact W.lcmp hC.1 hC.2.1 hd (k l G p e R s m args below meth c H locs cells slots ls hC hH hS h1 h2 hl)
theorem Vw.dup {va : Value} (hd : decode mi.2.1 pc = .ok (.dup, 1)) (ha : va.category = 1) (hn : pc + 1 = n) (k : Vw mi d mc ms cr sr Q n lv (va :: va :: st) S I L) : Vw mi d mc ms cr sr Q pc lv (va :: st) S I L := by
  subst hn
  intro l G p e R s m args below meth c H locs cells slots ls hC hH hS h1 h2 hl
  exact lv_dup hC.1 hC.2.1 hd ha (k l G p e R s m args below meth c H locs cells slots ls hC hH hS h1 h2 hl)
theorem Vw.pop {va : Value} (hd : decode mi.2.1 pc = .ok (.pop, 1)) (ha : va.category = 1) (hn : pc + 1 = n) (k : Vw mi d mc ms cr sr Q n lv st S I L) : Vw mi d mc ms cr sr Q pc lv (va :: st) S I L := by
  subst hn
  intro l G p e R s m args below meth c H locs cells slots ls hC hH hS h1 h2 hl
  exact lv_pop hC.1 hC.2.1 hd ha (k l G p e R s m args below meth c H locs cells slots ls hC hH hS h1 h2 hl)
theorem Vw.dup_x1 {va vb : Value} (hd : decode mi.2.1 pc = .ok (.dup_x1, 1)) (ha : va.category = 1) (hb : vb.category = 1) (hn : pc + 1 = n) (k : Vw mi d mc ms cr sr Q n lv (va :: vb :: va :: st) S I L) : Vw mi d mc ms cr sr Q pc lv (va :: vb :: st) S I L := by
  subst hn
  intro l G p e R s m args below meth c H locs cells slots ls hC hH hS h1 h2 hl
  exact lv_dup_x1 hC.1 hC.2.1 hd ha hb (k l G p e R s m args below meth c H locs cells slots ls hC hH hS h1 h2 hl)
theorem Vw.dup_x2 {va vb vd : Value} (hd : decode mi.2.1 pc = .ok (.dup_x2, 1)) (ha : va.category = 1) (hb : vb.category = 1) (hc : vd.category = 1) (hn : pc + 1 = n) (k : Vw mi d mc ms cr sr Q n lv (va :: vb :: vd :: va :: st) S I L) : Vw mi d mc ms cr sr Q pc lv (va :: vb :: vd :: st) S I L := by
  subst hn
  intro l G p e R s m args below meth c H locs cells slots ls hC hH hS h1 h2 hl
  exact lv_dup_x2 hC.1 hC.2.1 hd ha hb hc (k l G p e R s m args below meth c H locs cells slots ls hC hH hS h1 h2 hl)
theorem Vw.dup2 {va vb : Value} (hd : decode mi.2.1 pc = .ok (.dup2, 1)) (ha : va.category = 1) (hb : vb.category = 1) (hn : pc + 1 = n) (k : Vw mi d mc ms cr sr Q n lv (va :: vb :: va :: vb :: st) S I L) : Vw mi d mc ms cr sr Q pc lv (va :: vb :: st) S I L := by
  subst hn
  intro l G p e R s m args below meth c H locs cells slots ls hC hH hS h1 h2 hl
  exact lv_dup2_11 hC.1 hC.2.1 hd ha hb (k l G p e R s m args below meth c H locs cells slots ls hC hH hS h1 h2 hl)
theorem Vw.if_eq {x : Int32} {off : Int} {tgt : Nat} (hd : decode mi.2.1 pc = .ok (.ifCond .eq off, 3)) (ht : (pc : Int) + off = (tgt : Int)) (hn : pc + 3 = n) (kt : x = 0 → Vw mi d mc ms cr sr Q tgt lv st S I L) (kf : ¬ x = 0 → Vw mi d mc ms cr sr Q n lv st S I L) : Vw mi d mc ms cr sr Q pc lv (.int x :: st) S I L := by
  subst hn
  intro l G p e R s m args below meth c H locs cells slots ls hC hH hS h1 h2 hl
  exact lv_if_eq hC.1 hC.2.1 hd ht (fun q => kt q l G p e R s m args below meth c H locs cells slots ls hC hH hS h1 h2 hl) (fun q => kf q l G p e R s m args below meth c H locs cells slots ls hC hH hS h1 h2 hl)
theorem Vw.if_ne {x : Int32} {off : Int} {tgt : Nat} (hd : decode mi.2.1 pc = .ok (.ifCond .ne off, 3)) (ht : (pc : Int) + off = (tgt : Int)) (hn : pc + 3 = n) (kt : ¬ x = 0 → Vw mi d mc ms cr sr Q tgt lv st S I L) (kf : x = 0 → Vw mi d mc ms cr sr Q n lv st S I L) : Vw mi d mc ms cr sr Q pc lv (.int x :: st) S I L := by
  subst hn
  intro l G p e R s m args below meth c H locs cells slots ls hC hH hS h1 h2 hl
  exact lv_if_ne hC.1 hC.2.1 hd ht (fun q => kt q l G p e R s m args below meth c H locs cells slots ls hC hH hS h1 h2 hl) (fun q => kf q l G p e R s m args below meth c H locs cells slots ls hC hH hS h1 h2 hl)
theorem Vw.if_lt {x : Int32} {off : Int} {tgt : Nat} (hd : decode mi.2.1 pc = .ok (.ifCond .lt off, 3)) (ht : (pc : Int) + off = (tgt : Int)) (hn : pc + 3 = n) (kt : x < 0 → Vw mi d mc ms cr sr Q tgt lv st S I L) (kf : ¬ x < 0 → Vw mi d mc ms cr sr Q n lv st S I L) : Vw mi d mc ms cr sr Q pc lv (.int x :: st) S I L := by
  subst hn
  intro l G p e R s m args below meth c H locs cells slots ls hC hH hS h1 h2 hl
  exact lv_if_lt hC.1 hC.2.1 hd ht (fun q => kt q l G p e R s m args below meth c H locs cells slots ls hC hH hS h1 h2 hl) (fun q => kf q l G p e R s m args below meth c H locs cells slots ls hC hH hS h1 h2 hl)
theorem Vw.if_ge {x : Int32} {off : Int} {tgt : Nat} (hd : decode mi.2.1 pc = .ok (.ifCond .ge off, 3)) (ht : (pc : Int) + off = (tgt : Int)) (hn : pc + 3 = n) (kt : 0 ≤ x → Vw mi d mc ms cr sr Q tgt lv st S I L) (kf : ¬ 0 ≤ x → Vw mi d mc ms cr sr Q n lv st S I L) : Vw mi d mc ms cr sr Q pc lv (.int x :: st) S I L := by
  subst hn
  intro l G p e R s m args below meth c H locs cells slots ls hC hH hS h1 h2 hl
  exact lv_if_ge hC.1 hC.2.1 hd ht (fun q => kt q l G p e R s m args below meth c H locs cells slots ls hC hH hS h1 h2 hl) (fun q => kf q l G p e R s m args below meth c H locs cells slots ls hC hH hS h1 h2 hl)
theorem Vw.if_gt {x : Int32} {off : Int} {tgt : Nat} (hd : decode mi.2.1 pc = .ok (.ifCond .gt off, 3)) (ht : (pc : Int) + off = (tgt : Int)) (hn : pc + 3 = n) (kt : 0 < x → Vw mi d mc ms cr sr Q tgt lv st S I L) (kf : ¬ 0 < x → Vw mi d mc ms cr sr Q n lv st S I L) : Vw mi d mc ms cr sr Q pc lv (.int x :: st) S I L := by
  subst hn
  intro l G p e R s m args below meth c H locs cells slots ls hC hH hS h1 h2 hl
  exact lv_if_gt hC.1 hC.2.1 hd ht (fun q => kt q l G p e R s m args below meth c H locs cells slots ls hC hH hS h1 h2 hl) (fun q => kf q l G p e R s m args below meth c H locs cells slots ls hC hH hS h1 h2 hl)
theorem Vw.if_le {x : Int32} {off : Int} {tgt : Nat} (hd : decode mi.2.1 pc = .ok (.ifCond .le off, 3)) (ht : (pc : Int) + off = (tgt : Int)) (hn : pc + 3 = n) (kt : x ≤ 0 → Vw mi d mc ms cr sr Q tgt lv st S I L) (kf : ¬ x ≤ 0 → Vw mi d mc ms cr sr Q n lv st S I L) : Vw mi d mc ms cr sr Q pc lv (.int x :: st) S I L := by
  subst hn
  intro l G p e R s m args below meth c H locs cells slots ls hC hH hS h1 h2 hl
  exact lv_if_le hC.1 hC.2.1 hd ht (fun q => kt q l G p e R s m args below meth c H locs cells slots ls hC hH hS h1 h2 hl) (fun q => kf q l G p e R s m args below meth c H locs cells slots ls hC hH hS h1 h2 hl)
theorem Vw.icmp_eq {x y : Int32} {off : Int} {tgt : Nat} (hd : decode mi.2.1 pc = .ok (.if_icmp .eq off, 3)) (ht : (pc : Int) + off = (tgt : Int)) (hn : pc + 3 = n) (kt : x = y → Vw mi d mc ms cr sr Q tgt lv st S I L) (kf : ¬ x = y → Vw mi d mc ms cr sr Q n lv st S I L) : Vw mi d mc ms cr sr Q pc lv (.int y :: .int x :: st) S I L := by
  subst hn
  intro l G p e R s m args below meth c H locs cells slots ls hC hH hS h1 h2 hl
  exact lv_icmp_eq hC.1 hC.2.1 hd ht (fun q => kt q l G p e R s m args below meth c H locs cells slots ls hC hH hS h1 h2 hl) (fun q => kf q l G p e R s m args below meth c H locs cells slots ls hC hH hS h1 h2 hl)
theorem Vw.icmp_ne {x y : Int32} {off : Int} {tgt : Nat} (hd : decode mi.2.1 pc = .ok (.if_icmp .ne off, 3)) (ht : (pc : Int) + off = (tgt : Int)) (hn : pc + 3 = n) (kt : ¬ x = y → Vw mi d mc ms cr sr Q tgt lv st S I L) (kf : x = y → Vw mi d mc ms cr sr Q n lv st S I L) : Vw mi d mc ms cr sr Q pc lv (.int y :: .int x :: st) S I L := by
  subst hn
  intro l G p e R s m args below meth c H locs cells slots ls hC hH hS h1 h2 hl
  exact lv_icmp_ne hC.1 hC.2.1 hd ht (fun q => kt q l G p e R s m args below meth c H locs cells slots ls hC hH hS h1 h2 hl) (fun q => kf q l G p e R s m args below meth c H locs cells slots ls hC hH hS h1 h2 hl)
theorem Vw.icmp_lt {x y : Int32} {off : Int} {tgt : Nat} (hd : decode mi.2.1 pc = .ok (.if_icmp .lt off, 3)) (ht : (pc : Int) + off = (tgt : Int)) (hn : pc + 3 = n) (kt : x < y → Vw mi d mc ms cr sr Q tgt lv st S I L) (kf : ¬ x < y → Vw mi d mc ms cr sr Q n lv st S I L) : Vw mi d mc ms cr sr Q pc lv (.int y :: .int x :: st) S I L := by
  subst hn
  intro l G p e R s m args below meth c H locs cells slots ls hC hH hS h1 h2 hl
  exact lv_icmp_lt hC.1 hC.2.1 hd ht (fun q => kt q l G p e R s m args below meth c H locs cells slots ls hC hH hS h1 h2 hl) (fun q => kf q l G p e R s m args below meth c H locs cells slots ls hC hH hS h1 h2 hl)
theorem Vw.icmp_ge {x y : Int32} {off : Int} {tgt : Nat} (hd : decode mi.2.1 pc = .ok (.if_icmp .ge off, 3)) (ht : (pc : Int) + off = (tgt : Int)) (hn : pc + 3 = n) (kt : y ≤ x → Vw mi d mc ms cr sr Q tgt lv st S I L) (kf : ¬ y ≤ x → Vw mi d mc ms cr sr Q n lv st S I L) : Vw mi d mc ms cr sr Q pc lv (.int y :: .int x :: st) S I L := by
  subst hn
  intro l G p e R s m args below meth c H locs cells slots ls hC hH hS h1 h2 hl
  exact lv_icmp_ge hC.1 hC.2.1 hd ht (fun q => kt q l G p e R s m args below meth c H locs cells slots ls hC hH hS h1 h2 hl) (fun q => kf q l G p e R s m args below meth c H locs cells slots ls hC hH hS h1 h2 hl)
theorem Vw.icmp_gt {x y : Int32} {off : Int} {tgt : Nat} (hd : decode mi.2.1 pc = .ok (.if_icmp .gt off, 3)) (ht : (pc : Int) + off = (tgt : Int)) (hn : pc + 3 = n) (kt : y < x → Vw mi d mc ms cr sr Q tgt lv st S I L) (kf : ¬ y < x → Vw mi d mc ms cr sr Q n lv st S I L) : Vw mi d mc ms cr sr Q pc lv (.int y :: .int x :: st) S I L := by
  subst hn
  intro l G p e R s m args below meth c H locs cells slots ls hC hH hS h1 h2 hl
  exact lv_icmp_gt hC.1 hC.2.1 hd ht (fun q => kt q l G p e R s m args below meth c H locs cells slots ls hC hH hS h1 h2 hl) (fun q => kf q l G p e R s m args below meth c H locs cells slots ls hC hH hS h1 h2 hl)
theorem Vw.icmp_le {x y : Int32} {off : Int} {tgt : Nat} (hd : decode mi.2.1 pc = .ok (.if_icmp .le off, 3)) (ht : (pc : Int) + off = (tgt : Int)) (hn : pc + 3 = n) (kt : x ≤ y → Vw mi d mc ms cr sr Q tgt lv st S I L) (kf : ¬ x ≤ y → Vw mi d mc ms cr sr Q n lv st S I L) : Vw mi d mc ms cr sr Q pc lv (.int y :: .int x :: st) S I L := by
  subst hn
  intro l G p e R s m args below meth c H locs cells slots ls hC hH hS h1 h2 hl
  exact lv_icmp_le hC.1 hC.2.1 hd ht (fun q => kt q l G p e R s m args below meth c H locs cells slots ls hC hH hS h1 h2 hl) (fun q => kf q l G p e R s m args below meth c H locs cells slots ls hC hH hS h1 h2 hl)
theorem Vw.goto_ {off : Int} (hd : decode mi.2.1 pc = .ok (.goto off, 3)) (ht : (pc : Int) + off = (n : Int)) (k : Vw mi d mc ms cr sr Q n lv st S I L) : Vw mi d mc ms cr sr Q pc lv st S I L := by
  intro l G p e R s m args below meth c H locs cells slots ls hC hH hS h1 h2 hl
  exact lv_goto hC.1 hC.2.1 hd ht (k l G p e R s m args below meth c H locs cells slots ls hC hH hS h1 h2 hl)
theorem Vw.ifnonnull {off : Int} {x : Nat} (hd : decode mi.2.1 pc = .ok (.ifnonnull off, 3)) (ht : (pc : Int) + off = (n : Int)) (k : Vw mi d mc ms cr sr Q n lv st S I L) : Vw mi d mc ms cr sr Q pc lv (.ref x :: st) S I L := by
  intro l G p e R s m args below meth c H locs cells slots ls hC hH hS h1 h2 hl
  exact lv_ifnonnull hC.1 hC.2.1 hd ht (k l G p e R s m args below meth c H locs cells slots ls hC hH hS h1 h2 hl)
theorem Vw.ifnonnullN {off : Int} (hd : decode mi.2.1 pc = .ok (.ifnonnull off, 3)) (hn : pc + 3 = n) (k : Vw mi d mc ms cr sr Q n lv st S I L) : Vw mi d mc ms cr sr Q pc lv (.null :: st) S I L := by
  subst hn
  intro l G p e R s m args below meth c H locs cells slots ls hC hH hS h1 h2 hl
  exact lv_ifnonnullN hC.1 hC.2.1 hd (k l G p e R s m args below meth c H locs cells slots ls hC hH hS h1 h2 hl)
theorem Vw.tsOut {dflt lo hi : Int} {offs : Array Int} {len : Nat} {x : Int32} (hd : decode mi.2.1 pc = .ok (.tableswitch dflt lo hi offs, len)) (hx : x.toInt < lo ∨ hi < x.toInt) (ht : (pc : Int) + dflt = (n : Int)) (k : Vw mi d mc ms cr sr Q n lv st S I L) : Vw mi d mc ms cr sr Q pc lv (.int x :: st) S I L := by
  intro l G p e R s m args below meth c H locs cells slots ls hC hH hS h1 h2 hl
  exact lv_tableOut hC.1 hC.2.1 hd hx ht (k l G p e R s m args below meth c H locs cells slots ls hC hH hS h1 h2 hl)
theorem Vw.tsIn {dflt lo hi off : Int} {offs : Array Int} {len : Nat} {x : Int32} (hd : decode mi.2.1 pc = .ok (.tableswitch dflt lo hi offs, len)) (hx : ¬ x.toInt < lo) (hx2 : ¬ hi < x.toInt) (ho : offs[(x.toInt - lo).toNat]? = some off) (ht : (pc : Int) + off = (n : Int)) (k : Vw mi d mc ms cr sr Q n lv st S I L) : Vw mi d mc ms cr sr Q pc lv (.int x :: st) S I L := by
  intro l G p e R s m args below meth c H locs cells slots ls hC hH hS h1 h2 hl
  exact lv_tableIn hC.1 hC.2.1 hd hx hx2 ho ht (k l G p e R s m args below meth c H locs cells slots ls hC hH hS h1 h2 hl)
theorem Vw.iret {x : Int32} (hd : decode mi.2.1 pc = .ok (.ireturn, 1)) (hr : mi.2.2.2 = some .int) (hq : Q (some (.int x)) S I L) : Vw mi d mc ms cr sr Q pc lv [.int x] S I L := by
  intro l G p e R s m args below meth c H locs cells slots ls hC hH hS h1 h2 hl
  refine W.widen (k := mc) (n := ms) (by omega) (by omega) ?_
  exact W.iret (v := x) hC.1 hC.2.1 (hC.2.2.2.1.trans hr) (fun t ht hW => ⟨⟨(some (.int x)), S, I, L, rfl, hq, by rw [ht]; exact hH⟩, hS.F ht⟩) hS.2.2 hd hC.2.2.2.2.1
theorem Vw.zret {x : Int32} {ty : FieldType} (hd : decode mi.2.1 pc = .ok (.ireturn, 1)) (hr : mi.2.2.2 = some ty) (hx : narrow ty (.int x) = .int x) (hq : Q (some (.int x)) S I L) : Vw mi d mc ms cr sr Q pc lv [.int x] S I L := by
  intro l G p e R s m args below meth c H locs cells slots ls hC hH hS h1 h2 hl
  refine W.widen (k := mc) (n := ms) (by omega) (by omega) ?_
  exact W.zret (v := x) hC.1 hC.2.1 (hC.2.2.2.1.trans hr) hx (fun t ht hW => ⟨⟨(some (.int x)), S, I, L, rfl, hq, by rw [ht]; exact hH⟩, hS.F ht⟩) hS.2.2 hd hC.2.2.2.2.1
theorem Vw.lret {x : Int64} (hd : decode mi.2.1 pc = .ok (.lreturn, 1)) (hr : mi.2.2.2 = some .long) (hq : Q (some (.long x)) S I L) : Vw mi d mc ms cr sr Q pc lv [.long x] S I L := by
  intro l G p e R s m args below meth c H locs cells slots ls hC hH hS h1 h2 hl
  refine W.widen (k := mc) (n := ms) (by omega) (by omega) ?_
  exact W.lret (v := x) hC.1 hC.2.1 (hC.2.2.2.1.trans hr) (fun t ht hW => ⟨⟨(some (.long x)), S, I, L, rfl, hq, by rw [ht]; exact hH⟩, hS.F ht⟩) hS.2.2 hd hC.2.2.2.2.1
theorem Vw.vret  (hd : decode mi.2.1 pc = .ok (.return_, 1)) (hr : mi.2.2.2 = none) (hq : Q none S I L) : Vw mi d mc ms cr sr Q pc lv [] S I L := by
  intro l G p e R s m args below meth c H locs cells slots ls hC hH hS h1 h2 hl
  refine W.widen (k := mc) (n := ms) (by omega) (by omega) ?_
  exact W.vret hC.1 hC.2.1 (hC.2.2.2.1.trans hr) (fun t ht hW => ⟨⟨none, S, I, L, rfl, hq, by rw [ht]; exact hH⟩, hS.F ht⟩) hS.2.2 hd hC.2.2.2.2.1
theorem Vw.aret {x : Option Nat} {rt : FieldType} (hd : decode mi.2.1 pc = .ok (.areturn, 1)) (hr : mi.2.2.2 = some rt) (hrt : (∃ n, rt = .object n) ∨ ∃ t, rt = .array t) (hq : Q (some (va_rf x)) S I L) : Vw mi d mc ms cr sr Q pc lv [va_rf x] S I L := by
  intro l G p e R s m args below meth c H locs cells slots ls hC hH hS h1 h2 hl
  refine W.widen (k := mc) (n := ms) (by omega) (by omega) ?_
  exact W.aret (v := va_rf x) hC.1 hC.2.1 (hC.2.2.2.1.trans hr) hrt (by cases x; exact Or.inl rfl; exact Or.inr ⟨_, rfl⟩) (fun t ht hW => ⟨⟨(some (va_rf x)), S, I, L, rfl, hq, by rw [ht]; exact hH⟩, hS.F ht⟩) hS.2.2 hd hC.2.2.2.2.1
end CALC
