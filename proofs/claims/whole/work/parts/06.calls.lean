/-! Calls -/
def vMc (mi : vM) (np : Nat) : Prop := Cond.initialized mi.1.cls ∈ vTs ∧ Cond.code mi.1 mi.2.1 mi.2.2.1 mi.2.2.2 ∈ vTs ∧ (mi.1.cls ≠ "java/lang/invoke/MethodHandle" ∧ mi.1.cls ≠ "java/lang/invoke/VarHandle" ∧ (parseMethodDescriptor mi.1.desc).map (fun d => d.parameters.length) = some np) ∧ mi.2.2.1 ≤ 29
def vMv (mi : vM) (c np : Nat) : Prop := vMc mi np ∧ c < 13 ∧ mi.1.cls = vR c ∧ Cond.instanceMethod mi.1 ∈ vTs ∧ Cond.selects mi.1.cls mi.1 mi.1 ∈ vTs
def vMs (mi : vM) (np : Nat) : Prop := vMc mi np ∧ Cond.static mi.1 ∈ vTs
def vMi (mi : vM) (np : Nat) : Prop := vMc mi np ∧ mi.1.name = "<init>" ∧ Cond.instanceMethod mi.1 ∈ vTs ∧ mi.2.2.2 = none
theorem vWs_good {mi : vM} (h : Cond.code mi.1 mi.2.1 mi.2.2.1 mi.2.2.2 ∈ vTs) : GoodIn vTs (vWs mi) := fun w hw => (List.mem_cons.mp hw).elim (fun e => by rw [e]; exact vTs_good _ h) (vTs_good w)
def ViQ (Q : Int32 → vS → vI → vL → Prop) : Option Value → vS → vI → vL → Prop := fun v S I L => ∃ x, v = some (.int x) ∧ Q x S I L
def VlQ (Q : Int64 → vS → vI → vL → Prop) : Option Value → vS → vI → vL → Prop := fun v S I L => ∃ x, v = some (.long x) ∧ Q x S I L
def VrQ (Q : Option Nat → vS → vI → vL → Prop) : Option Value → vS → vI → vL → Prop := fun v S I L => ∃ x, v = some (va_rf x) ∧ Q x S I L
def VvQ (Q : vS → vI → vL → Prop) : Option Value → vS → vI → vL → Prop := fun v S I L => v = none ∧ Q S I L
theorem vBlind {G : vG} {S : vS} {I : vI} {L : vL} {av : List Value} : FrameBlind (va_Pc av (fun U => Hx G S I L U.heap ∧ Kx G U)) := fun a U g mk q => by
  obtain ⟨q0, qH, qK⟩ := q
  exact ⟨q0, qH, Kx.warm (U := U.calling g mk a) (State.WarmedH.refl U) qK⟩
theorem vEnter {G : vG} {S : vS} {I : vI} {L : vL} {av : List Value} {s : State} {H : Heap} (hH : Hx G S I L H) (hK : Kx G s) : ∀ U : State, U.heap = H → s.WarmedH U.vm → va_Pc av (fun U => Hx G S I L U.heap ∧ Kx G U) av.toArray U := fun U hU hW => ⟨rfl, by rw [hU]; exact hH, hK.warm hW⟩
section CALLS
variable {mi mi' : vM} {d mc ms cr sr mc' ms' : Nat} {Q : Option Value → vS → vI → vL → Prop} {pc n np : Nat} {lv lv2 : List (Nat × Value)} {st st0 : List Value} {S S2 : vS} {I I2 : vI} {L L2 : vL} {a c k idx len b : Nat} {As : List Value}
/-- behind a call -/
theorem vAfter {p : Program} {l : Launch} {e : Env} {R : Room} {s : State} {m : MethodId} {args : Array Value} {below : List Frame} {meth : Method} {cd : Code} {H : Heap} {locs : List Loc} {cells slots : Nat} {ls : Array Slot} {G : vG} {a0 : Array Value} {Z : State → Prop} {Q' : Option Value → vS → vI → vL → Prop}
    (hr : va_Run p l e R s m args below meth cd H locs cells slots mc' ms' (F0 m pc ls st0) st (vQc G Q' a0) (gAb G)) (hS : va_S (gAb G) s.heap H locs)
    (kk : ∀ (v : Option Value) (S' : vS) (I' : vI) (L' : vL) (H1 : Heap) (locs1 : List Loc), Q' v S' I' L' → Hx G S' I' L' H1 → va_S (gAb G) s.heap H1 locs1 → W p l e R s m args below meth cd H1 locs1 (cells + mc') (slots + ms') Z (F0 m (pc + 3) ls (v.toList ++ st))) :
    W p l e R s m args below meth cd H locs cells slots Z (F0 m pc ls st0) := by
  intro T hT X
  obtain ⟨v, st₀, t, T', L, h0, X', hL, e1, e2, ⟨⟨v', S', I', L', hv, hq, hH⟩, hz, hk⟩, stp⟩ := hr T hT X
  cases hv
  rw [h0] at hz hk
  obtain ⟨t2, a1, b1⟩ := kk v S' I' L' T'.heap (locs ++ L) hq (by rw [e1]; exact hH)
    ⟨Nat.le_trans hS.1 (by rw [e1]; exact hz), fun q h1 h2 => by rw [e1, hk q (Nat.lt_of_lt_of_le h1 hS.1) h2]; exact hS.2.1 q h1 h2, fun q hq => by
      rcases List.mem_append.mp hq with h | h
      · exact hS.2.2 q h
      · exact hL q h⟩ T' rfl X'
  exact ⟨t2, stp t2 a1, b1⟩
theorem Vw.invV (hd : decode mi.2.1 pc = .ok (.invokevirtual idx, 3)) (hl : Cond.methodLink mi.1.cls idx mi'.1 ∈ vTs) (hm : vMv mi' c np) (hs : (S.1 b).1 = c) (hst : st0 = As.reverse ++ .ref b :: st) (hA : As.length = np) (hw : (st.map fun v => v.category).sum ≤ 8) (hn : pc + 3 = n)
    (hC : Vc mi' d mc' ms' (.ref b :: As) S I L (fun v S' I' L' => Vw mi (d + 1) mc ms cr sr Q n lv (v.toList ++ st) S' I' L')) : Vw mi (d + 1) mc ms (cr + mc') (sr + ms') Q pc lv st0 S I L := by
  subst hn
  intro l G p e R s m args below meth cd H locs cells slots ls hX hH hS h1 h2 hlv
  obtain ⟨⟨m1, m2, m3, m4⟩, m5, m6, m7, m8⟩ := hm
  have hts := hX.2.2.2.2.2.2.1
  have hK := hX.2.2.2.2.2.2.2.2.1
  have hR := hX.2.2.2.2.2.2.2.2.2.2.2
  have hcb : CallB R s args mi.1.cls idx mi'.1 mi'.2.1 mi'.2.2.1 mi'.2.2.2 (vWs mi') (vRm d mc' ms') mc' ms' np := callB_of np hts (vWs_good m2) rfl rfl rfl (hts _ m1) (hts _ hl) m3 ⟨by show d + 1 ≤ _; omega, by show 8 + (mi'.2.2.1 + 11) + 48 * d ≤ _; omega⟩
  obtain ⟨cell, g1, g2, g3, -⟩ := hH.obj hs m5
  have hcl := (hK.1.1 c _ (vCl_at m5)).2.1
  refine vAfter (va_runV (As := As) (rest := st) ⟨hX.1, hX.2.1, hX.2.2.1, hX.2.2.2.2.2.1, hts⟩ (hC l G) ⟨hcb, hts _ m7, hts _ m8⟩ ⟨vBlind, ⟨cell, g1, by rw [g3]; rfl, by rw [m6, g2]; exact hcl⟩, vEnter hH hK⟩ rfl hA hlv.1 hst (lv_room hw) hd ⟨by omega, by omega⟩) hS (fun v S' I' L' H1 locs1 q1 q2 q3 => ?_)
  exact q1 l G p e R s m args below meth cd H1 locs1 _ _ ls hX q2 q3 (by omega) (by omega) hlv
theorem Vw.invS (hd : decode mi.2.1 pc = .ok (.invokestatic idx, 3)) (hl : Cond.methodLink mi.1.cls idx mi'.1 ∈ vTs) (hm : vMs mi' np) (hst : st0 = As.reverse ++ st) (hA : As.length = np) (hw : (st.map fun v => v.category).sum ≤ 8) (hn : pc + 3 = n)
    (hC : Vc mi' d mc' ms' As S I L (fun v S' I' L' => Vw mi (d + 1) mc ms cr sr Q n lv (v.toList ++ st) S' I' L')) : Vw mi (d + 1) mc ms (cr + mc') (sr + ms') Q pc lv st0 S I L := by
  subst hn
  intro l G p e R s m args below meth cd H locs cells slots ls hX hH hS h1 h2 hlv
  obtain ⟨⟨m1, m2, m3, m4⟩, m5⟩ := hm
  have hts := hX.2.2.2.2.2.2.1
  have hK := hX.2.2.2.2.2.2.2.2.1
  have hR := hX.2.2.2.2.2.2.2.2.2.2.2
  have hcb : CallB R s args mi.1.cls idx mi'.1 mi'.2.1 mi'.2.2.1 mi'.2.2.2 (vWs mi') (vRm d mc' ms') mc' ms' np := callB_of np hts (vWs_good m2) rfl rfl rfl (hts _ m1) (hts _ hl) m3 ⟨by show d + 1 ≤ _; omega, by show 8 + (mi'.2.2.1 + 11) + 48 * d ≤ _; omega⟩
  refine vAfter (va_runS (As := As) (rest := st) ⟨hX.1, hX.2.1, hX.2.2.1, hX.2.2.2.2.2.1, hts⟩ (hC l G) ⟨hcb, hts _ m5⟩ ⟨vBlind, vEnter hH hK⟩ rfl hA hlv.1 hst (lv_room hw) hd ⟨by omega, by omega⟩) hS (fun v S' I' L' H1 locs1 q1 q2 q3 => ?_)
  exact q1 l G p e R s m args below meth cd H1 locs1 _ _ ls hX q2 q3 (by omega) (by omega) hlv
/-- a private static method of the nest -/
theorem Vw.invSN (hd : decode mi.2.1 pc = .ok (.invokestatic idx, 3)) (hl : Cond.methodLinkNest mi.1.cls idx mi'.1 RX11 ∈ vNst) (hm : vMs mi' np) (hst : st0 = As.reverse ++ st) (hA : As.length = np) (hw : (st.map fun v => v.category).sum ≤ 8) (hn : pc + 3 = n)
    (hC : Vc mi' d mc' ms' As S I L (fun v S' I' L' => Vw mi (d + 1) mc ms cr sr Q n lv (v.toList ++ st) S' I' L')) : Vw mi (d + 1) mc ms (cr + mc') (sr + ms') Q pc lv st0 S I L := by
  subst hn
  intro l G p e R s m args below meth cd H locs cells slots ls hX hH hS h1 h2 hlv
  obtain ⟨⟨m1, m2, m3, m4⟩, m5⟩ := hm
  have hts := hX.2.2.2.2.2.2.1
  have hK := hX.2.2.2.2.2.2.2.2.1
  have hR := hX.2.2.2.2.2.2.2.2.2.2.2
  have hcb : va_CN R s args mi.1.cls idx mi'.1 RX11 mi'.2.1 mi'.2.2.1 mi'.2.2.2 (vWs mi') (vRm d mc' ms') mc' ms' np := va_cnB np hts (vWs_good m2) rfl rfl rfl (hK.2.1 _ hl) (hts _ m1) m3 ⟨by show d + 1 ≤ _; omega, by show 8 + (mi'.2.2.1 + 11) + 48 * d ≤ _; omega⟩
  refine vAfter (va_runSN (As := As) (rest := st) ⟨hX.1, hX.2.1, hX.2.2.1, hX.2.2.2.2.2.1, hts⟩ (hC l G) ⟨hcb, hts _ m5, trivial⟩ ⟨vBlind, vEnter hH hK⟩ rfl hA hlv.1 hst (lv_room hw) hd ⟨by omega, by omega⟩) hS (fun v S' I' L' H1 locs1 q1 q2 q3 => ?_)
  exact q1 l G p e R s m args below meth cd H1 locs1 _ _ ls hX q2 q3 (by omega) (by omega) hlv
theorem Vw.invI (hd : decode mi.2.1 pc = .ok (.invokespecial idx, 3)) (hl : Cond.methodLink mi.1.cls idx mi'.1 ∈ vTs ∨ Cond.methodLinkNest mi.1.cls idx mi'.1 RX11 ∈ vNst) (hm : vMi mi' np) (hst : st0 = As.reverse ++ .ref b :: st) (hA : As.length = np) (hw : (st.map fun v => v.category).sum ≤ 8) (hn : pc + 3 = n)
    (hC : Vc mi' d mc' ms' (.ref b :: As) S I L (fun v S' I' L' => Vw mi (d + 1) mc ms cr sr Q n lv (v.toList ++ st) S' I' L')) : Vw mi (d + 1) mc ms (cr + mc') (sr + ms') Q pc lv st0 S I L := by
  subst hn
  intro l G p e R s m args below meth cd H locs cells slots ls hX hH hS h1 h2 hlv
  obtain ⟨⟨m1, m2, m3, m4⟩, m5, m6, m7⟩ := hm
  have hts := hX.2.2.2.2.2.2.1
  have hK := hX.2.2.2.2.2.2.2.2.1
  have hR := hX.2.2.2.2.2.2.2.2.2.2.2
  rw [m7] at m2
  have hgw : GoodIn vTs (vWs mi') := vWs_good (by rw [m7]; exact m2)
  have hww : vWs mi' = Cond.code mi'.1 mi'.2.1 mi'.2.2.1 none :: vTs := by unfold vWs; rw [m7]
  rcases hl with hl | hl
  · have hcb : CallB R s args mi.1.cls idx mi'.1 mi'.2.1 mi'.2.2.1 none (vWs mi') (vRm d mc' ms') mc' ms' np := callB_of np hts hgw hww rfl rfl (hts _ m1) (hts _ hl) m3 ⟨by show d + 1 ≤ _; omega, by show 8 + (mi'.2.2.1 + 11) + 48 * d ≤ _; omega⟩
    refine vAfter (va_runI (As := As) (rest := st) ⟨hX.1, hX.2.1, hX.2.2.1, hX.2.2.2.2.2.1, hts⟩ (hC l G) ⟨hcb, m5, hts _ m6⟩ ⟨vBlind, vEnter hH hK⟩ rfl hA hlv.1 hst (lv_room hw) hd ⟨by omega, by omega⟩) hS (fun v S' I' L' H1 locs1 q1 q2 q3 => ?_)
    exact q1 l G p e R s m args below meth cd H1 locs1 _ _ ls hX q2 q3 (by omega) (by omega) hlv
  · have hcb : va_CN R s args mi.1.cls idx mi'.1 RX11 mi'.2.1 mi'.2.2.1 none (vWs mi') (vRm d mc' ms') mc' ms' np := va_cnB np hts hgw hww rfl rfl (hK.2.1 _ hl) (hts _ m1) m3 ⟨by show d + 1 ≤ _; omega, by show 8 + (mi'.2.2.1 + 11) + 48 * d ≤ _; omega⟩
    refine vAfter (va_runIN (As := As) (rest := st) ⟨hX.1, hX.2.1, hX.2.2.1, hX.2.2.2.2.2.1, hts⟩ (hC l G) ⟨hcb, m5, hts _ m6⟩ ⟨vBlind, vEnter hH hK⟩ rfl hA hlv.1 hst (lv_room hw) hd ⟨by omega, by omega⟩) hS (fun v S' I' L' H1 locs1 q1 q2 q3 => ?_)
    exact q1 l G p e R s m args below meth cd H1 locs1 _ _ ls hX q2 q3 (by omega) (by omega) hlv
theorem Vw.objInit (hd : decode mi.2.1 pc = .ok (.invokespecial idx, 3)) (hl : Cond.methodLink mi.1.cls idx objectInit ∈ vTs) (hi : Cond.instanceMethod objectInit ∈ vTs ∧ Cond.code objectInit ⟨#[0xb1]⟩ 1 none ∈ vTs) (hw : (st.map fun v => v.category).sum ≤ 8) (hn : pc + 3 = n) (kk : Vw mi (d + 1) mc ms cr sr Q n lv st S I L) : Vw mi (d + 1) mc ms cr sr Q pc lv (.ref b :: st) S I L := by
  subst hn
  intro l G p e R s m args below meth cd H locs cells slots ls hX hH hS h1 h2 hlv
  have hts := hX.2.2.2.2.2.2.1
  have hR := hX.2.2.2.2.2.2.2.2.2.2.2
  refine W.objInit hX.1 hX.2.1 hX.2.2.2.2.2.1 (hts _ hl) (hts _ hi.1) (hts _ hi.2) rfl (by rw [hX.2.2.1]; exact hlv.1) rfl hd (by omega) (by have := lv_room (m := m) (pc := pc) (ls := ls) (rest := st) hw; show 2 * (F0 m pc ls st).monitorRoom + _ + 12 ≤ _; omega) ?_
  exact kk l G p e R s m args below meth cd H locs cells slots ls hX hH hS h1 h2 hlv
theorem Vc.mono {av : List Value} {Q1 Q2 : Option Value → vS → vI → vL → Prop} (h : Vc mi d mc ms av S I L Q1) (hq : ∀ v S I L, Q1 v S I L → Q2 v S I L) : Vc mi d mc ms av S I L Q2 := by
  intro l G p e ha hc hk s m args below hf hfit hP hT
  obtain ⟨t, o, h1, h2, h3, ⟨⟨v, S', I', L', q1, q2, q3⟩, q4⟩, h4⟩ := h l G p e ha hc hk s m args below hf hfit hP hT
  exact ⟨t, o, h1, h2, h3, ⟨⟨v, S', I', L', q1, hq _ _ _ _ q2, q3⟩, q4⟩, h4⟩
end CALLS
section ARITY
variable {mi mi' : vM} {d mc ms cr sr : Nat} {Q : Option Value → vS → vI → vL → Prop} {pc n : Nat} {lv : List (Nat × Value)} {st : List Value} {S : vS} {I : vI} {L : vL} {c idx b : Nat} {x1 x2 x3 x4 x5 : Value}
theorem Vw.ivi0 (hd : decode mi.2.1 pc = .ok (.invokevirtual idx, 3)) (hl : Cond.methodLink mi.1.cls idx mi'.1 ∈ vTs) (hm : vMv mi' c 0) (hs : (S.1 b).1 = c) (hw : (st.map fun v => v.category).sum ≤ 8) (hn : pc + 3 = n) (hC : Vc mi' d 0 0 [.ref b] S I L (ViQ fun r S' I' L' => Vw mi (d + 1) mc ms cr sr Q n lv (.int r :: st) S' I' L')) : Vw mi (d + 1) mc ms cr sr Q pc lv (.ref b :: st) S I L :=
  Vw.invV (mc' := 0) (ms' := 0) (As := []) hd hl hm hs rfl rfl hw hn (hC.mono (fun v S' I' L' h => by obtain ⟨r, rfl, h⟩ := h; exact h))
theorem Vw.ivl0 (hd : decode mi.2.1 pc = .ok (.invokevirtual idx, 3)) (hl : Cond.methodLink mi.1.cls idx mi'.1 ∈ vTs) (hm : vMv mi' c 0) (hs : (S.1 b).1 = c) (hw : (st.map fun v => v.category).sum ≤ 8) (hn : pc + 3 = n) (hC : Vc mi' d 0 0 [.ref b] S I L (VlQ fun r S' I' L' => Vw mi (d + 1) mc ms cr sr Q n lv (.long r :: st) S' I' L')) : Vw mi (d + 1) mc ms cr sr Q pc lv (.ref b :: st) S I L :=
  Vw.invV (mc' := 0) (ms' := 0) (As := []) hd hl hm hs rfl rfl hw hn (hC.mono (fun v S' I' L' h => by obtain ⟨r, rfl, h⟩ := h; exact h))
theorem Vw.ivr0 (hd : decode mi.2.1 pc = .ok (.invokevirtual idx, 3)) (hl : Cond.methodLink mi.1.cls idx mi'.1 ∈ vTs) (hm : vMv mi' c 0) (hs : (S.1 b).1 = c) (hw : (st.map fun v => v.category).sum ≤ 8) (hn : pc + 3 = n) (hC : Vc mi' d 0 0 [.ref b] S I L (VrQ fun r S' I' L' => Vw mi (d + 1) mc ms cr sr Q n lv (va_rf r :: st) S' I' L')) : Vw mi (d + 1) mc ms cr sr Q pc lv (.ref b :: st) S I L :=
  Vw.invV (mc' := 0) (ms' := 0) (As := []) hd hl hm hs rfl rfl hw hn (hC.mono (fun v S' I' L' h => by obtain ⟨r, rfl, h⟩ := h; exact h))
theorem Vw.ivv0 (hd : decode mi.2.1 pc = .ok (.invokevirtual idx, 3)) (hl : Cond.methodLink mi.1.cls idx mi'.1 ∈ vTs) (hm : vMv mi' c 0) (hs : (S.1 b).1 = c) (hw : (st.map fun v => v.category).sum ≤ 8) (hn : pc + 3 = n) (hC : Vc mi' d 0 0 [.ref b] S I L (VvQ fun S' I' L' => Vw mi (d + 1) mc ms cr sr Q n lv st S' I' L')) : Vw mi (d + 1) mc ms cr sr Q pc lv (.ref b :: st) S I L :=
  Vw.invV (mc' := 0) (ms' := 0) (As := []) hd hl hm hs rfl rfl hw hn (hC.mono (fun v S' I' L' h => by obtain ⟨rfl, h⟩ := h; exact h))
theorem Vw.ivi1 (hd : decode mi.2.1 pc = .ok (.invokevirtual idx, 3)) (hl : Cond.methodLink mi.1.cls idx mi'.1 ∈ vTs) (hm : vMv mi' c 1) (hs : (S.1 b).1 = c) (hw : (st.map fun v => v.category).sum ≤ 8) (hn : pc + 3 = n) (hC : Vc mi' d 0 0 [.ref b, x1] S I L (ViQ fun r S' I' L' => Vw mi (d + 1) mc ms cr sr Q n lv (.int r :: st) S' I' L')) : Vw mi (d + 1) mc ms cr sr Q pc lv (x1 :: .ref b :: st) S I L :=
  Vw.invV (mc' := 0) (ms' := 0) (As := [x1]) hd hl hm hs rfl rfl hw hn (hC.mono (fun v S' I' L' h => by obtain ⟨r, rfl, h⟩ := h; exact h))
theorem Vw.ivl1 (hd : decode mi.2.1 pc = .ok (.invokevirtual idx, 3)) (hl : Cond.methodLink mi.1.cls idx mi'.1 ∈ vTs) (hm : vMv mi' c 1) (hs : (S.1 b).1 = c) (hw : (st.map fun v => v.category).sum ≤ 8) (hn : pc + 3 = n) (hC : Vc mi' d 0 0 [.ref b, x1] S I L (VlQ fun r S' I' L' => Vw mi (d + 1) mc ms cr sr Q n lv (.long r :: st) S' I' L')) : Vw mi (d + 1) mc ms cr sr Q pc lv (x1 :: .ref b :: st) S I L :=
  Vw.invV (mc' := 0) (ms' := 0) (As := [x1]) hd hl hm hs rfl rfl hw hn (hC.mono (fun v S' I' L' h => by obtain ⟨r, rfl, h⟩ := h; exact h))
theorem Vw.ivr1 (hd : decode mi.2.1 pc = .ok (.invokevirtual idx, 3)) (hl : Cond.methodLink mi.1.cls idx mi'.1 ∈ vTs) (hm : vMv mi' c 1) (hs : (S.1 b).1 = c) (hw : (st.map fun v => v.category).sum ≤ 8) (hn : pc + 3 = n) (hC : Vc mi' d 0 0 [.ref b, x1] S I L (VrQ fun r S' I' L' => Vw mi (d + 1) mc ms cr sr Q n lv (va_rf r :: st) S' I' L')) : Vw mi (d + 1) mc ms cr sr Q pc lv (x1 :: .ref b :: st) S I L :=
  Vw.invV (mc' := 0) (ms' := 0) (As := [x1]) hd hl hm hs rfl rfl hw hn (hC.mono (fun v S' I' L' h => by obtain ⟨r, rfl, h⟩ := h; exact h))
theorem Vw.ivv1 (hd : decode mi.2.1 pc = .ok (.invokevirtual idx, 3)) (hl : Cond.methodLink mi.1.cls idx mi'.1 ∈ vTs) (hm : vMv mi' c 1) (hs : (S.1 b).1 = c) (hw : (st.map fun v => v.category).sum ≤ 8) (hn : pc + 3 = n) (hC : Vc mi' d 0 0 [.ref b, x1] S I L (VvQ fun S' I' L' => Vw mi (d + 1) mc ms cr sr Q n lv st S' I' L')) : Vw mi (d + 1) mc ms cr sr Q pc lv (x1 :: .ref b :: st) S I L :=
  Vw.invV (mc' := 0) (ms' := 0) (As := [x1]) hd hl hm hs rfl rfl hw hn (hC.mono (fun v S' I' L' h => by obtain ⟨rfl, h⟩ := h; exact h))
theorem Vw.ivi2 (hd : decode mi.2.1 pc = .ok (.invokevirtual idx, 3)) (hl : Cond.methodLink mi.1.cls idx mi'.1 ∈ vTs) (hm : vMv mi' c 2) (hs : (S.1 b).1 = c) (hw : (st.map fun v => v.category).sum ≤ 8) (hn : pc + 3 = n) (hC : Vc mi' d 0 0 [.ref b, x1, x2] S I L (ViQ fun r S' I' L' => Vw mi (d + 1) mc ms cr sr Q n lv (.int r :: st) S' I' L')) : Vw mi (d + 1) mc ms cr sr Q pc lv (x2 :: x1 :: .ref b :: st) S I L :=
  Vw.invV (mc' := 0) (ms' := 0) (As := [x1, x2]) hd hl hm hs rfl rfl hw hn (hC.mono (fun v S' I' L' h => by obtain ⟨r, rfl, h⟩ := h; exact h))
theorem Vw.ivl2 (hd : decode mi.2.1 pc = .ok (.invokevirtual idx, 3)) (hl : Cond.methodLink mi.1.cls idx mi'.1 ∈ vTs) (hm : vMv mi' c 2) (hs : (S.1 b).1 = c) (hw : (st.map fun v => v.category).sum ≤ 8) (hn : pc + 3 = n) (hC : Vc mi' d 0 0 [.ref b, x1, x2] S I L (VlQ fun r S' I' L' => Vw mi (d + 1) mc ms cr sr Q n lv (.long r :: st) S' I' L')) : Vw mi (d + 1) mc ms cr sr Q pc lv (x2 :: x1 :: .ref b :: st) S I L :=
  Vw.invV (mc' := 0) (ms' := 0) (As := [x1, x2]) hd hl hm hs rfl rfl hw hn (hC.mono (fun v S' I' L' h => by obtain ⟨r, rfl, h⟩ := h; exact h))
theorem Vw.ivr2 (hd : decode mi.2.1 pc = .ok (.invokevirtual idx, 3)) (hl : Cond.methodLink mi.1.cls idx mi'.1 ∈ vTs) (hm : vMv mi' c 2) (hs : (S.1 b).1 = c) (hw : (st.map fun v => v.category).sum ≤ 8) (hn : pc + 3 = n) (hC : Vc mi' d 0 0 [.ref b, x1, x2] S I L (VrQ fun r S' I' L' => Vw mi (d + 1) mc ms cr sr Q n lv (va_rf r :: st) S' I' L')) : Vw mi (d + 1) mc ms cr sr Q pc lv (x2 :: x1 :: .ref b :: st) S I L :=
  Vw.invV (mc' := 0) (ms' := 0) (As := [x1, x2]) hd hl hm hs rfl rfl hw hn (hC.mono (fun v S' I' L' h => by obtain ⟨r, rfl, h⟩ := h; exact h))
theorem Vw.ivv2 (hd : decode mi.2.1 pc = .ok (.invokevirtual idx, 3)) (hl : Cond.methodLink mi.1.cls idx mi'.1 ∈ vTs) (hm : vMv mi' c 2) (hs : (S.1 b).1 = c) (hw : (st.map fun v => v.category).sum ≤ 8) (hn : pc + 3 = n) (hC : Vc mi' d 0 0 [.ref b, x1, x2] S I L (VvQ fun S' I' L' => Vw mi (d + 1) mc ms cr sr Q n lv st S' I' L')) : Vw mi (d + 1) mc ms cr sr Q pc lv (x2 :: x1 :: .ref b :: st) S I L :=
  Vw.invV (mc' := 0) (ms' := 0) (As := [x1, x2]) hd hl hm hs rfl rfl hw hn (hC.mono (fun v S' I' L' h => by obtain ⟨rfl, h⟩ := h; exact h))
theorem Vw.ivi3 (hd : decode mi.2.1 pc = .ok (.invokevirtual idx, 3)) (hl : Cond.methodLink mi.1.cls idx mi'.1 ∈ vTs) (hm : vMv mi' c 3) (hs : (S.1 b).1 = c) (hw : (st.map fun v => v.category).sum ≤ 8) (hn : pc + 3 = n) (hC : Vc mi' d 0 0 [.ref b, x1, x2, x3] S I L (ViQ fun r S' I' L' => Vw mi (d + 1) mc ms cr sr Q n lv (.int r :: st) S' I' L')) : Vw mi (d + 1) mc ms cr sr Q pc lv (x3 :: x2 :: x1 :: .ref b :: st) S I L :=
  Vw.invV (mc' := 0) (ms' := 0) (As := [x1, x2, x3]) hd hl hm hs rfl rfl hw hn (hC.mono (fun v S' I' L' h => by obtain ⟨r, rfl, h⟩ := h; exact h))
theorem Vw.ivl3 (hd : decode mi.2.1 pc = .ok (.invokevirtual idx, 3)) (hl : Cond.methodLink mi.1.cls idx mi'.1 ∈ vTs) (hm : vMv mi' c 3) (hs : (S.1 b).1 = c) (hw : (st.map fun v => v.category).sum ≤ 8) (hn : pc + 3 = n) (hC : Vc mi' d 0 0 [.ref b, x1, x2, x3] S I L (VlQ fun r S' I' L' => Vw mi (d + 1) mc ms cr sr Q n lv (.long r :: st) S' I' L')) : Vw mi (d + 1) mc ms cr sr Q pc lv (x3 :: x2 :: x1 :: .ref b :: st) S I L :=
  Vw.invV (mc' := 0) (ms' := 0) (As := [x1, x2, x3]) hd hl hm hs rfl rfl hw hn (hC.mono (fun v S' I' L' h => by obtain ⟨r, rfl, h⟩ := h; exact h))
theorem Vw.ivr3 (hd : decode mi.2.1 pc = .ok (.invokevirtual idx, 3)) (hl : Cond.methodLink mi.1.cls idx mi'.1 ∈ vTs) (hm : vMv mi' c 3) (hs : (S.1 b).1 = c) (hw : (st.map fun v => v.category).sum ≤ 8) (hn : pc + 3 = n) (hC : Vc mi' d 0 0 [.ref b, x1, x2, x3] S I L (VrQ fun r S' I' L' => Vw mi (d + 1) mc ms cr sr Q n lv (va_rf r :: st) S' I' L')) : Vw mi (d + 1) mc ms cr sr Q pc lv (x3 :: x2 :: x1 :: .ref b :: st) S I L :=
  Vw.invV (mc' := 0) (ms' := 0) (As := [x1, x2, x3]) hd hl hm hs rfl rfl hw hn (hC.mono (fun v S' I' L' h => by obtain ⟨r, rfl, h⟩ := h; exact h))
theorem Vw.ivv3 (hd : decode mi.2.1 pc = .ok (.invokevirtual idx, 3)) (hl : Cond.methodLink mi.1.cls idx mi'.1 ∈ vTs) (hm : vMv mi' c 3) (hs : (S.1 b).1 = c) (hw : (st.map fun v => v.category).sum ≤ 8) (hn : pc + 3 = n) (hC : Vc mi' d 0 0 [.ref b, x1, x2, x3] S I L (VvQ fun S' I' L' => Vw mi (d + 1) mc ms cr sr Q n lv st S' I' L')) : Vw mi (d + 1) mc ms cr sr Q pc lv (x3 :: x2 :: x1 :: .ref b :: st) S I L :=
  Vw.invV (mc' := 0) (ms' := 0) (As := [x1, x2, x3]) hd hl hm hs rfl rfl hw hn (hC.mono (fun v S' I' L' h => by obtain ⟨rfl, h⟩ := h; exact h))
theorem Vw.ivi4 (hd : decode mi.2.1 pc = .ok (.invokevirtual idx, 3)) (hl : Cond.methodLink mi.1.cls idx mi'.1 ∈ vTs) (hm : vMv mi' c 4) (hs : (S.1 b).1 = c) (hw : (st.map fun v => v.category).sum ≤ 8) (hn : pc + 3 = n) (hC : Vc mi' d 0 0 [.ref b, x1, x2, x3, x4] S I L (ViQ fun r S' I' L' => Vw mi (d + 1) mc ms cr sr Q n lv (.int r :: st) S' I' L')) : Vw mi (d + 1) mc ms cr sr Q pc lv (x4 :: x3 :: x2 :: x1 :: .ref b :: st) S I L :=
  Vw.invV (mc' := 0) (ms' := 0) (As := [x1, x2, x3, x4]) hd hl hm hs rfl rfl hw hn (hC.mono (fun v S' I' L' h => by obtain ⟨r, rfl, h⟩ := h; exact h))
theorem Vw.ivl4 (hd : decode mi.2.1 pc = .ok (.invokevirtual idx, 3)) (hl : Cond.methodLink mi.1.cls idx mi'.1 ∈ vTs) (hm : vMv mi' c 4) (hs : (S.1 b).1 = c) (hw : (st.map fun v => v.category).sum ≤ 8) (hn : pc + 3 = n) (hC : Vc mi' d 0 0 [.ref b, x1, x2, x3, x4] S I L (VlQ fun r S' I' L' => Vw mi (d + 1) mc ms cr sr Q n lv (.long r :: st) S' I' L')) : Vw mi (d + 1) mc ms cr sr Q pc lv (x4 :: x3 :: x2 :: x1 :: .ref b :: st) S I L :=
  Vw.invV (mc' := 0) (ms' := 0) (As := [x1, x2, x3, x4]) hd hl hm hs rfl rfl hw hn (hC.mono (fun v S' I' L' h => by obtain ⟨r, rfl, h⟩ := h; exact h))
theorem Vw.ivr4 (hd : decode mi.2.1 pc = .ok (.invokevirtual idx, 3)) (hl : Cond.methodLink mi.1.cls idx mi'.1 ∈ vTs) (hm : vMv mi' c 4) (hs : (S.1 b).1 = c) (hw : (st.map fun v => v.category).sum ≤ 8) (hn : pc + 3 = n) (hC : Vc mi' d 0 0 [.ref b, x1, x2, x3, x4] S I L (VrQ fun r S' I' L' => Vw mi (d + 1) mc ms cr sr Q n lv (va_rf r :: st) S' I' L')) : Vw mi (d + 1) mc ms cr sr Q pc lv (x4 :: x3 :: x2 :: x1 :: .ref b :: st) S I L :=
  Vw.invV (mc' := 0) (ms' := 0) (As := [x1, x2, x3, x4]) hd hl hm hs rfl rfl hw hn (hC.mono (fun v S' I' L' h => by obtain ⟨r, rfl, h⟩ := h; exact h))
theorem Vw.ivv4 (hd : decode mi.2.1 pc = .ok (.invokevirtual idx, 3)) (hl : Cond.methodLink mi.1.cls idx mi'.1 ∈ vTs) (hm : vMv mi' c 4) (hs : (S.1 b).1 = c) (hw : (st.map fun v => v.category).sum ≤ 8) (hn : pc + 3 = n) (hC : Vc mi' d 0 0 [.ref b, x1, x2, x3, x4] S I L (VvQ fun S' I' L' => Vw mi (d + 1) mc ms cr sr Q n lv st S' I' L')) : Vw mi (d + 1) mc ms cr sr Q pc lv (x4 :: x3 :: x2 :: x1 :: .ref b :: st) S I L :=
  Vw.invV (mc' := 0) (ms' := 0) (As := [x1, x2, x3, x4]) hd hl hm hs rfl rfl hw hn (hC.mono (fun v S' I' L' h => by obtain ⟨rfl, h⟩ := h; exact h))
theorem Vw.ivi5 (hd : decode mi.2.1 pc = .ok (.invokevirtual idx, 3)) (hl : Cond.methodLink mi.1.cls idx mi'.1 ∈ vTs) (hm : vMv mi' c 5) (hs : (S.1 b).1 = c) (hw : (st.map fun v => v.category).sum ≤ 8) (hn : pc + 3 = n) (hC : Vc mi' d 0 0 [.ref b, x1, x2, x3, x4, x5] S I L (ViQ fun r S' I' L' => Vw mi (d + 1) mc ms cr sr Q n lv (.int r :: st) S' I' L')) : Vw mi (d + 1) mc ms cr sr Q pc lv (x5 :: x4 :: x3 :: x2 :: x1 :: .ref b :: st) S I L :=
  Vw.invV (mc' := 0) (ms' := 0) (As := [x1, x2, x3, x4, x5]) hd hl hm hs rfl rfl hw hn (hC.mono (fun v S' I' L' h => by obtain ⟨r, rfl, h⟩ := h; exact h))
theorem Vw.ivl5 (hd : decode mi.2.1 pc = .ok (.invokevirtual idx, 3)) (hl : Cond.methodLink mi.1.cls idx mi'.1 ∈ vTs) (hm : vMv mi' c 5) (hs : (S.1 b).1 = c) (hw : (st.map fun v => v.category).sum ≤ 8) (hn : pc + 3 = n) (hC : Vc mi' d 0 0 [.ref b, x1, x2, x3, x4, x5] S I L (VlQ fun r S' I' L' => Vw mi (d + 1) mc ms cr sr Q n lv (.long r :: st) S' I' L')) : Vw mi (d + 1) mc ms cr sr Q pc lv (x5 :: x4 :: x3 :: x2 :: x1 :: .ref b :: st) S I L :=
  Vw.invV (mc' := 0) (ms' := 0) (As := [x1, x2, x3, x4, x5]) hd hl hm hs rfl rfl hw hn (hC.mono (fun v S' I' L' h => by obtain ⟨r, rfl, h⟩ := h; exact h))
theorem Vw.ivr5 (hd : decode mi.2.1 pc = .ok (.invokevirtual idx, 3)) (hl : Cond.methodLink mi.1.cls idx mi'.1 ∈ vTs) (hm : vMv mi' c 5) (hs : (S.1 b).1 = c) (hw : (st.map fun v => v.category).sum ≤ 8) (hn : pc + 3 = n) (hC : Vc mi' d 0 0 [.ref b, x1, x2, x3, x4, x5] S I L (VrQ fun r S' I' L' => Vw mi (d + 1) mc ms cr sr Q n lv (va_rf r :: st) S' I' L')) : Vw mi (d + 1) mc ms cr sr Q pc lv (x5 :: x4 :: x3 :: x2 :: x1 :: .ref b :: st) S I L :=
  Vw.invV (mc' := 0) (ms' := 0) (As := [x1, x2, x3, x4, x5]) hd hl hm hs rfl rfl hw hn (hC.mono (fun v S' I' L' h => by obtain ⟨r, rfl, h⟩ := h; exact h))
theorem Vw.ivv5 (hd : decode mi.2.1 pc = .ok (.invokevirtual idx, 3)) (hl : Cond.methodLink mi.1.cls idx mi'.1 ∈ vTs) (hm : vMv mi' c 5) (hs : (S.1 b).1 = c) (hw : (st.map fun v => v.category).sum ≤ 8) (hn : pc + 3 = n) (hC : Vc mi' d 0 0 [.ref b, x1, x2, x3, x4, x5] S I L (VvQ fun S' I' L' => Vw mi (d + 1) mc ms cr sr Q n lv st S' I' L')) : Vw mi (d + 1) mc ms cr sr Q pc lv (x5 :: x4 :: x3 :: x2 :: x1 :: .ref b :: st) S I L :=
  Vw.invV (mc' := 0) (ms' := 0) (As := [x1, x2, x3, x4, x5]) hd hl hm hs rfl rfl hw hn (hC.mono (fun v S' I' L' h => by obtain ⟨rfl, h⟩ := h; exact h))
theorem Vw.isi0 (hd : decode mi.2.1 pc = .ok (.invokestatic idx, 3)) (hl : Cond.methodLink mi.1.cls idx mi'.1 ∈ vTs) (hm : vMs mi' 0) (hw : (st.map fun v => v.category).sum ≤ 8) (hn : pc + 3 = n) (hC : Vc mi' d 0 0 [] S I L (ViQ fun r S' I' L' => Vw mi (d + 1) mc ms cr sr Q n lv (.int r :: st) S' I' L')) : Vw mi (d + 1) mc ms cr sr Q pc lv (st) S I L :=
  Vw.invS (mc' := 0) (ms' := 0) (As := []) hd hl hm rfl rfl hw hn (hC.mono (fun v S' I' L' h => by obtain ⟨r, rfl, h⟩ := h; exact h))
theorem Vw.isl0 (hd : decode mi.2.1 pc = .ok (.invokestatic idx, 3)) (hl : Cond.methodLink mi.1.cls idx mi'.1 ∈ vTs) (hm : vMs mi' 0) (hw : (st.map fun v => v.category).sum ≤ 8) (hn : pc + 3 = n) (hC : Vc mi' d 0 0 [] S I L (VlQ fun r S' I' L' => Vw mi (d + 1) mc ms cr sr Q n lv (.long r :: st) S' I' L')) : Vw mi (d + 1) mc ms cr sr Q pc lv (st) S I L :=
  Vw.invS (mc' := 0) (ms' := 0) (As := []) hd hl hm rfl rfl hw hn (hC.mono (fun v S' I' L' h => by obtain ⟨r, rfl, h⟩ := h; exact h))
theorem Vw.isr0 (hd : decode mi.2.1 pc = .ok (.invokestatic idx, 3)) (hl : Cond.methodLink mi.1.cls idx mi'.1 ∈ vTs) (hm : vMs mi' 0) (hw : (st.map fun v => v.category).sum ≤ 8) (hn : pc + 3 = n) (hC : Vc mi' d 0 0 [] S I L (VrQ fun r S' I' L' => Vw mi (d + 1) mc ms cr sr Q n lv (va_rf r :: st) S' I' L')) : Vw mi (d + 1) mc ms cr sr Q pc lv (st) S I L :=
  Vw.invS (mc' := 0) (ms' := 0) (As := []) hd hl hm rfl rfl hw hn (hC.mono (fun v S' I' L' h => by obtain ⟨r, rfl, h⟩ := h; exact h))
theorem Vw.isv0 (hd : decode mi.2.1 pc = .ok (.invokestatic idx, 3)) (hl : Cond.methodLink mi.1.cls idx mi'.1 ∈ vTs) (hm : vMs mi' 0) (hw : (st.map fun v => v.category).sum ≤ 8) (hn : pc + 3 = n) (hC : Vc mi' d 0 0 [] S I L (VvQ fun S' I' L' => Vw mi (d + 1) mc ms cr sr Q n lv st S' I' L')) : Vw mi (d + 1) mc ms cr sr Q pc lv (st) S I L :=
  Vw.invS (mc' := 0) (ms' := 0) (As := []) hd hl hm rfl rfl hw hn (hC.mono (fun v S' I' L' h => by obtain ⟨rfl, h⟩ := h; exact h))
theorem Vw.isi1 (hd : decode mi.2.1 pc = .ok (.invokestatic idx, 3)) (hl : Cond.methodLink mi.1.cls idx mi'.1 ∈ vTs) (hm : vMs mi' 1) (hw : (st.map fun v => v.category).sum ≤ 8) (hn : pc + 3 = n) (hC : Vc mi' d 0 0 [x1] S I L (ViQ fun r S' I' L' => Vw mi (d + 1) mc ms cr sr Q n lv (.int r :: st) S' I' L')) : Vw mi (d + 1) mc ms cr sr Q pc lv (x1 :: st) S I L :=
  Vw.invS (mc' := 0) (ms' := 0) (As := [x1]) hd hl hm rfl rfl hw hn (hC.mono (fun v S' I' L' h => by obtain ⟨r, rfl, h⟩ := h; exact h))
theorem Vw.isl1 (hd : decode mi.2.1 pc = .ok (.invokestatic idx, 3)) (hl : Cond.methodLink mi.1.cls idx mi'.1 ∈ vTs) (hm : vMs mi' 1) (hw : (st.map fun v => v.category).sum ≤ 8) (hn : pc + 3 = n) (hC : Vc mi' d 0 0 [x1] S I L (VlQ fun r S' I' L' => Vw mi (d + 1) mc ms cr sr Q n lv (.long r :: st) S' I' L')) : Vw mi (d + 1) mc ms cr sr Q pc lv (x1 :: st) S I L :=
  Vw.invS (mc' := 0) (ms' := 0) (As := [x1]) hd hl hm rfl rfl hw hn (hC.mono (fun v S' I' L' h => by obtain ⟨r, rfl, h⟩ := h; exact h))
theorem Vw.isr1 (hd : decode mi.2.1 pc = .ok (.invokestatic idx, 3)) (hl : Cond.methodLink mi.1.cls idx mi'.1 ∈ vTs) (hm : vMs mi' 1) (hw : (st.map fun v => v.category).sum ≤ 8) (hn : pc + 3 = n) (hC : Vc mi' d 0 0 [x1] S I L (VrQ fun r S' I' L' => Vw mi (d + 1) mc ms cr sr Q n lv (va_rf r :: st) S' I' L')) : Vw mi (d + 1) mc ms cr sr Q pc lv (x1 :: st) S I L :=
  Vw.invS (mc' := 0) (ms' := 0) (As := [x1]) hd hl hm rfl rfl hw hn (hC.mono (fun v S' I' L' h => by obtain ⟨r, rfl, h⟩ := h; exact h))
theorem Vw.isv1 (hd : decode mi.2.1 pc = .ok (.invokestatic idx, 3)) (hl : Cond.methodLink mi.1.cls idx mi'.1 ∈ vTs) (hm : vMs mi' 1) (hw : (st.map fun v => v.category).sum ≤ 8) (hn : pc + 3 = n) (hC : Vc mi' d 0 0 [x1] S I L (VvQ fun S' I' L' => Vw mi (d + 1) mc ms cr sr Q n lv st S' I' L')) : Vw mi (d + 1) mc ms cr sr Q pc lv (x1 :: st) S I L :=
  Vw.invS (mc' := 0) (ms' := 0) (As := [x1]) hd hl hm rfl rfl hw hn (hC.mono (fun v S' I' L' h => by obtain ⟨rfl, h⟩ := h; exact h))
theorem Vw.isi2 (hd : decode mi.2.1 pc = .ok (.invokestatic idx, 3)) (hl : Cond.methodLink mi.1.cls idx mi'.1 ∈ vTs) (hm : vMs mi' 2) (hw : (st.map fun v => v.category).sum ≤ 8) (hn : pc + 3 = n) (hC : Vc mi' d 0 0 [x1, x2] S I L (ViQ fun r S' I' L' => Vw mi (d + 1) mc ms cr sr Q n lv (.int r :: st) S' I' L')) : Vw mi (d + 1) mc ms cr sr Q pc lv (x2 :: x1 :: st) S I L :=
  Vw.invS (mc' := 0) (ms' := 0) (As := [x1, x2]) hd hl hm rfl rfl hw hn (hC.mono (fun v S' I' L' h => by obtain ⟨r, rfl, h⟩ := h; exact h))
theorem Vw.isl2 (hd : decode mi.2.1 pc = .ok (.invokestatic idx, 3)) (hl : Cond.methodLink mi.1.cls idx mi'.1 ∈ vTs) (hm : vMs mi' 2) (hw : (st.map fun v => v.category).sum ≤ 8) (hn : pc + 3 = n) (hC : Vc mi' d 0 0 [x1, x2] S I L (VlQ fun r S' I' L' => Vw mi (d + 1) mc ms cr sr Q n lv (.long r :: st) S' I' L')) : Vw mi (d + 1) mc ms cr sr Q pc lv (x2 :: x1 :: st) S I L :=
  Vw.invS (mc' := 0) (ms' := 0) (As := [x1, x2]) hd hl hm rfl rfl hw hn (hC.mono (fun v S' I' L' h => by obtain ⟨r, rfl, h⟩ := h; exact h))
theorem Vw.isr2 (hd : decode mi.2.1 pc = .ok (.invokestatic idx, 3)) (hl : Cond.methodLink mi.1.cls idx mi'.1 ∈ vTs) (hm : vMs mi' 2) (hw : (st.map fun v => v.category).sum ≤ 8) (hn : pc + 3 = n) (hC : Vc mi' d 0 0 [x1, x2] S I L (VrQ fun r S' I' L' => Vw mi (d + 1) mc ms cr sr Q n lv (va_rf r :: st) S' I' L')) : Vw mi (d + 1) mc ms cr sr Q pc lv (x2 :: x1 :: st) S I L :=
  Vw.invS (mc' := 0) (ms' := 0) (As := [x1, x2]) hd hl hm rfl rfl hw hn (hC.mono (fun v S' I' L' h => by obtain ⟨r, rfl, h⟩ := h; exact h))
theorem Vw.isv2 (hd : decode mi.2.1 pc = .ok (.invokestatic idx, 3)) (hl : Cond.methodLink mi.1.cls idx mi'.1 ∈ vTs) (hm : vMs mi' 2) (hw : (st.map fun v => v.category).sum ≤ 8) (hn : pc + 3 = n) (hC : Vc mi' d 0 0 [x1, x2] S I L (VvQ fun S' I' L' => Vw mi (d + 1) mc ms cr sr Q n lv st S' I' L')) : Vw mi (d + 1) mc ms cr sr Q pc lv (x2 :: x1 :: st) S I L :=
  Vw.invS (mc' := 0) (ms' := 0) (As := [x1, x2]) hd hl hm rfl rfl hw hn (hC.mono (fun v S' I' L' h => by obtain ⟨rfl, h⟩ := h; exact h))
theorem Vw.isi3 (hd : decode mi.2.1 pc = .ok (.invokestatic idx, 3)) (hl : Cond.methodLink mi.1.cls idx mi'.1 ∈ vTs) (hm : vMs mi' 3) (hw : (st.map fun v => v.category).sum ≤ 8) (hn : pc + 3 = n) (hC : Vc mi' d 0 0 [x1, x2, x3] S I L (ViQ fun r S' I' L' => Vw mi (d + 1) mc ms cr sr Q n lv (.int r :: st) S' I' L')) : Vw mi (d + 1) mc ms cr sr Q pc lv (x3 :: x2 :: x1 :: st) S I L :=
  Vw.invS (mc' := 0) (ms' := 0) (As := [x1, x2, x3]) hd hl hm rfl rfl hw hn (hC.mono (fun v S' I' L' h => by obtain ⟨r, rfl, h⟩ := h; exact h))
theorem Vw.isl3 (hd : decode mi.2.1 pc = .ok (.invokestatic idx, 3)) (hl : Cond.methodLink mi.1.cls idx mi'.1 ∈ vTs) (hm : vMs mi' 3) (hw : (st.map fun v => v.category).sum ≤ 8) (hn : pc + 3 = n) (hC : Vc mi' d 0 0 [x1, x2, x3] S I L (VlQ fun r S' I' L' => Vw mi (d + 1) mc ms cr sr Q n lv (.long r :: st) S' I' L')) : Vw mi (d + 1) mc ms cr sr Q pc lv (x3 :: x2 :: x1 :: st) S I L :=
  Vw.invS (mc' := 0) (ms' := 0) (As := [x1, x2, x3]) hd hl hm rfl rfl hw hn (hC.mono (fun v S' I' L' h => by obtain ⟨r, rfl, h⟩ := h; exact h))
theorem Vw.isr3 (hd : decode mi.2.1 pc = .ok (.invokestatic idx, 3)) (hl : Cond.methodLink mi.1.cls idx mi'.1 ∈ vTs) (hm : vMs mi' 3) (hw : (st.map fun v => v.category).sum ≤ 8) (hn : pc + 3 = n) (hC : Vc mi' d 0 0 [x1, x2, x3] S I L (VrQ fun r S' I' L' => Vw mi (d + 1) mc ms cr sr Q n lv (va_rf r :: st) S' I' L')) : Vw mi (d + 1) mc ms cr sr Q pc lv (x3 :: x2 :: x1 :: st) S I L :=
  Vw.invS (mc' := 0) (ms' := 0) (As := [x1, x2, x3]) hd hl hm rfl rfl hw hn (hC.mono (fun v S' I' L' h => by obtain ⟨r, rfl, h⟩ := h; exact h))
theorem Vw.isv3 (hd : decode mi.2.1 pc = .ok (.invokestatic idx, 3)) (hl : Cond.methodLink mi.1.cls idx mi'.1 ∈ vTs) (hm : vMs mi' 3) (hw : (st.map fun v => v.category).sum ≤ 8) (hn : pc + 3 = n) (hC : Vc mi' d 0 0 [x1, x2, x3] S I L (VvQ fun S' I' L' => Vw mi (d + 1) mc ms cr sr Q n lv st S' I' L')) : Vw mi (d + 1) mc ms cr sr Q pc lv (x3 :: x2 :: x1 :: st) S I L :=
  Vw.invS (mc' := 0) (ms' := 0) (As := [x1, x2, x3]) hd hl hm rfl rfl hw hn (hC.mono (fun v S' I' L' h => by obtain ⟨rfl, h⟩ := h; exact h))
theorem Vw.isi4 (hd : decode mi.2.1 pc = .ok (.invokestatic idx, 3)) (hl : Cond.methodLink mi.1.cls idx mi'.1 ∈ vTs) (hm : vMs mi' 4) (hw : (st.map fun v => v.category).sum ≤ 8) (hn : pc + 3 = n) (hC : Vc mi' d 0 0 [x1, x2, x3, x4] S I L (ViQ fun r S' I' L' => Vw mi (d + 1) mc ms cr sr Q n lv (.int r :: st) S' I' L')) : Vw mi (d + 1) mc ms cr sr Q pc lv (x4 :: x3 :: x2 :: x1 :: st) S I L :=
  Vw.invS (mc' := 0) (ms' := 0) (As := [x1, x2, x3, x4]) hd hl hm rfl rfl hw hn (hC.mono (fun v S' I' L' h => by obtain ⟨r, rfl, h⟩ := h; exact h))
theorem Vw.isl4 (hd : decode mi.2.1 pc = .ok (.invokestatic idx, 3)) (hl : Cond.methodLink mi.1.cls idx mi'.1 ∈ vTs) (hm : vMs mi' 4) (hw : (st.map fun v => v.category).sum ≤ 8) (hn : pc + 3 = n) (hC : Vc mi' d 0 0 [x1, x2, x3, x4] S I L (VlQ fun r S' I' L' => Vw mi (d + 1) mc ms cr sr Q n lv (.long r :: st) S' I' L')) : Vw mi (d + 1) mc ms cr sr Q pc lv (x4 :: x3 :: x2 :: x1 :: st) S I L :=
  Vw.invS (mc' := 0) (ms' := 0) (As := [x1, x2, x3, x4]) hd hl hm rfl rfl hw hn (hC.mono (fun v S' I' L' h => by obtain ⟨r, rfl, h⟩ := h; exact h))
theorem Vw.isr4 (hd : decode mi.2.1 pc = .ok (.invokestatic idx, 3)) (hl : Cond.methodLink mi.1.cls idx mi'.1 ∈ vTs) (hm : vMs mi' 4) (hw : (st.map fun v => v.category).sum ≤ 8) (hn : pc + 3 = n) (hC : Vc mi' d 0 0 [x1, x2, x3, x4] S I L (VrQ fun r S' I' L' => Vw mi (d + 1) mc ms cr sr Q n lv (va_rf r :: st) S' I' L')) : Vw mi (d + 1) mc ms cr sr Q pc lv (x4 :: x3 :: x2 :: x1 :: st) S I L :=
  Vw.invS (mc' := 0) (ms' := 0) (As := [x1, x2, x3, x4]) hd hl hm rfl rfl hw hn (hC.mono (fun v S' I' L' h => by obtain ⟨r, rfl, h⟩ := h; exact h))
theorem Vw.isv4 (hd : decode mi.2.1 pc = .ok (.invokestatic idx, 3)) (hl : Cond.methodLink mi.1.cls idx mi'.1 ∈ vTs) (hm : vMs mi' 4) (hw : (st.map fun v => v.category).sum ≤ 8) (hn : pc + 3 = n) (hC : Vc mi' d 0 0 [x1, x2, x3, x4] S I L (VvQ fun S' I' L' => Vw mi (d + 1) mc ms cr sr Q n lv st S' I' L')) : Vw mi (d + 1) mc ms cr sr Q pc lv (x4 :: x3 :: x2 :: x1 :: st) S I L :=
  Vw.invS (mc' := 0) (ms' := 0) (As := [x1, x2, x3, x4]) hd hl hm rfl rfl hw hn (hC.mono (fun v S' I' L' h => by obtain ⟨rfl, h⟩ := h; exact h))
theorem Vw.isi5 (hd : decode mi.2.1 pc = .ok (.invokestatic idx, 3)) (hl : Cond.methodLink mi.1.cls idx mi'.1 ∈ vTs) (hm : vMs mi' 5) (hw : (st.map fun v => v.category).sum ≤ 8) (hn : pc + 3 = n) (hC : Vc mi' d 0 0 [x1, x2, x3, x4, x5] S I L (ViQ fun r S' I' L' => Vw mi (d + 1) mc ms cr sr Q n lv (.int r :: st) S' I' L')) : Vw mi (d + 1) mc ms cr sr Q pc lv (x5 :: x4 :: x3 :: x2 :: x1 :: st) S I L :=
  Vw.invS (mc' := 0) (ms' := 0) (As := [x1, x2, x3, x4, x5]) hd hl hm rfl rfl hw hn (hC.mono (fun v S' I' L' h => by obtain ⟨r, rfl, h⟩ := h; exact h))
theorem Vw.isv5 (hd : decode mi.2.1 pc = .ok (.invokestatic idx, 3)) (hl : Cond.methodLink mi.1.cls idx mi'.1 ∈ vTs) (hm : vMs mi' 5) (hw : (st.map fun v => v.category).sum ≤ 8) (hn : pc + 3 = n) (hC : Vc mi' d 0 0 [x1, x2, x3, x4, x5] S I L (VvQ fun S' I' L' => Vw mi (d + 1) mc ms cr sr Q n lv st S' I' L')) : Vw mi (d + 1) mc ms cr sr Q pc lv (x5 :: x4 :: x3 :: x2 :: x1 :: st) S I L :=
  Vw.invS (mc' := 0) (ms' := 0) (As := [x1, x2, x3, x4, x5]) hd hl hm rfl rfl hw hn (hC.mono (fun v S' I' L' h => by obtain ⟨rfl, h⟩ := h; exact h))
theorem Vw.isni3 (hd : decode mi.2.1 pc = .ok (.invokestatic idx, 3)) (hl : Cond.methodLinkNest mi.1.cls idx mi'.1 RX11 ∈ vNst) (hm : vMs mi' 3) (hw : (st.map fun v => v.category).sum ≤ 8) (hn : pc + 3 = n) (hC : Vc mi' d 0 0 [x1, x2, x3] S I L (ViQ fun r S' I' L' => Vw mi (d + 1) mc ms cr sr Q n lv (.int r :: st) S' I' L')) : Vw mi (d + 1) mc ms cr sr Q pc lv (x3 :: x2 :: x1 :: st) S I L :=
  Vw.invSN (mc' := 0) (ms' := 0) (As := [x1, x2, x3]) hd hl hm rfl rfl hw hn (hC.mono (fun v S' I' L' h => by obtain ⟨r, rfl, h⟩ := h; exact h))
theorem Vw.iiv0 {mc' ms' : Nat} (hd : decode mi.2.1 pc = .ok (.invokespecial idx, 3)) (hl : Cond.methodLink mi.1.cls idx mi'.1 ∈ vTs ∨ Cond.methodLinkNest mi.1.cls idx mi'.1 RX11 ∈ vNst) (hm : vMi mi' 0) (hw : (st.map fun v => v.category).sum ≤ 8) (hn : pc + 3 = n) (hC : Vc mi' d mc' ms' [.ref b] S I L (VvQ fun S' I' L' => Vw mi (d + 1) mc ms cr sr Q n lv st S' I' L')) : Vw mi (d + 1) mc ms (cr + mc') (sr + ms') Q pc lv (.ref b :: st) S I L :=
  Vw.invI (As := []) hd hl hm rfl rfl hw hn (hC.mono (fun v S' I' L' h => by obtain ⟨rfl, h⟩ := h; exact h))
theorem Vw.iiv1 {mc' ms' : Nat} (hd : decode mi.2.1 pc = .ok (.invokespecial idx, 3)) (hl : Cond.methodLink mi.1.cls idx mi'.1 ∈ vTs ∨ Cond.methodLinkNest mi.1.cls idx mi'.1 RX11 ∈ vNst) (hm : vMi mi' 1) (hw : (st.map fun v => v.category).sum ≤ 8) (hn : pc + 3 = n) (hC : Vc mi' d mc' ms' [.ref b, x1] S I L (VvQ fun S' I' L' => Vw mi (d + 1) mc ms cr sr Q n lv st S' I' L')) : Vw mi (d + 1) mc ms (cr + mc') (sr + ms') Q pc lv (x1 :: .ref b :: st) S I L :=
  Vw.invI (As := [x1]) hd hl hm rfl rfl hw hn (hC.mono (fun v S' I' L' h => by obtain ⟨rfl, h⟩ := h; exact h))
theorem Vw.iiv2 {mc' ms' : Nat} (hd : decode mi.2.1 pc = .ok (.invokespecial idx, 3)) (hl : Cond.methodLink mi.1.cls idx mi'.1 ∈ vTs ∨ Cond.methodLinkNest mi.1.cls idx mi'.1 RX11 ∈ vNst) (hm : vMi mi' 2) (hw : (st.map fun v => v.category).sum ≤ 8) (hn : pc + 3 = n) (hC : Vc mi' d mc' ms' [.ref b, x1, x2] S I L (VvQ fun S' I' L' => Vw mi (d + 1) mc ms cr sr Q n lv st S' I' L')) : Vw mi (d + 1) mc ms (cr + mc') (sr + ms') Q pc lv (x2 :: x1 :: .ref b :: st) S I L :=
  Vw.invI (As := [x1, x2]) hd hl hm rfl rfl hw hn (hC.mono (fun v S' I' L' h => by obtain ⟨rfl, h⟩ := h; exact h))
theorem Vw.iiv3 {mc' ms' : Nat} (hd : decode mi.2.1 pc = .ok (.invokespecial idx, 3)) (hl : Cond.methodLink mi.1.cls idx mi'.1 ∈ vTs ∨ Cond.methodLinkNest mi.1.cls idx mi'.1 RX11 ∈ vNst) (hm : vMi mi' 3) (hw : (st.map fun v => v.category).sum ≤ 8) (hn : pc + 3 = n) (hC : Vc mi' d mc' ms' [.ref b, x1, x2, x3] S I L (VvQ fun S' I' L' => Vw mi (d + 1) mc ms cr sr Q n lv st S' I' L')) : Vw mi (d + 1) mc ms (cr + mc') (sr + ms') Q pc lv (x3 :: x2 :: x1 :: .ref b :: st) S I L :=
  Vw.invI (As := [x1, x2, x3]) hd hl hm rfl rfl hw hn (hC.mono (fun v S' I' L' h => by obtain ⟨rfl, h⟩ := h; exact h))
theorem Vw.iiv4 {mc' ms' : Nat} (hd : decode mi.2.1 pc = .ok (.invokespecial idx, 3)) (hl : Cond.methodLink mi.1.cls idx mi'.1 ∈ vTs ∨ Cond.methodLinkNest mi.1.cls idx mi'.1 RX11 ∈ vNst) (hm : vMi mi' 4) (hw : (st.map fun v => v.category).sum ≤ 8) (hn : pc + 3 = n) (hC : Vc mi' d mc' ms' [.ref b, x1, x2, x3, x4] S I L (VvQ fun S' I' L' => Vw mi (d + 1) mc ms cr sr Q n lv st S' I' L')) : Vw mi (d + 1) mc ms (cr + mc') (sr + ms') Q pc lv (x4 :: x3 :: x2 :: x1 :: .ref b :: st) S I L :=
  Vw.invI (As := [x1, x2, x3, x4]) hd hl hm rfl rfl hw hn (hC.mono (fun v S' I' L' h => by obtain ⟨rfl, h⟩ := h; exact h))
theorem Vw.iiv5 {mc' ms' : Nat} (hd : decode mi.2.1 pc = .ok (.invokespecial idx, 3)) (hl : Cond.methodLink mi.1.cls idx mi'.1 ∈ vTs ∨ Cond.methodLinkNest mi.1.cls idx mi'.1 RX11 ∈ vNst) (hm : vMi mi' 5) (hw : (st.map fun v => v.category).sum ≤ 8) (hn : pc + 3 = n) (hC : Vc mi' d mc' ms' [.ref b, x1, x2, x3, x4, x5] S I L (VvQ fun S' I' L' => Vw mi (d + 1) mc ms cr sr Q n lv st S' I' L')) : Vw mi (d + 1) mc ms (cr + mc') (sr + ms') Q pc lv (x5 :: x4 :: x3 :: x2 :: x1 :: .ref b :: st) S I L :=
  Vw.invI (As := [x1, x2, x3, x4, x5]) hd hl hm rfl rfl hw hn (hC.mono (fun v S' I' L' h => by obtain ⟨rfl, h⟩ := h; exact h))
end ARITY
