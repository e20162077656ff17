/-! law(): a call of the class and of the reference -/
abbrev yL_law : MethodName := ⟨RL, "law", "([I)Z"⟩
abbrev mL_law : vM := (yL_law, cL_law, 4, some .boolean)
section LAWC
variable {mi mi' mx mr : vM} {d mc ms cr sr mc' ms' : Nat} {Q : Option Value → vS → vI → vL → Prop} {pc n np : Nat} {lv : List (Nat × Value)} {st st0 : List Value} {S : vS} {I : vI} {L : vL} {a c idx len b z x r lb : Nat} {As : List Value}
/-- a call; the script is as it was -/
theorem Vw.invVS (hd : decode mi.2.1 pc = .ok (.invokevirtual idx, 3)) (hl : Cond.methodLink mi.1.cls idx mi'.1 ∈ vTs) (hm : vMv mi' c np) (hs : (S.1 b).1 = c) (hst : st0 = As.reverse ++ .ref b :: st) (hA : As.length = np) (hw : (st.map fun v => v.category).sum ≤ 8) (hn : pc + 3 = n) (hz : S.1 z = (400, len))
    (hC : Vc mi' d mc' ms' (.ref b :: As) S I L (fun v S' I' L' => S'.1 z = (400, len) ∧ (I' z = I z → Vw mi (d + 1) mc ms cr sr Q n lv (v.toList ++ st) S' I' L'))) : Vw mi (d + 1) mc ms (cr + mc') (sr + ms') Q pc lv st0 S I L := by
  subst hn
  intro l G p e R s m args below meth cd H locs cells slots ls hX hH hS h1 h2 hlv
  obtain ⟨⟨m1, m2, m3, m4⟩, m5, m6, m7, m8⟩ := hm
  have hts := hX.2.2.2.2.2.2.1
  have hK := hX.2.2.2.2.2.2.2.2.1
  have hR := hX.2.2.2.2.2.2.2.2.2.2.2
  have hcb : CallB R s args mi.1.cls idx mi'.1 mi'.2.1 mi'.2.2.1 mi'.2.2.2 (vWs mi') (vRm d mc' ms') mc' ms' np := callB_of np hts (vWs_good m2) rfl rfl rfl (hts _ m1) (hts _ hl) m3 ⟨by show d + 1 ≤ _; omega, by show 8 + (mi'.2.2.1 + 11) + 48 * d ≤ _; omega⟩
  obtain ⟨cell, g1, g2, g3, -⟩ := hH.obj hs m5
  have hcl := (hK.1.1 c _ (vCl_at m5)).2.1
  have row : ∀ (S' : vS) (I' : vI) (L' : vL) (H1 : Heap), Hx G S' I' L' H1 → S'.1 z = (400, len) → ∀ k, I' z k = gXs G k := fun S' I' L' H1 q e k => by
    have h := ((q.2.2.2.2 z).2.2 (by rw [e])).2.2.2 k
    rw [vMem_i (c := 400) (by rw [e]) rfl] at h
    injection h
  refine vAfter (va_runV (As := As) (rest := st) ⟨hX.1, hX.2.1, hX.2.2.1, hX.2.2.2.2.2.1, hts⟩ (hC l G) ⟨hcb, hts _ m7, hts _ m8⟩ ⟨vBlind, ⟨cell, g1, by rw [g3]; rfl, by rw [m6, g2]; exact hcl⟩, vEnter hH hK⟩ rfl hA hlv.1 hst (lv_room hw) hd ⟨by omega, by omega⟩) hS (fun v S' I' L' H1 locs1 q1 q2 q3 => ?_)
  exact q1.2 (funext fun k => (row S' I' L' H1 q2 q1.1 k).trans (row S I L H hH hz k).symm) l G p e R s m args below meth cd H1 locs1 _ _ ls hX q2 q3 (by omega) (by omega) hlv
theorem Vw.prI (hd : decode mi.2.1 pc = .ok (.invokevirtual idx, 3)) (hl : Cond.methodLink mi.1.cls idx mx.1 ∈ vTs) (hm : vMv mx 11 np) (hs : (S.1 x).1 = 11) (hst : st0 = As.reverse ++ .ref x :: st) (hA : As.length = np) (hw : (st.map fun v => v.category).sum ≤ 8) (hn : pc + 3 = n) (hz : S.1 z = (400, len)) (hzx : z < x) (hk : S.1 r = (12, 0)) (hr : r = x + 914)
    (hP : PR mx mr mc' ms' As x r lb S I L) (kk : ∀ v S2 I2 M, S2.1 z = (400, len) → S2.1 r = (12, 0) → I2 z = I z → (∀ (d2 : Nat) (Q2 : Int32 → vS → vI → vL → Prop), (∀ I3 M3, REL S2 I3 x r lb → Q2 v S2 I3 M3) → Vc mr (d2 + 60) 0 0 (.ref r :: As) S2 I2 M (ViQ Q2)) → Vw mi (d + 80 + 1) mc ms cr sr Q n lv (.int v :: st) S2 I2 M) : Vw mi (d + 80 + 1) mc ms (cr + mc') (sr + ms') Q pc lv st0 S I L := by
  refine Vw.invVS (As := As) hd hl hm hs hst hA hw hn hz ((hP d (fun v S2 I2 M => S2.1 z = (400, len) ∧ (I2 z = I z → Vw mi (d + 80 + 1) mc ms cr sr Q n lv (.int v :: st) S2 I2 M)) (fun v S2 I2 M e1 ct => ⟨(e1 z (by omega)).trans hz, fun eI => kk v S2 I2 M ((e1 z (by omega)).trans hz) ((e1 r (by omega)).trans hk) eI (fun d2 Q2 h => ct d2 Q2 (fun I3 M3 h3 _ => h I3 M3 h3))⟩)).mono (fun v S' I' L' h => ?_))
  obtain ⟨w, rfl, h⟩ := h
  exact h
theorem Vw.prL (hd : decode mi.2.1 pc = .ok (.invokevirtual idx, 3)) (hl : Cond.methodLink mi.1.cls idx mx.1 ∈ vTs) (hm : vMv mx 11 np) (hs : (S.1 x).1 = 11) (hst : st0 = As.reverse ++ .ref x :: st) (hA : As.length = np) (hw : (st.map fun v => v.category).sum ≤ 8) (hn : pc + 3 = n) (hz : S.1 z = (400, len)) (hzx : z < x) (hk : S.1 r = (12, 0)) (hr : r = x + 914)
    (hP : PRl mx mr As x r lb S I L) (kk : ∀ v S2 I2 M, S2.1 z = (400, len) → S2.1 r = (12, 0) → I2 z = I z → (∀ (d2 : Nat) (Q2 : Int64 → vS → vI → vL → Prop), (∀ I3 M3, REL S2 I3 x r lb → Q2 v S2 I3 M3) → Vc mr (d2 + 60) 0 0 (.ref r :: As) S2 I2 M (VlQ Q2)) → Vw mi (d + 80 + 1) mc ms cr sr Q n lv (.long v :: st) S2 I2 M) : Vw mi (d + 80 + 1) mc ms (cr + 0) (sr + 0) Q pc lv st0 S I L := by
  refine Vw.invVS (As := As) hd hl hm hs hst hA hw hn hz ((hP d (fun v S2 I2 M => S2.1 z = (400, len) ∧ (I2 z = I z → Vw mi (d + 80 + 1) mc ms cr sr Q n lv (.long v :: st) S2 I2 M)) (fun v S2 I2 M e1 ct => ⟨(e1 z (by omega)).trans hz, fun eI => kk v S2 I2 M ((e1 z (by omega)).trans hz) ((e1 r (by omega)).trans hk) eI (fun d2 Q2 h => ct d2 Q2 (fun I3 M3 h3 _ => h I3 M3 h3))⟩)).mono (fun v S' I' L' h => ?_))
  obtain ⟨w, rfl, h⟩ := h
  exact h
theorem Vw.prM {v : Int32} (hd : decode mi.2.1 pc = .ok (.invokevirtual idx, 3)) (hl : Cond.methodLink mi.1.cls idx mr.1 ∈ vTs) (hm : vMv mr 12 np) (hk : S.1 r = (12, 0)) (hst : st0 = As.reverse ++ .ref r :: st) (hA : As.length = np) (hw : (st.map fun v => v.category).sum ≤ 8) (hn : pc + 3 = n)
    (hP : ∀ (d2 : Nat) (Q2 : Int32 → vS → vI → vL → Prop), (∀ I3 M3, REL S I3 x r lb → Q2 v S I3 M3) → Vc mr (d2 + 60) 0 0 (.ref r :: As) S I L (ViQ Q2)) (kk : ∀ I3 M3, REL S I3 x r lb → Vw mi (d + 60 + 1) mc ms cr sr Q n lv (.int v :: st) S I3 M3) : Vw mi (d + 60 + 1) mc ms (cr + 0) (sr + 0) Q pc lv st0 S I L := by
  refine Vw.invV (As := As) hd hl hm (by rw [hk]) hst hA hw hn ((hP d (fun v S2 I2 M => Vw mi (d + 60 + 1) mc ms cr sr Q n lv (.int v :: st) S2 I2 M) (fun I3 M3 h => kk I3 M3 h)).mono (fun v S' I' L' h => ?_))
  obtain ⟨w, rfl, h⟩ := h
  exact h
theorem Vw.prN {v : Int64} (hd : decode mi.2.1 pc = .ok (.invokevirtual idx, 3)) (hl : Cond.methodLink mi.1.cls idx mr.1 ∈ vTs) (hm : vMv mr 12 np) (hk : S.1 r = (12, 0)) (hst : st0 = As.reverse ++ .ref r :: st) (hA : As.length = np) (hw : (st.map fun v => v.category).sum ≤ 8) (hn : pc + 3 = n)
    (hP : ∀ (d2 : Nat) (Q2 : Int64 → vS → vI → vL → Prop), (∀ I3 M3, REL S I3 x r lb → Q2 v S I3 M3) → Vc mr (d2 + 60) 0 0 (.ref r :: As) S I L (VlQ Q2)) (kk : ∀ I3 M3, REL S I3 x r lb → Vw mi (d + 60 + 1) mc ms cr sr Q n lv (.long v :: st) S I3 M3) : Vw mi (d + 60 + 1) mc ms (cr + 0) (sr + 0) Q pc lv st0 S I L := by
  refine Vw.invV (As := As) hd hl hm (by rw [hk]) hst hA hw hn ((hP d (fun v S2 I2 M => Vw mi (d + 60 + 1) mc ms cr sr Q n lv (.long v :: st) S2 I2 M) (fun I3 M3 h => kk I3 M3 h)).mono (fun v S' I' L' h => ?_))
  obtain ⟨w, rfl, h⟩ := h
  exact h
end LAWC
theorem nI_p4 {n : Nat} : nI n + 4 = nI (n + 4) := nI_add n 4
theorem nI_p5 {n : Nat} : nI n + 5 = nI (n + 5) := nI_add n 5
theorem nI_p6 {n : Nat} : nI n + 6 = nI (n + 6) := nI_add n 6
theorem REL.kx {S : vS} {I : vI} {x r lb : Nat} (h : REL S I x r lb) : (S.1 x).1 = 11 := by
  obtain ⟨_, _, _, _, _, _, _, _, _, hP⟩ := h; exact hP.1.k
theorem REL.kr {S : vS} {I : vI} {x r lb : Nat} (h : REL S I x r lb) : S.1 r = (12, 0) ∧ r = x + 914 := by
  obtain ⟨_, _, _, _, _, _, _, _, _, hP⟩ := h; exact ⟨hP.2.1.1, hP.2.2.2.1⟩
set_option maxRecDepth 100000 in
theorem law_t {Q : Int32 → vS → vI → vL → Prop} {cr sr z x r k : Nat} {S : vS} {I : vI} {L : vL} (h : Vw mL_law (100 + 1) 600000 7302250 cr sr (ViQ Q) 18 [(0, .ref z), (1, .ref x), (2, .ref r), (3, .int (nI (6 * k + 6)))] [] S I L) : Vw mL_law (100 + 1) 600000 7302250 cr sr (ViQ Q) 1392 [(0, .ref z), (1, .ref x), (2, .ref r), (3, .int (nI (6 * k)))] [] S I L := by
  have B := bs_L_law
  refine Vw.iinc (v := nI (6 * k + 6)) (lv2 := [(0, _), (1, _), (2, _), (3, _)]) (de_iinc (B 1392 _ rfl) (B 1393 _ rfl) (B 1394 _ rfl)) 3 rfl nI_p6 (by decide) [1, 2, 3, 0] rfl (n := 1395) rfl ?_
  refine Vw.goto_ (n := 18) (de_goto_ (B 1395 _ rfl) (B 1396 _ rfl) (B 1397 _ rfl)) rfl ?_
  exact h
set_option maxRecDepth 100000 in
theorem law_person {Q : Int32 → vS → vI → vL → Prop} {cr sr z x r lb len k : Nat} {S : vS} {I : vI} {L : vL} (hR : REL S I x r lb) (hz : S.1 z = (400, len)) (hzx : z < x) (hk : 6 * k + 6 ≤ len) (hl : len ≤ 3072) (ih : ∀ S2 I2 L2, REL S2 I2 x r lb → S2.1 z = (400, len) → Vw mL_law (100 + 1) 600000 7302250 cr sr (ViQ Q) 18 [(0, .ref z), (1, .ref x), (2, .ref r), (3, .int (nI (6 * k + 6)))] [] S2 I2 L2) : Vw mL_law (100 + 1) 600000 7302250 (cr + 8) (sr + 480) (ViQ Q) 204 [(0, .ref z), (1, .ref x), (2, .ref r), (3, .int (nI (6 * k)))] [] S I L := by
  have B := bs_L_law
  have hX := hR.kx
  have hM := hR.kr
  refine Vw.less (cr2 := cr) (sr2 := sr) (by omega) (by omega) ?_
  refine Vw.aload_n (de_aload_1 (B 204 _ rfl)) 1 rfl (n := 205) rfl ?_
  refine Vw.aload_n (de_aload_0 (B 205 _ rfl)) 0 rfl (n := 206) rfl ?_
  refine Vw.iload_n (de_iload_3 (B 206 _ rfl)) 3 rfl (n := 207) rfl ?_
  refine Vw.iconst (v := 1) (de_iconst_1 (B 207 _ rfl)) rfl (n := 208) rfl ?_
  refine Vw.iadd (de_iadd (B 208 _ rfl)) (n := 209) rfl ?_
  rw [nI_p1]
  refine Vw.ialdS (j := 6 * k + 1) (de_iaload (B 209 _ rfl)) hz (vIx_n rfl (by omega) (by omega)) (n := 210) rfl ?_
  refine Vw.aload_n (de_aload_0 (B 210 _ rfl)) 0 rfl (n := 211) rfl ?_
  refine Vw.iload_n (de_iload_3 (B 211 _ rfl)) 3 rfl (n := 212) rfl ?_
  refine Vw.iconst (v := 2) (de_iconst_2 (B 212 _ rfl)) rfl (n := 213) rfl ?_
  refine Vw.iadd (de_iadd (B 213 _ rfl)) (n := 214) rfl ?_
  rw [nI_p2]
  refine Vw.ialdS (j := 6 * k + 2) (de_iaload (B 214 _ rfl)) hz (vIx_n rfl (by omega) (by omega)) (n := 215) rfl ?_
  refine Vw.aload_n (de_aload_0 (B 215 _ rfl)) 0 rfl (n := 216) rfl ?_
  refine Vw.iload_n (de_iload_3 (B 216 _ rfl)) 3 rfl (n := 217) rfl ?_
  refine Vw.iconst (v := 3) (de_iconst_3 (B 217 _ rfl)) rfl (n := 218) rfl ?_
  refine Vw.iadd (de_iadd (B 218 _ rfl)) (n := 219) rfl ?_
  rw [nI_p3]
  refine Vw.ialdS (j := 6 * k + 3) (de_iaload (B 219 _ rfl)) hz (vIx_n rfl (by omega) (by omega)) (n := 220) rfl ?_
  refine Vw.prI (d := 20) (mx := mX11_person) (mr := mX12_person) (As := [.int (I z (6 * k + 1)), .int (I z (6 * k + 2)), .int (I z (6 * k + 3))]) (cr := cr) (sr := sr) (mc' := 0) (ms' := 0) (de_invokevirtual (B 220 _ rfl) (B 221 _ rfl) (B 222 _ rfl)) ml_L_13 mv_X11_person hX rfl rfl (Nat.le_of_ble_eq_true rfl) (n := 223) rfl hz hzx hM.1 hM.2 (pr_person hR) (fun v S2 I2 M z2 r2 eI ct => ?_)
  refine Vw.aload_n (de_aload_2 (B 223 _ rfl)) 2 rfl (n := 224) rfl ?_
  refine Vw.aload_n (de_aload_0 (B 224 _ rfl)) 0 rfl (n := 225) rfl ?_
  refine Vw.iload_n (de_iload_3 (B 225 _ rfl)) 3 rfl (n := 226) rfl ?_
  refine Vw.iconst (v := 1) (de_iconst_1 (B 226 _ rfl)) rfl (n := 227) rfl ?_
  refine Vw.iadd (de_iadd (B 227 _ rfl)) (n := 228) rfl ?_
  rw [nI_p1]
  refine Vw.ialdS (j := 6 * k + 1) (de_iaload (B 228 _ rfl)) z2 (vIx_n rfl (by omega) (by omega)) (n := 229) rfl ?_
  rw [eI]
  refine Vw.aload_n (de_aload_0 (B 229 _ rfl)) 0 rfl (n := 230) rfl ?_
  refine Vw.iload_n (de_iload_3 (B 230 _ rfl)) 3 rfl (n := 231) rfl ?_
  refine Vw.iconst (v := 2) (de_iconst_2 (B 231 _ rfl)) rfl (n := 232) rfl ?_
  refine Vw.iadd (de_iadd (B 232 _ rfl)) (n := 233) rfl ?_
  rw [nI_p2]
  refine Vw.ialdS (j := 6 * k + 2) (de_iaload (B 233 _ rfl)) z2 (vIx_n rfl (by omega) (by omega)) (n := 234) rfl ?_
  rw [eI]
  refine Vw.aload_n (de_aload_0 (B 234 _ rfl)) 0 rfl (n := 235) rfl ?_
  refine Vw.iload_n (de_iload_3 (B 235 _ rfl)) 3 rfl (n := 236) rfl ?_
  refine Vw.iconst (v := 3) (de_iconst_3 (B 236 _ rfl)) rfl (n := 237) rfl ?_
  refine Vw.iadd (de_iadd (B 237 _ rfl)) (n := 238) rfl ?_
  rw [nI_p3]
  refine Vw.ialdS (j := 6 * k + 3) (de_iaload (B 238 _ rfl)) z2 (vIx_n rfl (by omega) (by omega)) (n := 239) rfl ?_
  rw [eI]
  refine Vw.prM (d := 40) (mr := mX12_person) (As := [.int (I z (6 * k + 1)), .int (I z (6 * k + 2)), .int (I z (6 * k + 3))]) (cr := cr) (sr := sr) (de_invokevirtual (B 239 _ rfl) (B 240 _ rfl) (B 241 _ rfl)) ml_L_17 mv_X12_person r2 rfl rfl (Nat.le_of_ble_eq_true rfl) (n := 242) rfl ct (fun I3 M3 h3 => ?_)
  refine Vw.icmp_eq (tgt := 1392) (n := 245) (de_icmp_eq (B 242 _ rfl) (B 243 _ rfl) (B 244 _ rfl)) rfl rfl (fun q => ?_) (fun q => absurd rfl q)
  exact law_t (ih S2 I3 M3 h3 z2)
set_option maxRecDepth 100000 in
theorem law_of {Q : Int32 → vS → vI → vL → Prop} {cr sr z x r lb len k : Nat} {S : vS} {I : vI} {L : vL} (hR : REL S I x r lb) (hz : S.1 z = (400, len)) (hzx : z < x) (hk : 6 * k + 6 ≤ len) (hl : len ≤ 3072) (ih : ∀ S2 I2 L2, REL S2 I2 x r lb → S2.1 z = (400, len) → Vw mL_law (100 + 1) 600000 7302250 cr sr (ViQ Q) 18 [(0, .ref z), (1, .ref x), (2, .ref r), (3, .int (nI (6 * k + 6)))] [] S2 I2 L2) : Vw mL_law (100 + 1) 600000 7302250 (cr + 8) (sr + 480) (ViQ Q) 247 [(0, .ref z), (1, .ref x), (2, .ref r), (3, .int (nI (6 * k)))] [] S I L := by
  have B := bs_L_law
  have hX := hR.kx
  have hM := hR.kr
  refine Vw.less (cr2 := cr) (sr2 := sr) (by omega) (by omega) ?_
  refine Vw.aload_n (de_aload_1 (B 247 _ rfl)) 1 rfl (n := 248) rfl ?_
  refine Vw.aload_n (de_aload_0 (B 248 _ rfl)) 0 rfl (n := 249) rfl ?_
  refine Vw.iload_n (de_iload_3 (B 249 _ rfl)) 3 rfl (n := 250) rfl ?_
  refine Vw.iconst (v := 1) (de_iconst_1 (B 250 _ rfl)) rfl (n := 251) rfl ?_
  refine Vw.iadd (de_iadd (B 251 _ rfl)) (n := 252) rfl ?_
  rw [nI_p1]
  refine Vw.ialdS (j := 6 * k + 1) (de_iaload (B 252 _ rfl)) hz (vIx_n rfl (by omega) (by omega)) (n := 253) rfl ?_
  refine Vw.aload_n (de_aload_0 (B 253 _ rfl)) 0 rfl (n := 254) rfl ?_
  refine Vw.iload_n (de_iload_3 (B 254 _ rfl)) 3 rfl (n := 255) rfl ?_
  refine Vw.iconst (v := 2) (de_iconst_2 (B 255 _ rfl)) rfl (n := 256) rfl ?_
  refine Vw.iadd (de_iadd (B 256 _ rfl)) (n := 257) rfl ?_
  rw [nI_p2]
  refine Vw.ialdS (j := 6 * k + 2) (de_iaload (B 257 _ rfl)) hz (vIx_n rfl (by omega) (by omega)) (n := 258) rfl ?_
  refine Vw.prI (d := 20) (mx := mX11_of) (mr := mX12_of) (As := [.int (I z (6 * k + 1)), .int (I z (6 * k + 2))]) (cr := cr) (sr := sr) (mc' := 0) (ms' := 0) (de_invokevirtual (B 258 _ rfl) (B 259 _ rfl) (B 260 _ rfl)) ml_L_18 mv_X11_of hX rfl rfl (Nat.le_of_ble_eq_true rfl) (n := 261) rfl hz hzx hM.1 hM.2 (pr_of hR) (fun v S2 I2 M z2 r2 eI ct => ?_)
  refine Vw.aload_n (de_aload_2 (B 261 _ rfl)) 2 rfl (n := 262) rfl ?_
  refine Vw.aload_n (de_aload_0 (B 262 _ rfl)) 0 rfl (n := 263) rfl ?_
  refine Vw.iload_n (de_iload_3 (B 263 _ rfl)) 3 rfl (n := 264) rfl ?_
  refine Vw.iconst (v := 1) (de_iconst_1 (B 264 _ rfl)) rfl (n := 265) rfl ?_
  refine Vw.iadd (de_iadd (B 265 _ rfl)) (n := 266) rfl ?_
  rw [nI_p1]
  refine Vw.ialdS (j := 6 * k + 1) (de_iaload (B 266 _ rfl)) z2 (vIx_n rfl (by omega) (by omega)) (n := 267) rfl ?_
  rw [eI]
  refine Vw.aload_n (de_aload_0 (B 267 _ rfl)) 0 rfl (n := 268) rfl ?_
  refine Vw.iload_n (de_iload_3 (B 268 _ rfl)) 3 rfl (n := 269) rfl ?_
  refine Vw.iconst (v := 2) (de_iconst_2 (B 269 _ rfl)) rfl (n := 270) rfl ?_
  refine Vw.iadd (de_iadd (B 270 _ rfl)) (n := 271) rfl ?_
  rw [nI_p2]
  refine Vw.ialdS (j := 6 * k + 2) (de_iaload (B 271 _ rfl)) z2 (vIx_n rfl (by omega) (by omega)) (n := 272) rfl ?_
  rw [eI]
  refine Vw.prM (d := 40) (mr := mX12_of) (As := [.int (I z (6 * k + 1)), .int (I z (6 * k + 2))]) (cr := cr) (sr := sr) (de_invokevirtual (B 272 _ rfl) (B 273 _ rfl) (B 274 _ rfl)) ml_L_22 mv_X12_of r2 rfl rfl (Nat.le_of_ble_eq_true rfl) (n := 275) rfl ct (fun I3 M3 h3 => ?_)
  refine Vw.icmp_eq (tgt := 1392) (n := 278) (de_icmp_eq (B 275 _ rfl) (B 276 _ rfl) (B 277 _ rfl)) rfl rfl (fun q => ?_) (fun q => absurd rfl q)
  exact law_t (ih S2 I3 M3 h3 z2)
set_option maxRecDepth 100000 in
theorem law_nourish {Q : Int32 → vS → vI → vL → Prop} {cr sr z x r lb len k : Nat} {S : vS} {I : vI} {L : vL} (hR : REL S I x r lb) (hz : S.1 z = (400, len)) (hzx : z < x) (hk : 6 * k + 6 ≤ len) (hl : len ≤ 3072) (ih : ∀ S2 I2 L2, REL S2 I2 x r lb → S2.1 z = (400, len) → Vw mL_law (100 + 1) 600000 7302250 cr sr (ViQ Q) 18 [(0, .ref z), (1, .ref x), (2, .ref r), (3, .int (nI (6 * k + 6)))] [] S2 I2 L2) : Vw mL_law (100 + 1) 600000 7302250 (cr + 8) (sr + 480) (ViQ Q) 280 [(0, .ref z), (1, .ref x), (2, .ref r), (3, .int (nI (6 * k)))] [] S I L := by
  have B := bs_L_law
  have hX := hR.kx
  have hM := hR.kr
  refine Vw.less (cr2 := cr) (sr2 := sr) (by omega) (by omega) ?_
  refine Vw.aload_n (de_aload_1 (B 280 _ rfl)) 1 rfl (n := 281) rfl ?_
  refine Vw.aload_n (de_aload_0 (B 281 _ rfl)) 0 rfl (n := 282) rfl ?_
  refine Vw.iload_n (de_iload_3 (B 282 _ rfl)) 3 rfl (n := 283) rfl ?_
  refine Vw.iconst (v := 1) (de_iconst_1 (B 283 _ rfl)) rfl (n := 284) rfl ?_
  refine Vw.iadd (de_iadd (B 284 _ rfl)) (n := 285) rfl ?_
  rw [nI_p1]
  refine Vw.ialdS (j := 6 * k + 1) (de_iaload (B 285 _ rfl)) hz (vIx_n rfl (by omega) (by omega)) (n := 286) rfl ?_
  refine Vw.aload_n (de_aload_0 (B 286 _ rfl)) 0 rfl (n := 287) rfl ?_
  refine Vw.iload_n (de_iload_3 (B 287 _ rfl)) 3 rfl (n := 288) rfl ?_
  refine Vw.iconst (v := 2) (de_iconst_2 (B 288 _ rfl)) rfl (n := 289) rfl ?_
  refine Vw.iadd (de_iadd (B 289 _ rfl)) (n := 290) rfl ?_
  rw [nI_p2]
  refine Vw.ialdS (j := 6 * k + 2) (de_iaload (B 290 _ rfl)) hz (vIx_n rfl (by omega) (by omega)) (n := 291) rfl ?_
  refine Vw.prI (d := 20) (mx := mX11_nourish) (mr := mX12_nourish) (As := [.int (I z (6 * k + 1)), .int (I z (6 * k + 2))]) (cr := cr) (sr := sr) (mc' := 0) (ms' := 0) (de_invokevirtual (B 291 _ rfl) (B 292 _ rfl) (B 293 _ rfl)) ml_L_23 mv_X11_nourish hX rfl rfl (Nat.le_of_ble_eq_true rfl) (n := 294) rfl hz hzx hM.1 hM.2 (pr_nourish hR) (fun v S2 I2 M z2 r2 eI ct => ?_)
  refine Vw.aload_n (de_aload_2 (B 294 _ rfl)) 2 rfl (n := 295) rfl ?_
  refine Vw.aload_n (de_aload_0 (B 295 _ rfl)) 0 rfl (n := 296) rfl ?_
  refine Vw.iload_n (de_iload_3 (B 296 _ rfl)) 3 rfl (n := 297) rfl ?_
  refine Vw.iconst (v := 1) (de_iconst_1 (B 297 _ rfl)) rfl (n := 298) rfl ?_
  refine Vw.iadd (de_iadd (B 298 _ rfl)) (n := 299) rfl ?_
  rw [nI_p1]
  refine Vw.ialdS (j := 6 * k + 1) (de_iaload (B 299 _ rfl)) z2 (vIx_n rfl (by omega) (by omega)) (n := 300) rfl ?_
  rw [eI]
  refine Vw.aload_n (de_aload_0 (B 300 _ rfl)) 0 rfl (n := 301) rfl ?_
  refine Vw.iload_n (de_iload_3 (B 301 _ rfl)) 3 rfl (n := 302) rfl ?_
  refine Vw.iconst (v := 2) (de_iconst_2 (B 302 _ rfl)) rfl (n := 303) rfl ?_
  refine Vw.iadd (de_iadd (B 303 _ rfl)) (n := 304) rfl ?_
  rw [nI_p2]
  refine Vw.ialdS (j := 6 * k + 2) (de_iaload (B 304 _ rfl)) z2 (vIx_n rfl (by omega) (by omega)) (n := 305) rfl ?_
  rw [eI]
  refine Vw.prM (d := 40) (mr := mX12_nourish) (As := [.int (I z (6 * k + 1)), .int (I z (6 * k + 2))]) (cr := cr) (sr := sr) (de_invokevirtual (B 305 _ rfl) (B 306 _ rfl) (B 307 _ rfl)) ml_L_26 mv_X12_nourish r2 rfl rfl (Nat.le_of_ble_eq_true rfl) (n := 308) rfl ct (fun I3 M3 h3 => ?_)
  refine Vw.icmp_eq (tgt := 1392) (n := 311) (de_icmp_eq (B 308 _ rfl) (B 309 _ rfl) (B 310 _ rfl)) rfl rfl (fun q => ?_) (fun q => absurd rfl q)
  exact law_t (ih S2 I3 M3 h3 z2)
set_option maxRecDepth 100000 in
theorem law_bale {Q : Int32 → vS → vI → vL → Prop} {cr sr z x r lb len k : Nat} {S : vS} {I : vI} {L : vL} (hR : REL S I x r lb) (hz : S.1 z = (400, len)) (hzx : z < x) (hk : 6 * k + 6 ≤ len) (hl : len ≤ 3072) (ih : ∀ S2 I2 L2, REL S2 I2 x r lb → S2.1 z = (400, len) → Vw mL_law (100 + 1) 600000 7302250 cr sr (ViQ Q) 18 [(0, .ref z), (1, .ref x), (2, .ref r), (3, .int (nI (6 * k + 6)))] [] S2 I2 L2) : Vw mL_law (100 + 1) 600000 7302250 (cr + 8) (sr + 480) (ViQ Q) 313 [(0, .ref z), (1, .ref x), (2, .ref r), (3, .int (nI (6 * k)))] [] S I L := by
  have B := bs_L_law
  have hX := hR.kx
  have hM := hR.kr
  refine Vw.less (cr2 := cr) (sr2 := sr) (by omega) (by omega) ?_
  refine Vw.aload_n (de_aload_1 (B 313 _ rfl)) 1 rfl (n := 314) rfl ?_
  refine Vw.aload_n (de_aload_0 (B 314 _ rfl)) 0 rfl (n := 315) rfl ?_
  refine Vw.iload_n (de_iload_3 (B 315 _ rfl)) 3 rfl (n := 316) rfl ?_
  refine Vw.iconst (v := 1) (de_iconst_1 (B 316 _ rfl)) rfl (n := 317) rfl ?_
  refine Vw.iadd (de_iadd (B 317 _ rfl)) (n := 318) rfl ?_
  rw [nI_p1]
  refine Vw.ialdS (j := 6 * k + 1) (de_iaload (B 318 _ rfl)) hz (vIx_n rfl (by omega) (by omega)) (n := 319) rfl ?_
  refine Vw.aload_n (de_aload_0 (B 319 _ rfl)) 0 rfl (n := 320) rfl ?_
  refine Vw.iload_n (de_iload_3 (B 320 _ rfl)) 3 rfl (n := 321) rfl ?_
  refine Vw.iconst (v := 2) (de_iconst_2 (B 321 _ rfl)) rfl (n := 322) rfl ?_
  refine Vw.iadd (de_iadd (B 322 _ rfl)) (n := 323) rfl ?_
  rw [nI_p2]
  refine Vw.ialdS (j := 6 * k + 2) (de_iaload (B 323 _ rfl)) hz (vIx_n rfl (by omega) (by omega)) (n := 324) rfl ?_
  refine Vw.prI (d := 20) (mx := mX11_bale) (mr := mX12_bale) (As := [.int (I z (6 * k + 1)), .int (I z (6 * k + 2))]) (cr := cr) (sr := sr) (mc' := 0) (ms' := 0) (de_invokevirtual (B 324 _ rfl) (B 325 _ rfl) (B 326 _ rfl)) ml_L_27 mv_X11_bale hX rfl rfl (Nat.le_of_ble_eq_true rfl) (n := 327) rfl hz hzx hM.1 hM.2 (pr_bale hR) (fun v S2 I2 M z2 r2 eI ct => ?_)
  refine Vw.aload_n (de_aload_2 (B 327 _ rfl)) 2 rfl (n := 328) rfl ?_
  refine Vw.aload_n (de_aload_0 (B 328 _ rfl)) 0 rfl (n := 329) rfl ?_
  refine Vw.iload_n (de_iload_3 (B 329 _ rfl)) 3 rfl (n := 330) rfl ?_
  refine Vw.iconst (v := 1) (de_iconst_1 (B 330 _ rfl)) rfl (n := 331) rfl ?_
  refine Vw.iadd (de_iadd (B 331 _ rfl)) (n := 332) rfl ?_
  rw [nI_p1]
  refine Vw.ialdS (j := 6 * k + 1) (de_iaload (B 332 _ rfl)) z2 (vIx_n rfl (by omega) (by omega)) (n := 333) rfl ?_
  rw [eI]
  refine Vw.aload_n (de_aload_0 (B 333 _ rfl)) 0 rfl (n := 334) rfl ?_
  refine Vw.iload_n (de_iload_3 (B 334 _ rfl)) 3 rfl (n := 335) rfl ?_
  refine Vw.iconst (v := 2) (de_iconst_2 (B 335 _ rfl)) rfl (n := 336) rfl ?_
  refine Vw.iadd (de_iadd (B 336 _ rfl)) (n := 337) rfl ?_
  rw [nI_p2]
  refine Vw.ialdS (j := 6 * k + 2) (de_iaload (B 337 _ rfl)) z2 (vIx_n rfl (by omega) (by omega)) (n := 338) rfl ?_
  rw [eI]
  refine Vw.prM (d := 40) (mr := mX12_bale) (As := [.int (I z (6 * k + 1)), .int (I z (6 * k + 2))]) (cr := cr) (sr := sr) (de_invokevirtual (B 338 _ rfl) (B 339 _ rfl) (B 340 _ rfl)) ml_L_30 mv_X12_bale r2 rfl rfl (Nat.le_of_ble_eq_true rfl) (n := 341) rfl ct (fun I3 M3 h3 => ?_)
  refine Vw.icmp_eq (tgt := 1392) (n := 344) (de_icmp_eq (B 341 _ rfl) (B 342 _ rfl) (B 343 _ rfl)) rfl rfl (fun q => ?_) (fun q => absurd rfl q)
  exact law_t (ih S2 I3 M3 h3 z2)
set_option maxRecDepth 100000 in
theorem law_tailor {Q : Int32 → vS → vI → vL → Prop} {cr sr z x r lb len k : Nat} {S : vS} {I : vI} {L : vL} (hR : REL S I x r lb) (hz : S.1 z = (400, len)) (hzx : z < x) (hk : 6 * k + 6 ≤ len) (hl : len ≤ 3072) (ih : ∀ S2 I2 L2, REL S2 I2 x r lb → S2.1 z = (400, len) → Vw mL_law (100 + 1) 600000 7302250 cr sr (ViQ Q) 18 [(0, .ref z), (1, .ref x), (2, .ref r), (3, .int (nI (6 * k + 6)))] [] S2 I2 L2) : Vw mL_law (100 + 1) 600000 7302250 (cr + 8) (sr + 480) (ViQ Q) 346 [(0, .ref z), (1, .ref x), (2, .ref r), (3, .int (nI (6 * k)))] [] S I L := by
  have B := bs_L_law
  have hX := hR.kx
  have hM := hR.kr
  refine Vw.less (cr2 := cr) (sr2 := sr) (by omega) (by omega) ?_
  refine Vw.aload_n (de_aload_1 (B 346 _ rfl)) 1 rfl (n := 347) rfl ?_
  refine Vw.aload_n (de_aload_0 (B 347 _ rfl)) 0 rfl (n := 348) rfl ?_
  refine Vw.iload_n (de_iload_3 (B 348 _ rfl)) 3 rfl (n := 349) rfl ?_
  refine Vw.iconst (v := 1) (de_iconst_1 (B 349 _ rfl)) rfl (n := 350) rfl ?_
  refine Vw.iadd (de_iadd (B 350 _ rfl)) (n := 351) rfl ?_
  rw [nI_p1]
  refine Vw.ialdS (j := 6 * k + 1) (de_iaload (B 351 _ rfl)) hz (vIx_n rfl (by omega) (by omega)) (n := 352) rfl ?_
  refine Vw.aload_n (de_aload_0 (B 352 _ rfl)) 0 rfl (n := 353) rfl ?_
  refine Vw.iload_n (de_iload_3 (B 353 _ rfl)) 3 rfl (n := 354) rfl ?_
  refine Vw.iconst (v := 2) (de_iconst_2 (B 354 _ rfl)) rfl (n := 355) rfl ?_
  refine Vw.iadd (de_iadd (B 355 _ rfl)) (n := 356) rfl ?_
  rw [nI_p2]
  refine Vw.ialdS (j := 6 * k + 2) (de_iaload (B 356 _ rfl)) hz (vIx_n rfl (by omega) (by omega)) (n := 357) rfl ?_
  refine Vw.prI (d := 20) (mx := mX11_tailor) (mr := mX12_tailor) (As := [.int (I z (6 * k + 1)), .int (I z (6 * k + 2))]) (cr := cr) (sr := sr) (mc' := 0) (ms' := 0) (de_invokevirtual (B 357 _ rfl) (B 358 _ rfl) (B 359 _ rfl)) ml_L_31 mv_X11_tailor hX rfl rfl (Nat.le_of_ble_eq_true rfl) (n := 360) rfl hz hzx hM.1 hM.2 (pr_tailor hR) (fun v S2 I2 M z2 r2 eI ct => ?_)
  refine Vw.aload_n (de_aload_2 (B 360 _ rfl)) 2 rfl (n := 361) rfl ?_
  refine Vw.aload_n (de_aload_0 (B 361 _ rfl)) 0 rfl (n := 362) rfl ?_
  refine Vw.iload_n (de_iload_3 (B 362 _ rfl)) 3 rfl (n := 363) rfl ?_
  refine Vw.iconst (v := 1) (de_iconst_1 (B 363 _ rfl)) rfl (n := 364) rfl ?_
  refine Vw.iadd (de_iadd (B 364 _ rfl)) (n := 365) rfl ?_
  rw [nI_p1]
  refine Vw.ialdS (j := 6 * k + 1) (de_iaload (B 365 _ rfl)) z2 (vIx_n rfl (by omega) (by omega)) (n := 366) rfl ?_
  rw [eI]
  refine Vw.aload_n (de_aload_0 (B 366 _ rfl)) 0 rfl (n := 367) rfl ?_
  refine Vw.iload_n (de_iload_3 (B 367 _ rfl)) 3 rfl (n := 368) rfl ?_
  refine Vw.iconst (v := 2) (de_iconst_2 (B 368 _ rfl)) rfl (n := 369) rfl ?_
  refine Vw.iadd (de_iadd (B 369 _ rfl)) (n := 370) rfl ?_
  rw [nI_p2]
  refine Vw.ialdS (j := 6 * k + 2) (de_iaload (B 370 _ rfl)) z2 (vIx_n rfl (by omega) (by omega)) (n := 371) rfl ?_
  rw [eI]
  refine Vw.prM (d := 40) (mr := mX12_tailor) (As := [.int (I z (6 * k + 1)), .int (I z (6 * k + 2))]) (cr := cr) (sr := sr) (de_invokevirtual (B 371 _ rfl) (B 372 _ rfl) (B 373 _ rfl)) ml_L_34 mv_X12_tailor r2 rfl rfl (Nat.le_of_ble_eq_true rfl) (n := 374) rfl ct (fun I3 M3 h3 => ?_)
  refine Vw.icmp_eq (tgt := 1392) (n := 377) (de_icmp_eq (B 374 _ rfl) (B 375 _ rfl) (B 376 _ rfl)) rfl rfl (fun q => ?_) (fun q => absurd rfl q)
  exact law_t (ih S2 I3 M3 h3 z2)
set_option maxRecDepth 100000 in
theorem law_terms {Q : Int32 → vS → vI → vL → Prop} {cr sr z x r lb len k : Nat} {S : vS} {I : vI} {L : vL} (hR : REL S I x r lb) (hz : S.1 z = (400, len)) (hzx : z < x) (hk : 6 * k + 6 ≤ len) (hl : len ≤ 3072) (ih : ∀ S2 I2 L2, REL S2 I2 x r lb → S2.1 z = (400, len) → Vw mL_law (100 + 1) 600000 7302250 cr sr (ViQ Q) 18 [(0, .ref z), (1, .ref x), (2, .ref r), (3, .int (nI (6 * k + 6)))] [] S2 I2 L2) : Vw mL_law (100 + 1) 600000 7302250 (cr + 8) (sr + 480) (ViQ Q) 379 [(0, .ref z), (1, .ref x), (2, .ref r), (3, .int (nI (6 * k)))] [] S I L := by
  have B := bs_L_law
  have hX := hR.kx
  have hM := hR.kr
  refine Vw.less (cr2 := cr) (sr2 := sr) (by omega) (by omega) ?_
  refine Vw.aload_n (de_aload_1 (B 379 _ rfl)) 1 rfl (n := 380) rfl ?_
  refine Vw.aload_n (de_aload_0 (B 380 _ rfl)) 0 rfl (n := 381) rfl ?_
  refine Vw.iload_n (de_iload_3 (B 381 _ rfl)) 3 rfl (n := 382) rfl ?_
  refine Vw.iconst (v := 1) (de_iconst_1 (B 382 _ rfl)) rfl (n := 383) rfl ?_
  refine Vw.iadd (de_iadd (B 383 _ rfl)) (n := 384) rfl ?_
  rw [nI_p1]
  refine Vw.ialdS (j := 6 * k + 1) (de_iaload (B 384 _ rfl)) hz (vIx_n rfl (by omega) (by omega)) (n := 385) rfl ?_
  refine Vw.aload_n (de_aload_0 (B 385 _ rfl)) 0 rfl (n := 386) rfl ?_
  refine Vw.iload_n (de_iload_3 (B 386 _ rfl)) 3 rfl (n := 387) rfl ?_
  refine Vw.iconst (v := 2) (de_iconst_2 (B 387 _ rfl)) rfl (n := 388) rfl ?_
  refine Vw.iadd (de_iadd (B 388 _ rfl)) (n := 389) rfl ?_
  rw [nI_p2]
  refine Vw.ialdS (j := 6 * k + 2) (de_iaload (B 389 _ rfl)) hz (vIx_n rfl (by omega) (by omega)) (n := 390) rfl ?_
  refine Vw.prI (d := 20) (mx := mX11_terms) (mr := mX12_terms) (As := [.int (I z (6 * k + 1)), .int (I z (6 * k + 2))]) (cr := cr) (sr := sr) (mc' := 0) (ms' := 0) (de_invokevirtual (B 390 _ rfl) (B 391 _ rfl) (B 392 _ rfl)) ml_L_35 mv_X11_terms hX rfl rfl (Nat.le_of_ble_eq_true rfl) (n := 393) rfl hz hzx hM.1 hM.2 (pr_terms hR) (fun v S2 I2 M z2 r2 eI ct => ?_)
  refine Vw.aload_n (de_aload_2 (B 393 _ rfl)) 2 rfl (n := 394) rfl ?_
  refine Vw.aload_n (de_aload_0 (B 394 _ rfl)) 0 rfl (n := 395) rfl ?_
  refine Vw.iload_n (de_iload_3 (B 395 _ rfl)) 3 rfl (n := 396) rfl ?_
  refine Vw.iconst (v := 1) (de_iconst_1 (B 396 _ rfl)) rfl (n := 397) rfl ?_
  refine Vw.iadd (de_iadd (B 397 _ rfl)) (n := 398) rfl ?_
  rw [nI_p1]
  refine Vw.ialdS (j := 6 * k + 1) (de_iaload (B 398 _ rfl)) z2 (vIx_n rfl (by omega) (by omega)) (n := 399) rfl ?_
  rw [eI]
  refine Vw.aload_n (de_aload_0 (B 399 _ rfl)) 0 rfl (n := 400) rfl ?_
  refine Vw.iload_n (de_iload_3 (B 400 _ rfl)) 3 rfl (n := 401) rfl ?_
  refine Vw.iconst (v := 2) (de_iconst_2 (B 401 _ rfl)) rfl (n := 402) rfl ?_
  refine Vw.iadd (de_iadd (B 402 _ rfl)) (n := 403) rfl ?_
  rw [nI_p2]
  refine Vw.ialdS (j := 6 * k + 2) (de_iaload (B 403 _ rfl)) z2 (vIx_n rfl (by omega) (by omega)) (n := 404) rfl ?_
  rw [eI]
  refine Vw.prM (d := 40) (mr := mX12_terms) (As := [.int (I z (6 * k + 1)), .int (I z (6 * k + 2))]) (cr := cr) (sr := sr) (de_invokevirtual (B 404 _ rfl) (B 405 _ rfl) (B 406 _ rfl)) ml_L_38 mv_X12_terms r2 rfl rfl (Nat.le_of_ble_eq_true rfl) (n := 407) rfl ct (fun I3 M3 h3 => ?_)
  refine Vw.icmp_eq (tgt := 1392) (n := 410) (de_icmp_eq (B 407 _ rfl) (B 408 _ rfl) (B 409 _ rfl)) rfl rfl (fun q => ?_) (fun q => absurd rfl q)
  exact law_t (ih S2 I3 M3 h3 z2)
set_option maxRecDepth 100000 in
theorem law_feed {Q : Int32 → vS → vI → vL → Prop} {cr sr z x r lb len k : Nat} {S : vS} {I : vI} {L : vL} (hR : REL S I x r lb) (hz : S.1 z = (400, len)) (hzx : z < x) (hk : 6 * k + 6 ≤ len) (hl : len ≤ 3072) (ih : ∀ S2 I2 L2, REL S2 I2 x r lb → S2.1 z = (400, len) → Vw mL_law (100 + 1) 600000 7302250 cr sr (ViQ Q) 18 [(0, .ref z), (1, .ref x), (2, .ref r), (3, .int (nI (6 * k + 6)))] [] S2 I2 L2) : Vw mL_law (100 + 1) 600000 7302250 (cr + 8) (sr + 480) (ViQ Q) 412 [(0, .ref z), (1, .ref x), (2, .ref r), (3, .int (nI (6 * k)))] [] S I L := by
  have B := bs_L_law
  have hX := hR.kx
  have hM := hR.kr
  refine Vw.less (cr2 := cr) (sr2 := sr) (by omega) (by omega) ?_
  refine Vw.aload_n (de_aload_1 (B 412 _ rfl)) 1 rfl (n := 413) rfl ?_
  refine Vw.aload_n (de_aload_0 (B 413 _ rfl)) 0 rfl (n := 414) rfl ?_
  refine Vw.iload_n (de_iload_3 (B 414 _ rfl)) 3 rfl (n := 415) rfl ?_
  refine Vw.iconst (v := 1) (de_iconst_1 (B 415 _ rfl)) rfl (n := 416) rfl ?_
  refine Vw.iadd (de_iadd (B 416 _ rfl)) (n := 417) rfl ?_
  rw [nI_p1]
  refine Vw.ialdS (j := 6 * k + 1) (de_iaload (B 417 _ rfl)) hz (vIx_n rfl (by omega) (by omega)) (n := 418) rfl ?_
  refine Vw.aload_n (de_aload_0 (B 418 _ rfl)) 0 rfl (n := 419) rfl ?_
  refine Vw.iload_n (de_iload_3 (B 419 _ rfl)) 3 rfl (n := 420) rfl ?_
  refine Vw.iconst (v := 2) (de_iconst_2 (B 420 _ rfl)) rfl (n := 421) rfl ?_
  refine Vw.iadd (de_iadd (B 421 _ rfl)) (n := 422) rfl ?_
  rw [nI_p2]
  refine Vw.ialdS (j := 6 * k + 2) (de_iaload (B 422 _ rfl)) hz (vIx_n rfl (by omega) (by omega)) (n := 423) rfl ?_
  refine Vw.aload_n (de_aload_0 (B 423 _ rfl)) 0 rfl (n := 424) rfl ?_
  refine Vw.iload_n (de_iload_3 (B 424 _ rfl)) 3 rfl (n := 425) rfl ?_
  refine Vw.iconst (v := 3) (de_iconst_3 (B 425 _ rfl)) rfl (n := 426) rfl ?_
  refine Vw.iadd (de_iadd (B 426 _ rfl)) (n := 427) rfl ?_
  rw [nI_p3]
  refine Vw.ialdS (j := 6 * k + 3) (de_iaload (B 427 _ rfl)) hz (vIx_n rfl (by omega) (by omega)) (n := 428) rfl ?_
  refine Vw.aload_n (de_aload_0 (B 428 _ rfl)) 0 rfl (n := 429) rfl ?_
  refine Vw.iload_n (de_iload_3 (B 429 _ rfl)) 3 rfl (n := 430) rfl ?_
  refine Vw.iconst (v := 4) (de_iconst_4 (B 430 _ rfl)) rfl (n := 431) rfl ?_
  refine Vw.iadd (de_iadd (B 431 _ rfl)) (n := 432) rfl ?_
  rw [nI_p4]
  refine Vw.ialdS (j := 6 * k + 4) (de_iaload (B 432 _ rfl)) hz (vIx_n rfl (by omega) (by omega)) (n := 433) rfl ?_
  refine Vw.aload_n (de_aload_0 (B 433 _ rfl)) 0 rfl (n := 434) rfl ?_
  refine Vw.iload_n (de_iload_3 (B 434 _ rfl)) 3 rfl (n := 435) rfl ?_
  refine Vw.iconst (v := 5) (de_iconst_5 (B 435 _ rfl)) rfl (n := 436) rfl ?_
  refine Vw.iadd (de_iadd (B 436 _ rfl)) (n := 437) rfl ?_
  rw [nI_p5]
  refine Vw.ialdS (j := 6 * k + 5) (de_iaload (B 437 _ rfl)) hz (vIx_n rfl (by omega) (by omega)) (n := 438) rfl ?_
  refine Vw.prI (d := 20) (mx := mX11_feed) (mr := mX12_feed) (As := [.int (I z (6 * k + 1)), .int (I z (6 * k + 2)), .int (I z (6 * k + 3)), .int (I z (6 * k + 4)), .int (I z (6 * k + 5))]) (cr := cr) (sr := sr) (mc' := 0) (ms' := 0) (de_invokevirtual (B 438 _ rfl) (B 439 _ rfl) (B 440 _ rfl)) ml_L_39 mv_X11_feed hX rfl rfl (Nat.le_of_ble_eq_true rfl) (n := 441) rfl hz hzx hM.1 hM.2 (pr_feed hR) (fun v S2 I2 M z2 r2 eI ct => ?_)
  refine Vw.aload_n (de_aload_2 (B 441 _ rfl)) 2 rfl (n := 442) rfl ?_
  refine Vw.aload_n (de_aload_0 (B 442 _ rfl)) 0 rfl (n := 443) rfl ?_
  refine Vw.iload_n (de_iload_3 (B 443 _ rfl)) 3 rfl (n := 444) rfl ?_
  refine Vw.iconst (v := 1) (de_iconst_1 (B 444 _ rfl)) rfl (n := 445) rfl ?_
  refine Vw.iadd (de_iadd (B 445 _ rfl)) (n := 446) rfl ?_
  rw [nI_p1]
  refine Vw.ialdS (j := 6 * k + 1) (de_iaload (B 446 _ rfl)) z2 (vIx_n rfl (by omega) (by omega)) (n := 447) rfl ?_
  rw [eI]
  refine Vw.aload_n (de_aload_0 (B 447 _ rfl)) 0 rfl (n := 448) rfl ?_
  refine Vw.iload_n (de_iload_3 (B 448 _ rfl)) 3 rfl (n := 449) rfl ?_
  refine Vw.iconst (v := 2) (de_iconst_2 (B 449 _ rfl)) rfl (n := 450) rfl ?_
  refine Vw.iadd (de_iadd (B 450 _ rfl)) (n := 451) rfl ?_
  rw [nI_p2]
  refine Vw.ialdS (j := 6 * k + 2) (de_iaload (B 451 _ rfl)) z2 (vIx_n rfl (by omega) (by omega)) (n := 452) rfl ?_
  rw [eI]
  refine Vw.aload_n (de_aload_0 (B 452 _ rfl)) 0 rfl (n := 453) rfl ?_
  refine Vw.iload_n (de_iload_3 (B 453 _ rfl)) 3 rfl (n := 454) rfl ?_
  refine Vw.iconst (v := 3) (de_iconst_3 (B 454 _ rfl)) rfl (n := 455) rfl ?_
  refine Vw.iadd (de_iadd (B 455 _ rfl)) (n := 456) rfl ?_
  rw [nI_p3]
  refine Vw.ialdS (j := 6 * k + 3) (de_iaload (B 456 _ rfl)) z2 (vIx_n rfl (by omega) (by omega)) (n := 457) rfl ?_
  rw [eI]
  refine Vw.aload_n (de_aload_0 (B 457 _ rfl)) 0 rfl (n := 458) rfl ?_
  refine Vw.iload_n (de_iload_3 (B 458 _ rfl)) 3 rfl (n := 459) rfl ?_
  refine Vw.iconst (v := 4) (de_iconst_4 (B 459 _ rfl)) rfl (n := 460) rfl ?_
  refine Vw.iadd (de_iadd (B 460 _ rfl)) (n := 461) rfl ?_
  rw [nI_p4]
  refine Vw.ialdS (j := 6 * k + 4) (de_iaload (B 461 _ rfl)) z2 (vIx_n rfl (by omega) (by omega)) (n := 462) rfl ?_
  rw [eI]
  refine Vw.aload_n (de_aload_0 (B 462 _ rfl)) 0 rfl (n := 463) rfl ?_
  refine Vw.iload_n (de_iload_3 (B 463 _ rfl)) 3 rfl (n := 464) rfl ?_
  refine Vw.iconst (v := 5) (de_iconst_5 (B 464 _ rfl)) rfl (n := 465) rfl ?_
  refine Vw.iadd (de_iadd (B 465 _ rfl)) (n := 466) rfl ?_
  rw [nI_p5]
  refine Vw.ialdS (j := 6 * k + 5) (de_iaload (B 466 _ rfl)) z2 (vIx_n rfl (by omega) (by omega)) (n := 467) rfl ?_
  rw [eI]
  refine Vw.prM (d := 40) (mr := mX12_feed) (As := [.int (I z (6 * k + 1)), .int (I z (6 * k + 2)), .int (I z (6 * k + 3)), .int (I z (6 * k + 4)), .int (I z (6 * k + 5))]) (cr := cr) (sr := sr) (de_invokevirtual (B 467 _ rfl) (B 468 _ rfl) (B 469 _ rfl)) ml_L_43 mv_X12_feed r2 rfl rfl (Nat.le_of_ble_eq_true rfl) (n := 470) rfl ct (fun I3 M3 h3 => ?_)
  refine Vw.icmp_eq (tgt := 1392) (n := 473) (de_icmp_eq (B 470 _ rfl) (B 471 _ rfl) (B 472 _ rfl)) rfl rfl (fun q => ?_) (fun q => absurd rfl q)
  exact law_t (ih S2 I3 M3 h3 z2)
set_option maxRecDepth 100000 in
theorem law_end {Q : Int32 → vS → vI → vL → Prop} {cr sr z x r lb len k : Nat} {S : vS} {I : vI} {L : vL} (hR : REL S I x r lb) (hz : S.1 z = (400, len)) (hzx : z < x) (hk : 6 * k + 6 ≤ len) (hl : len ≤ 3072) (ih : ∀ S2 I2 L2, REL S2 I2 x r lb → S2.1 z = (400, len) → Vw mL_law (100 + 1) 600000 7302250 cr sr (ViQ Q) 18 [(0, .ref z), (1, .ref x), (2, .ref r), (3, .int (nI (6 * k + 6)))] [] S2 I2 L2) : Vw mL_law (100 + 1) 600000 7302250 (cr + 8) (sr + 480) (ViQ Q) 475 [(0, .ref z), (1, .ref x), (2, .ref r), (3, .int (nI (6 * k)))] [] S I L := by
  have B := bs_L_law
  have hX := hR.kx
  have hM := hR.kr
  refine Vw.less (cr2 := cr) (sr2 := sr) (by omega) (by omega) ?_
  refine Vw.aload_n (de_aload_1 (B 475 _ rfl)) 1 rfl (n := 476) rfl ?_
  refine Vw.aload_n (de_aload_0 (B 476 _ rfl)) 0 rfl (n := 477) rfl ?_
  refine Vw.iload_n (de_iload_3 (B 477 _ rfl)) 3 rfl (n := 478) rfl ?_
  refine Vw.iconst (v := 1) (de_iconst_1 (B 478 _ rfl)) rfl (n := 479) rfl ?_
  refine Vw.iadd (de_iadd (B 479 _ rfl)) (n := 480) rfl ?_
  rw [nI_p1]
  refine Vw.ialdS (j := 6 * k + 1) (de_iaload (B 480 _ rfl)) hz (vIx_n rfl (by omega) (by omega)) (n := 481) rfl ?_
  refine Vw.prI (d := 20) (mx := mX11_end) (mr := mX12_end) (As := [.int (I z (6 * k + 1))]) (cr := cr) (sr := sr) (mc' := 0) (ms' := 0) (de_invokevirtual (B 481 _ rfl) (B 482 _ rfl) (B 483 _ rfl)) ml_L_44 mv_X11_end hX rfl rfl (Nat.le_of_ble_eq_true rfl) (n := 484) rfl hz hzx hM.1 hM.2 (pr_end hR) (fun v S2 I2 M z2 r2 eI ct => ?_)
  refine Vw.aload_n (de_aload_2 (B 484 _ rfl)) 2 rfl (n := 485) rfl ?_
  refine Vw.aload_n (de_aload_0 (B 485 _ rfl)) 0 rfl (n := 486) rfl ?_
  refine Vw.iload_n (de_iload_3 (B 486 _ rfl)) 3 rfl (n := 487) rfl ?_
  refine Vw.iconst (v := 1) (de_iconst_1 (B 487 _ rfl)) rfl (n := 488) rfl ?_
  refine Vw.iadd (de_iadd (B 488 _ rfl)) (n := 489) rfl ?_
  rw [nI_p1]
  refine Vw.ialdS (j := 6 * k + 1) (de_iaload (B 489 _ rfl)) z2 (vIx_n rfl (by omega) (by omega)) (n := 490) rfl ?_
  rw [eI]
  refine Vw.prM (d := 40) (mr := mX12_end) (As := [.int (I z (6 * k + 1))]) (cr := cr) (sr := sr) (de_invokevirtual (B 490 _ rfl) (B 491 _ rfl) (B 492 _ rfl)) ml_L_48 mv_X12_end r2 rfl rfl (Nat.le_of_ble_eq_true rfl) (n := 493) rfl ct (fun I3 M3 h3 => ?_)
  refine Vw.icmp_eq (tgt := 1392) (n := 496) (de_icmp_eq (B 493 _ rfl) (B 494 _ rfl) (B 495 _ rfl)) rfl rfl (fun q => ?_) (fun q => absurd rfl q)
  exact law_t (ih S2 I3 M3 h3 z2)
set_option maxRecDepth 100000 in
theorem law_row {Q : Int32 → vS → vI → vL → Prop} {cr sr z x r lb len k : Nat} {S : vS} {I : vI} {L : vL} (hR : REL S I x r lb) (hz : S.1 z = (400, len)) (hzx : z < x) (hk : 6 * k + 6 ≤ len) (hl : len ≤ 3072) (ih : ∀ S2 I2 L2, REL S2 I2 x r lb → S2.1 z = (400, len) → Vw mL_law (100 + 1) 600000 7302250 cr sr (ViQ Q) 18 [(0, .ref z), (1, .ref x), (2, .ref r), (3, .int (nI (6 * k + 6)))] [] S2 I2 L2) : Vw mL_law (100 + 1) 600000 7302250 (cr + 8) (sr + 480) (ViQ Q) 498 [(0, .ref z), (1, .ref x), (2, .ref r), (3, .int (nI (6 * k)))] [] S I L := by
  have B := bs_L_law
  have hX := hR.kx
  have hM := hR.kr
  refine Vw.less (cr2 := cr) (sr2 := sr) (by omega) (by omega) ?_
  refine Vw.aload_n (de_aload_1 (B 498 _ rfl)) 1 rfl (n := 499) rfl ?_
  refine Vw.prI (d := 20) (mx := mX11_row) (mr := mX12_row) (As := []) (cr := cr) (sr := sr) (mc' := 0) (ms' := 0) (de_invokevirtual (B 499 _ rfl) (B 500 _ rfl) (B 501 _ rfl)) ml_L_49 mv_X11_row hX rfl rfl (Nat.le_of_ble_eq_true rfl) (n := 502) rfl hz hzx hM.1 hM.2 (pr_row hR) (fun v S2 I2 M z2 r2 eI ct => ?_)
  refine Vw.aload_n (de_aload_2 (B 502 _ rfl)) 2 rfl (n := 503) rfl ?_
  refine Vw.prM (d := 40) (mr := mX12_row) (As := []) (cr := cr) (sr := sr) (de_invokevirtual (B 503 _ rfl) (B 504 _ rfl) (B 505 _ rfl)) ml_L_53 mv_X12_row r2 rfl rfl (Nat.le_of_ble_eq_true rfl) (n := 506) rfl ct (fun I3 M3 h3 => ?_)
  refine Vw.icmp_eq (tgt := 1392) (n := 509) (de_icmp_eq (B 506 _ rfl) (B 507 _ rfl) (B 508 _ rfl)) rfl rfl (fun q => ?_) (fun q => absurd rfl q)
  exact law_t (ih S2 I3 M3 h3 z2)
set_option maxRecDepth 100000 in
theorem law_moths {Q : Int32 → vS → vI → vL → Prop} {cr sr z x r lb len k : Nat} {S : vS} {I : vI} {L : vL} (hR : REL S I x r lb) (hz : S.1 z = (400, len)) (hzx : z < x) (hk : 6 * k + 6 ≤ len) (hl : len ≤ 3072) (ih : ∀ S2 I2 L2, REL S2 I2 x r lb → S2.1 z = (400, len) → Vw mL_law (100 + 1) 600000 7302250 cr sr (ViQ Q) 18 [(0, .ref z), (1, .ref x), (2, .ref r), (3, .int (nI (6 * k + 6)))] [] S2 I2 L2) : Vw mL_law (100 + 1) 600000 7302250 (cr + 8) (sr + 480) (ViQ Q) 511 [(0, .ref z), (1, .ref x), (2, .ref r), (3, .int (nI (6 * k)))] [] S I L := by
  have B := bs_L_law
  have hX := hR.kx
  have hM := hR.kr
  refine Vw.less (cr2 := cr) (sr2 := sr) (by omega) (by omega) ?_
  refine Vw.aload_n (de_aload_1 (B 511 _ rfl)) 1 rfl (n := 512) rfl ?_
  refine Vw.prI (d := 20) (mx := mX11_moths) (mr := mX12_moths) (As := []) (cr := cr) (sr := sr) (mc' := 0) (ms' := 0) (de_invokevirtual (B 512 _ rfl) (B 513 _ rfl) (B 514 _ rfl)) ml_L_54 mv_X11_moths hX rfl rfl (Nat.le_of_ble_eq_true rfl) (n := 515) rfl hz hzx hM.1 hM.2 (pr_moths hR) (fun v S2 I2 M z2 r2 eI ct => ?_)
  refine Vw.aload_n (de_aload_2 (B 515 _ rfl)) 2 rfl (n := 516) rfl ?_
  refine Vw.prM (d := 40) (mr := mX12_moths) (As := []) (cr := cr) (sr := sr) (de_invokevirtual (B 516 _ rfl) (B 517 _ rfl) (B 518 _ rfl)) ml_L_57 mv_X12_moths r2 rfl rfl (Nat.le_of_ble_eq_true rfl) (n := 519) rfl ct (fun I3 M3 h3 => ?_)
  refine Vw.icmp_eq (tgt := 1392) (n := 522) (de_icmp_eq (B 519 _ rfl) (B 520 _ rfl) (B 521 _ rfl)) rfl rfl (fun q => ?_) (fun q => absurd rfl q)
  exact law_t (ih S2 I3 M3 h3 z2)
set_option maxRecDepth 100000 in
theorem law_law {Q : Int32 → vS → vI → vL → Prop} {cr sr z x r lb len k : Nat} {S : vS} {I : vI} {L : vL} (hR : REL S I x r lb) (hz : S.1 z = (400, len)) (hzx : z < x) (hk : 6 * k + 6 ≤ len) (hl : len ≤ 3072) (ih : ∀ S2 I2 L2, REL S2 I2 x r lb → S2.1 z = (400, len) → Vw mL_law (100 + 1) 600000 7302250 cr sr (ViQ Q) 18 [(0, .ref z), (1, .ref x), (2, .ref r), (3, .int (nI (6 * k + 6)))] [] S2 I2 L2) : Vw mL_law (100 + 1) 600000 7302250 (cr + 8) (sr + 480) (ViQ Q) 524 [(0, .ref z), (1, .ref x), (2, .ref r), (3, .int (nI (6 * k)))] [] S I L := by
  have B := bs_L_law
  have hX := hR.kx
  have hM := hR.kr
  refine Vw.aload_n (de_aload_1 (B 524 _ rfl)) 1 rfl (n := 525) rfl ?_
  refine Vw.prI (d := 20) (mx := mX11_law) (mr := mX12_law) (As := []) (cr := cr) (sr := sr) (mc' := 8) (ms' := 480) (de_invokevirtual (B 525 _ rfl) (B 526 _ rfl) (B 527 _ rfl)) ml_L_58 mv_X11_law hX rfl rfl (Nat.le_of_ble_eq_true rfl) (n := 528) rfl hz hzx hM.1 hM.2 (pr_law hR) (fun v S2 I2 M z2 r2 eI ct => ?_)
  refine Vw.aload_n (de_aload_2 (B 528 _ rfl)) 2 rfl (n := 529) rfl ?_
  refine Vw.prM (d := 40) (mr := mX12_law) (As := []) (cr := cr) (sr := sr) (de_invokevirtual (B 529 _ rfl) (B 530 _ rfl) (B 531 _ rfl)) ml_L_61 mv_X12_law r2 rfl rfl (Nat.le_of_ble_eq_true rfl) (n := 532) rfl ct (fun I3 M3 h3 => ?_)
  refine Vw.icmp_eq (tgt := 1392) (n := 535) (de_icmp_eq (B 532 _ rfl) (B 533 _ rfl) (B 534 _ rfl)) rfl rfl (fun q => ?_) (fun q => absurd rfl q)
  exact law_t (ih S2 I3 M3 h3 z2)
set_option maxRecDepth 100000 in
theorem law_orders {Q : Int32 → vS → vI → vL → Prop} {cr sr z x r lb len k : Nat} {S : vS} {I : vI} {L : vL} (hR : REL S I x r lb) (hz : S.1 z = (400, len)) (hzx : z < x) (hk : 6 * k + 6 ≤ len) (hl : len ≤ 3072) (ih : ∀ S2 I2 L2, REL S2 I2 x r lb → S2.1 z = (400, len) → Vw mL_law (100 + 1) 600000 7302250 cr sr (ViQ Q) 18 [(0, .ref z), (1, .ref x), (2, .ref r), (3, .int (nI (6 * k + 6)))] [] S2 I2 L2) : Vw mL_law (100 + 1) 600000 7302250 (cr + 8) (sr + 480) (ViQ Q) 537 [(0, .ref z), (1, .ref x), (2, .ref r), (3, .int (nI (6 * k)))] [] S I L := by
  have B := bs_L_law
  have hX := hR.kx
  have hM := hR.kr
  refine Vw.less (cr2 := cr) (sr2 := sr) (by omega) (by omega) ?_
  refine Vw.aload_n (de_aload_1 (B 537 _ rfl)) 1 rfl (n := 538) rfl ?_
  refine Vw.prI (d := 20) (mx := mX11_orders) (mr := mX12_orders) (As := []) (cr := cr) (sr := sr) (mc' := 0) (ms' := 0) (de_invokevirtual (B 538 _ rfl) (B 539 _ rfl) (B 540 _ rfl)) ml_L_62 mv_X11_orders hX rfl rfl (Nat.le_of_ble_eq_true rfl) (n := 541) rfl hz hzx hM.1 hM.2 (pr_orders hR) (fun v S2 I2 M z2 r2 eI ct => ?_)
  refine Vw.aload_n (de_aload_2 (B 541 _ rfl)) 2 rfl (n := 542) rfl ?_
  refine Vw.prM (d := 40) (mr := mX12_orders) (As := []) (cr := cr) (sr := sr) (de_invokevirtual (B 542 _ rfl) (B 543 _ rfl) (B 544 _ rfl)) ml_L_65 mv_X12_orders r2 rfl rfl (Nat.le_of_ble_eq_true rfl) (n := 545) rfl ct (fun I3 M3 h3 => ?_)
  refine Vw.icmp_eq (tgt := 1392) (n := 548) (de_icmp_eq (B 545 _ rfl) (B 546 _ rfl) (B 547 _ rfl)) rfl rfl (fun q => ?_) (fun q => absurd rfl q)
  exact law_t (ih S2 I3 M3 h3 z2)
set_option maxRecDepth 100000 in
theorem law_fault {Q : Int32 → vS → vI → vL → Prop} {cr sr z x r lb len k : Nat} {S : vS} {I : vI} {L : vL} (hR : REL S I x r lb) (hz : S.1 z = (400, len)) (hzx : z < x) (hk : 6 * k + 6 ≤ len) (hl : len ≤ 3072) (ih : ∀ S2 I2 L2, REL S2 I2 x r lb → S2.1 z = (400, len) → Vw mL_law (100 + 1) 600000 7302250 cr sr (ViQ Q) 18 [(0, .ref z), (1, .ref x), (2, .ref r), (3, .int (nI (6 * k + 6)))] [] S2 I2 L2) : Vw mL_law (100 + 1) 600000 7302250 (cr + 8) (sr + 480) (ViQ Q) 550 [(0, .ref z), (1, .ref x), (2, .ref r), (3, .int (nI (6 * k)))] [] S I L := by
  have B := bs_L_law
  have hX := hR.kx
  have hM := hR.kr
  refine Vw.less (cr2 := cr) (sr2 := sr) (by omega) (by omega) ?_
  refine Vw.aload_n (de_aload_1 (B 550 _ rfl)) 1 rfl (n := 551) rfl ?_
  refine Vw.prI (d := 20) (mx := mX11_fault) (mr := mX12_fault) (As := []) (cr := cr) (sr := sr) (mc' := 0) (ms' := 0) (de_invokevirtual (B 551 _ rfl) (B 552 _ rfl) (B 553 _ rfl)) ml_L_66 mv_X11_fault hX rfl rfl (Nat.le_of_ble_eq_true rfl) (n := 554) rfl hz hzx hM.1 hM.2 (pr_fault hR) (fun v S2 I2 M z2 r2 eI ct => ?_)
  refine Vw.aload_n (de_aload_2 (B 554 _ rfl)) 2 rfl (n := 555) rfl ?_
  refine Vw.prM (d := 40) (mr := mX12_fault) (As := []) (cr := cr) (sr := sr) (de_invokevirtual (B 555 _ rfl) (B 556 _ rfl) (B 557 _ rfl)) ml_L_69 mv_X12_fault r2 rfl rfl (Nat.le_of_ble_eq_true rfl) (n := 558) rfl ct (fun I3 M3 h3 => ?_)
  refine Vw.icmp_eq (tgt := 1392) (n := 561) (de_icmp_eq (B 558 _ rfl) (B 559 _ rfl) (B 560 _ rfl)) rfl rfl (fun q => ?_) (fun q => absurd rfl q)
  exact law_t (ih S2 I3 M3 h3 z2)
set_option maxRecDepth 100000 in
theorem law_stopped {Q : Int32 → vS → vI → vL → Prop} {cr sr z x r lb len k : Nat} {S : vS} {I : vI} {L : vL} (hR : REL S I x r lb) (hz : S.1 z = (400, len)) (hzx : z < x) (hk : 6 * k + 6 ≤ len) (hl : len ≤ 3072) (ih : ∀ S2 I2 L2, REL S2 I2 x r lb → S2.1 z = (400, len) → Vw mL_law (100 + 1) 600000 7302250 cr sr (ViQ Q) 18 [(0, .ref z), (1, .ref x), (2, .ref r), (3, .int (nI (6 * k + 6)))] [] S2 I2 L2) : Vw mL_law (100 + 1) 600000 7302250 (cr + 8) (sr + 480) (ViQ Q) 563 [(0, .ref z), (1, .ref x), (2, .ref r), (3, .int (nI (6 * k)))] [] S I L := by
  have B := bs_L_law
  have hX := hR.kx
  have hM := hR.kr
  refine Vw.less (cr2 := cr) (sr2 := sr) (by omega) (by omega) ?_
  refine Vw.aload_n (de_aload_1 (B 563 _ rfl)) 1 rfl (n := 564) rfl ?_
  refine Vw.prI (d := 20) (mx := mX11_stopped) (mr := mX12_stopped) (As := []) (cr := cr) (sr := sr) (mc' := 0) (ms' := 0) (de_invokevirtual (B 564 _ rfl) (B 565 _ rfl) (B 566 _ rfl)) ml_L_70 mv_X11_stopped hX rfl rfl (Nat.le_of_ble_eq_true rfl) (n := 567) rfl hz hzx hM.1 hM.2 (pr_stopped hR) (fun v S2 I2 M z2 r2 eI ct => ?_)
  refine Vw.aload_n (de_aload_2 (B 567 _ rfl)) 2 rfl (n := 568) rfl ?_
  refine Vw.prM (d := 40) (mr := mX12_stopped) (As := []) (cr := cr) (sr := sr) (de_invokevirtual (B 568 _ rfl) (B 569 _ rfl) (B 570 _ rfl)) ml_L_73 mv_X12_stopped r2 rfl rfl (Nat.le_of_ble_eq_true rfl) (n := 571) rfl ct (fun I3 M3 h3 => ?_)
  refine Vw.icmp_eq (tgt := 1392) (n := 574) (de_icmp_eq (B 571 _ rfl) (B 572 _ rfl) (B 573 _ rfl)) rfl rfl (fun q => ?_) (fun q => absurd rfl q)
  exact law_t (ih S2 I3 M3 h3 z2)
set_option maxRecDepth 100000 in
theorem law_force {Q : Int32 → vS → vI → vL → Prop} {cr sr z x r lb len k : Nat} {S : vS} {I : vI} {L : vL} (hR : REL S I x r lb) (hz : S.1 z = (400, len)) (hzx : z < x) (hk : 6 * k + 6 ≤ len) (hl : len ≤ 3072) (ih : ∀ S2 I2 L2, REL S2 I2 x r lb → S2.1 z = (400, len) → Vw mL_law (100 + 1) 600000 7302250 cr sr (ViQ Q) 18 [(0, .ref z), (1, .ref x), (2, .ref r), (3, .int (nI (6 * k + 6)))] [] S2 I2 L2) : Vw mL_law (100 + 1) 600000 7302250 (cr + 8) (sr + 480) (ViQ Q) 576 [(0, .ref z), (1, .ref x), (2, .ref r), (3, .int (nI (6 * k)))] [] S I L := by
  have B := bs_L_law
  have hX := hR.kx
  have hM := hR.kr
  refine Vw.less (cr2 := cr) (sr2 := sr) (by omega) (by omega) ?_
  refine Vw.aload_n (de_aload_1 (B 576 _ rfl)) 1 rfl (n := 577) rfl ?_
  refine Vw.aload_n (de_aload_0 (B 577 _ rfl)) 0 rfl (n := 578) rfl ?_
  refine Vw.iload_n (de_iload_3 (B 578 _ rfl)) 3 rfl (n := 579) rfl ?_
  refine Vw.iconst (v := 1) (de_iconst_1 (B 579 _ rfl)) rfl (n := 580) rfl ?_
  refine Vw.iadd (de_iadd (B 580 _ rfl)) (n := 581) rfl ?_
  rw [nI_p1]
  refine Vw.ialdS (j := 6 * k + 1) (de_iaload (B 581 _ rfl)) hz (vIx_n rfl (by omega) (by omega)) (n := 582) rfl ?_
  refine Vw.prI (d := 20) (mx := mX11_force) (mr := mX12_force) (As := [.int (I z (6 * k + 1))]) (cr := cr) (sr := sr) (mc' := 0) (ms' := 0) (de_invokevirtual (B 582 _ rfl) (B 583 _ rfl) (B 584 _ rfl)) ml_L_74 mv_X11_force hX rfl rfl (Nat.le_of_ble_eq_true rfl) (n := 585) rfl hz hzx hM.1 hM.2 (pr_force hR) (fun v S2 I2 M z2 r2 eI ct => ?_)
  refine Vw.aload_n (de_aload_2 (B 585 _ rfl)) 2 rfl (n := 586) rfl ?_
  refine Vw.aload_n (de_aload_0 (B 586 _ rfl)) 0 rfl (n := 587) rfl ?_
  refine Vw.iload_n (de_iload_3 (B 587 _ rfl)) 3 rfl (n := 588) rfl ?_
  refine Vw.iconst (v := 1) (de_iconst_1 (B 588 _ rfl)) rfl (n := 589) rfl ?_
  refine Vw.iadd (de_iadd (B 589 _ rfl)) (n := 590) rfl ?_
  rw [nI_p1]
  refine Vw.ialdS (j := 6 * k + 1) (de_iaload (B 590 _ rfl)) z2 (vIx_n rfl (by omega) (by omega)) (n := 591) rfl ?_
  rw [eI]
  refine Vw.prM (d := 40) (mr := mX12_force) (As := [.int (I z (6 * k + 1))]) (cr := cr) (sr := sr) (de_invokevirtual (B 591 _ rfl) (B 592 _ rfl) (B 593 _ rfl)) ml_L_77 mv_X12_force r2 rfl rfl (Nat.le_of_ble_eq_true rfl) (n := 594) rfl ct (fun I3 M3 h3 => ?_)
  refine Vw.icmp_eq (tgt := 1392) (n := 597) (de_icmp_eq (B 594 _ rfl) (B 595 _ rfl) (B 596 _ rfl)) rfl rfl (fun q => ?_) (fun q => absurd rfl q)
  exact law_t (ih S2 I3 M3 h3 z2)
set_option maxRecDepth 100000 in
theorem law_asks {Q : Int32 → vS → vI → vL → Prop} {cr sr z x r lb len k : Nat} {S : vS} {I : vI} {L : vL} (hR : REL S I x r lb) (hz : S.1 z = (400, len)) (hzx : z < x) (hk : 6 * k + 6 ≤ len) (hl : len ≤ 3072) (ih : ∀ S2 I2 L2, REL S2 I2 x r lb → S2.1 z = (400, len) → Vw mL_law (100 + 1) 600000 7302250 cr sr (ViQ Q) 18 [(0, .ref z), (1, .ref x), (2, .ref r), (3, .int (nI (6 * k + 6)))] [] S2 I2 L2) : Vw mL_law (100 + 1) 600000 7302250 (cr + 8) (sr + 480) (ViQ Q) 599 [(0, .ref z), (1, .ref x), (2, .ref r), (3, .int (nI (6 * k)))] [] S I L := by
  have B := bs_L_law
  have hX := hR.kx
  have hM := hR.kr
  refine Vw.less (cr2 := cr) (sr2 := sr) (by omega) (by omega) ?_
  refine Vw.aload_n (de_aload_1 (B 599 _ rfl)) 1 rfl (n := 600) rfl ?_
  refine Vw.aload_n (de_aload_0 (B 600 _ rfl)) 0 rfl (n := 601) rfl ?_
  refine Vw.iload_n (de_iload_3 (B 601 _ rfl)) 3 rfl (n := 602) rfl ?_
  refine Vw.iconst (v := 1) (de_iconst_1 (B 602 _ rfl)) rfl (n := 603) rfl ?_
  refine Vw.iadd (de_iadd (B 603 _ rfl)) (n := 604) rfl ?_
  rw [nI_p1]
  refine Vw.ialdS (j := 6 * k + 1) (de_iaload (B 604 _ rfl)) hz (vIx_n rfl (by omega) (by omega)) (n := 605) rfl ?_
  refine Vw.aload_n (de_aload_0 (B 605 _ rfl)) 0 rfl (n := 606) rfl ?_
  refine Vw.iload_n (de_iload_3 (B 606 _ rfl)) 3 rfl (n := 607) rfl ?_
  refine Vw.iconst (v := 2) (de_iconst_2 (B 607 _ rfl)) rfl (n := 608) rfl ?_
  refine Vw.iadd (de_iadd (B 608 _ rfl)) (n := 609) rfl ?_
  rw [nI_p2]
  refine Vw.ialdS (j := 6 * k + 2) (de_iaload (B 609 _ rfl)) hz (vIx_n rfl (by omega) (by omega)) (n := 610) rfl ?_
  refine Vw.aload_n (de_aload_0 (B 610 _ rfl)) 0 rfl (n := 611) rfl ?_
  refine Vw.iload_n (de_iload_3 (B 611 _ rfl)) 3 rfl (n := 612) rfl ?_
  refine Vw.iconst (v := 3) (de_iconst_3 (B 612 _ rfl)) rfl (n := 613) rfl ?_
  refine Vw.iadd (de_iadd (B 613 _ rfl)) (n := 614) rfl ?_
  rw [nI_p3]
  refine Vw.ialdS (j := 6 * k + 3) (de_iaload (B 614 _ rfl)) hz (vIx_n rfl (by omega) (by omega)) (n := 615) rfl ?_
  refine Vw.aload_n (de_aload_0 (B 615 _ rfl)) 0 rfl (n := 616) rfl ?_
  refine Vw.iload_n (de_iload_3 (B 616 _ rfl)) 3 rfl (n := 617) rfl ?_
  refine Vw.iconst (v := 4) (de_iconst_4 (B 617 _ rfl)) rfl (n := 618) rfl ?_
  refine Vw.iadd (de_iadd (B 618 _ rfl)) (n := 619) rfl ?_
  rw [nI_p4]
  refine Vw.ialdS (j := 6 * k + 4) (de_iaload (B 619 _ rfl)) hz (vIx_n rfl (by omega) (by omega)) (n := 620) rfl ?_
  refine Vw.aload_n (de_aload_0 (B 620 _ rfl)) 0 rfl (n := 621) rfl ?_
  refine Vw.iload_n (de_iload_3 (B 621 _ rfl)) 3 rfl (n := 622) rfl ?_
  refine Vw.iconst (v := 5) (de_iconst_5 (B 622 _ rfl)) rfl (n := 623) rfl ?_
  refine Vw.iadd (de_iadd (B 623 _ rfl)) (n := 624) rfl ?_
  rw [nI_p5]
  refine Vw.ialdS (j := 6 * k + 5) (de_iaload (B 624 _ rfl)) hz (vIx_n rfl (by omega) (by omega)) (n := 625) rfl ?_
  refine Vw.prI (d := 20) (mx := mX11_asks) (mr := mX12_asks) (As := [.int (I z (6 * k + 1)), .int (I z (6 * k + 2)), .int (I z (6 * k + 3)), .int (I z (6 * k + 4)), .int (I z (6 * k + 5))]) (cr := cr) (sr := sr) (mc' := 0) (ms' := 0) (de_invokevirtual (B 625 _ rfl) (B 626 _ rfl) (B 627 _ rfl)) ml_L_78 mv_X11_asks hX rfl rfl (Nat.le_of_ble_eq_true rfl) (n := 628) rfl hz hzx hM.1 hM.2 (pr_asks hR) (fun v S2 I2 M z2 r2 eI ct => ?_)
  refine Vw.aload_n (de_aload_2 (B 628 _ rfl)) 2 rfl (n := 629) rfl ?_
  refine Vw.aload_n (de_aload_0 (B 629 _ rfl)) 0 rfl (n := 630) rfl ?_
  refine Vw.iload_n (de_iload_3 (B 630 _ rfl)) 3 rfl (n := 631) rfl ?_
  refine Vw.iconst (v := 1) (de_iconst_1 (B 631 _ rfl)) rfl (n := 632) rfl ?_
  refine Vw.iadd (de_iadd (B 632 _ rfl)) (n := 633) rfl ?_
  rw [nI_p1]
  refine Vw.ialdS (j := 6 * k + 1) (de_iaload (B 633 _ rfl)) z2 (vIx_n rfl (by omega) (by omega)) (n := 634) rfl ?_
  rw [eI]
  refine Vw.aload_n (de_aload_0 (B 634 _ rfl)) 0 rfl (n := 635) rfl ?_
  refine Vw.iload_n (de_iload_3 (B 635 _ rfl)) 3 rfl (n := 636) rfl ?_
  refine Vw.iconst (v := 2) (de_iconst_2 (B 636 _ rfl)) rfl (n := 637) rfl ?_
  refine Vw.iadd (de_iadd (B 637 _ rfl)) (n := 638) rfl ?_
  rw [nI_p2]
  refine Vw.ialdS (j := 6 * k + 2) (de_iaload (B 638 _ rfl)) z2 (vIx_n rfl (by omega) (by omega)) (n := 639) rfl ?_
  rw [eI]
  refine Vw.aload_n (de_aload_0 (B 639 _ rfl)) 0 rfl (n := 640) rfl ?_
  refine Vw.iload_n (de_iload_3 (B 640 _ rfl)) 3 rfl (n := 641) rfl ?_
  refine Vw.iconst (v := 3) (de_iconst_3 (B 641 _ rfl)) rfl (n := 642) rfl ?_
  refine Vw.iadd (de_iadd (B 642 _ rfl)) (n := 643) rfl ?_
  rw [nI_p3]
  refine Vw.ialdS (j := 6 * k + 3) (de_iaload (B 643 _ rfl)) z2 (vIx_n rfl (by omega) (by omega)) (n := 644) rfl ?_
  rw [eI]
  refine Vw.aload_n (de_aload_0 (B 644 _ rfl)) 0 rfl (n := 645) rfl ?_
  refine Vw.iload_n (de_iload_3 (B 645 _ rfl)) 3 rfl (n := 646) rfl ?_
  refine Vw.iconst (v := 4) (de_iconst_4 (B 646 _ rfl)) rfl (n := 647) rfl ?_
  refine Vw.iadd (de_iadd (B 647 _ rfl)) (n := 648) rfl ?_
  rw [nI_p4]
  refine Vw.ialdS (j := 6 * k + 4) (de_iaload (B 648 _ rfl)) z2 (vIx_n rfl (by omega) (by omega)) (n := 649) rfl ?_
  rw [eI]
  refine Vw.aload_n (de_aload_0 (B 649 _ rfl)) 0 rfl (n := 650) rfl ?_
  refine Vw.iload_n (de_iload_3 (B 650 _ rfl)) 3 rfl (n := 651) rfl ?_
  refine Vw.iconst (v := 5) (de_iconst_5 (B 651 _ rfl)) rfl (n := 652) rfl ?_
  refine Vw.iadd (de_iadd (B 652 _ rfl)) (n := 653) rfl ?_
  rw [nI_p5]
  refine Vw.ialdS (j := 6 * k + 5) (de_iaload (B 653 _ rfl)) z2 (vIx_n rfl (by omega) (by omega)) (n := 654) rfl ?_
  rw [eI]
  refine Vw.prM (d := 40) (mr := mX12_asks) (As := [.int (I z (6 * k + 1)), .int (I z (6 * k + 2)), .int (I z (6 * k + 3)), .int (I z (6 * k + 4)), .int (I z (6 * k + 5))]) (cr := cr) (sr := sr) (de_invokevirtual (B 654 _ rfl) (B 655 _ rfl) (B 656 _ rfl)) ml_L_81 mv_X12_asks r2 rfl rfl (Nat.le_of_ble_eq_true rfl) (n := 657) rfl ct (fun I3 M3 h3 => ?_)
  refine Vw.icmp_eq (tgt := 1392) (n := 660) (de_icmp_eq (B 657 _ rfl) (B 658 _ rfl) (B 659 _ rfl)) rfl rfl (fun q => ?_) (fun q => absurd rfl q)
  exact law_t (ih S2 I3 M3 h3 z2)
set_option maxRecDepth 100000 in
theorem law_sew {Q : Int32 → vS → vI → vL → Prop} {cr sr z x r lb len k : Nat} {S : vS} {I : vI} {L : vL} (hR : REL S I x r lb) (hz : S.1 z = (400, len)) (hzx : z < x) (hk : 6 * k + 6 ≤ len) (hl : len ≤ 3072) (ih : ∀ S2 I2 L2, REL S2 I2 x r lb → S2.1 z = (400, len) → Vw mL_law (100 + 1) 600000 7302250 cr sr (ViQ Q) 18 [(0, .ref z), (1, .ref x), (2, .ref r), (3, .int (nI (6 * k + 6)))] [] S2 I2 L2) : Vw mL_law (100 + 1) 600000 7302250 (cr + 8) (sr + 480) (ViQ Q) 662 [(0, .ref z), (1, .ref x), (2, .ref r), (3, .int (nI (6 * k)))] [] S I L := by
  have B := bs_L_law
  have hX := hR.kx
  have hM := hR.kr
  refine Vw.less (cr2 := cr) (sr2 := sr) (by omega) (by omega) ?_
  refine Vw.aload_n (de_aload_1 (B 662 _ rfl)) 1 rfl (n := 663) rfl ?_
  refine Vw.aload_n (de_aload_0 (B 663 _ rfl)) 0 rfl (n := 664) rfl ?_
  refine Vw.iload_n (de_iload_3 (B 664 _ rfl)) 3 rfl (n := 665) rfl ?_
  refine Vw.iconst (v := 1) (de_iconst_1 (B 665 _ rfl)) rfl (n := 666) rfl ?_
  refine Vw.iadd (de_iadd (B 666 _ rfl)) (n := 667) rfl ?_
  rw [nI_p1]
  refine Vw.ialdS (j := 6 * k + 1) (de_iaload (B 667 _ rfl)) hz (vIx_n rfl (by omega) (by omega)) (n := 668) rfl ?_
  refine Vw.aload_n (de_aload_0 (B 668 _ rfl)) 0 rfl (n := 669) rfl ?_
  refine Vw.iload_n (de_iload_3 (B 669 _ rfl)) 3 rfl (n := 670) rfl ?_
  refine Vw.iconst (v := 2) (de_iconst_2 (B 670 _ rfl)) rfl (n := 671) rfl ?_
  refine Vw.iadd (de_iadd (B 671 _ rfl)) (n := 672) rfl ?_
  rw [nI_p2]
  refine Vw.ialdS (j := 6 * k + 2) (de_iaload (B 672 _ rfl)) hz (vIx_n rfl (by omega) (by omega)) (n := 673) rfl ?_
  refine Vw.aload_n (de_aload_0 (B 673 _ rfl)) 0 rfl (n := 674) rfl ?_
  refine Vw.iload_n (de_iload_3 (B 674 _ rfl)) 3 rfl (n := 675) rfl ?_
  refine Vw.iconst (v := 3) (de_iconst_3 (B 675 _ rfl)) rfl (n := 676) rfl ?_
  refine Vw.iadd (de_iadd (B 676 _ rfl)) (n := 677) rfl ?_
  rw [nI_p3]
  refine Vw.ialdS (j := 6 * k + 3) (de_iaload (B 677 _ rfl)) hz (vIx_n rfl (by omega) (by omega)) (n := 678) rfl ?_
  refine Vw.aload_n (de_aload_0 (B 678 _ rfl)) 0 rfl (n := 679) rfl ?_
  refine Vw.iload_n (de_iload_3 (B 679 _ rfl)) 3 rfl (n := 680) rfl ?_
  refine Vw.iconst (v := 4) (de_iconst_4 (B 680 _ rfl)) rfl (n := 681) rfl ?_
  refine Vw.iadd (de_iadd (B 681 _ rfl)) (n := 682) rfl ?_
  rw [nI_p4]
  refine Vw.ialdS (j := 6 * k + 4) (de_iaload (B 682 _ rfl)) hz (vIx_n rfl (by omega) (by omega)) (n := 683) rfl ?_
  refine Vw.aload_n (de_aload_0 (B 683 _ rfl)) 0 rfl (n := 684) rfl ?_
  refine Vw.iload_n (de_iload_3 (B 684 _ rfl)) 3 rfl (n := 685) rfl ?_
  refine Vw.iconst (v := 5) (de_iconst_5 (B 685 _ rfl)) rfl (n := 686) rfl ?_
  refine Vw.iadd (de_iadd (B 686 _ rfl)) (n := 687) rfl ?_
  rw [nI_p5]
  refine Vw.ialdS (j := 6 * k + 5) (de_iaload (B 687 _ rfl)) hz (vIx_n rfl (by omega) (by omega)) (n := 688) rfl ?_
  refine Vw.prI (d := 20) (mx := mX11_sew) (mr := mX12_sew) (As := [.int (I z (6 * k + 1)), .int (I z (6 * k + 2)), .int (I z (6 * k + 3)), .int (I z (6 * k + 4)), .int (I z (6 * k + 5))]) (cr := cr) (sr := sr) (mc' := 0) (ms' := 0) (de_invokevirtual (B 688 _ rfl) (B 689 _ rfl) (B 690 _ rfl)) ml_L_82 mv_X11_sew hX rfl rfl (Nat.le_of_ble_eq_true rfl) (n := 691) rfl hz hzx hM.1 hM.2 (pr_sew hR) (fun v S2 I2 M z2 r2 eI ct => ?_)
  refine Vw.aload_n (de_aload_2 (B 691 _ rfl)) 2 rfl (n := 692) rfl ?_
  refine Vw.aload_n (de_aload_0 (B 692 _ rfl)) 0 rfl (n := 693) rfl ?_
  refine Vw.iload_n (de_iload_3 (B 693 _ rfl)) 3 rfl (n := 694) rfl ?_
  refine Vw.iconst (v := 1) (de_iconst_1 (B 694 _ rfl)) rfl (n := 695) rfl ?_
  refine Vw.iadd (de_iadd (B 695 _ rfl)) (n := 696) rfl ?_
  rw [nI_p1]
  refine Vw.ialdS (j := 6 * k + 1) (de_iaload (B 696 _ rfl)) z2 (vIx_n rfl (by omega) (by omega)) (n := 697) rfl ?_
  rw [eI]
  refine Vw.aload_n (de_aload_0 (B 697 _ rfl)) 0 rfl (n := 698) rfl ?_
  refine Vw.iload_n (de_iload_3 (B 698 _ rfl)) 3 rfl (n := 699) rfl ?_
  refine Vw.iconst (v := 2) (de_iconst_2 (B 699 _ rfl)) rfl (n := 700) rfl ?_
  refine Vw.iadd (de_iadd (B 700 _ rfl)) (n := 701) rfl ?_
  rw [nI_p2]
  refine Vw.ialdS (j := 6 * k + 2) (de_iaload (B 701 _ rfl)) z2 (vIx_n rfl (by omega) (by omega)) (n := 702) rfl ?_
  rw [eI]
  refine Vw.aload_n (de_aload_0 (B 702 _ rfl)) 0 rfl (n := 703) rfl ?_
  refine Vw.iload_n (de_iload_3 (B 703 _ rfl)) 3 rfl (n := 704) rfl ?_
  refine Vw.iconst (v := 3) (de_iconst_3 (B 704 _ rfl)) rfl (n := 705) rfl ?_
  refine Vw.iadd (de_iadd (B 705 _ rfl)) (n := 706) rfl ?_
  rw [nI_p3]
  refine Vw.ialdS (j := 6 * k + 3) (de_iaload (B 706 _ rfl)) z2 (vIx_n rfl (by omega) (by omega)) (n := 707) rfl ?_
  rw [eI]
  refine Vw.aload_n (de_aload_0 (B 707 _ rfl)) 0 rfl (n := 708) rfl ?_
  refine Vw.iload_n (de_iload_3 (B 708 _ rfl)) 3 rfl (n := 709) rfl ?_
  refine Vw.iconst (v := 4) (de_iconst_4 (B 709 _ rfl)) rfl (n := 710) rfl ?_
  refine Vw.iadd (de_iadd (B 710 _ rfl)) (n := 711) rfl ?_
  rw [nI_p4]
  refine Vw.ialdS (j := 6 * k + 4) (de_iaload (B 711 _ rfl)) z2 (vIx_n rfl (by omega) (by omega)) (n := 712) rfl ?_
  rw [eI]
  refine Vw.aload_n (de_aload_0 (B 712 _ rfl)) 0 rfl (n := 713) rfl ?_
  refine Vw.iload_n (de_iload_3 (B 713 _ rfl)) 3 rfl (n := 714) rfl ?_
  refine Vw.iconst (v := 5) (de_iconst_5 (B 714 _ rfl)) rfl (n := 715) rfl ?_
  refine Vw.iadd (de_iadd (B 715 _ rfl)) (n := 716) rfl ?_
  rw [nI_p5]
  refine Vw.ialdS (j := 6 * k + 5) (de_iaload (B 716 _ rfl)) z2 (vIx_n rfl (by omega) (by omega)) (n := 717) rfl ?_
  rw [eI]
  refine Vw.prM (d := 40) (mr := mX12_sew) (As := [.int (I z (6 * k + 1)), .int (I z (6 * k + 2)), .int (I z (6 * k + 3)), .int (I z (6 * k + 4)), .int (I z (6 * k + 5))]) (cr := cr) (sr := sr) (de_invokevirtual (B 717 _ rfl) (B 718 _ rfl) (B 719 _ rfl)) ml_L_85 mv_X12_sew r2 rfl rfl (Nat.le_of_ble_eq_true rfl) (n := 720) rfl ct (fun I3 M3 h3 => ?_)
  refine Vw.icmp_eq (tgt := 1392) (n := 723) (de_icmp_eq (B 720 _ rfl) (B 721 _ rfl) (B 722 _ rfl)) rfl rfl (fun q => ?_) (fun q => absurd rfl q)
  exact law_t (ih S2 I3 M3 h3 z2)
set_option maxRecDepth 100000 in
theorem law_coat {Q : Int32 → vS → vI → vL → Prop} {cr sr z x r lb len k : Nat} {S : vS} {I : vI} {L : vL} (hR : REL S I x r lb) (hz : S.1 z = (400, len)) (hzx : z < x) (hk : 6 * k + 6 ≤ len) (hl : len ≤ 3072) (ih : ∀ S2 I2 L2, REL S2 I2 x r lb → S2.1 z = (400, len) → Vw mL_law (100 + 1) 600000 7302250 cr sr (ViQ Q) 18 [(0, .ref z), (1, .ref x), (2, .ref r), (3, .int (nI (6 * k + 6)))] [] S2 I2 L2) : Vw mL_law (100 + 1) 600000 7302250 (cr + 8) (sr + 480) (ViQ Q) 725 [(0, .ref z), (1, .ref x), (2, .ref r), (3, .int (nI (6 * k)))] [] S I L := by
  have B := bs_L_law
  have hX := hR.kx
  have hM := hR.kr
  refine Vw.less (cr2 := cr) (sr2 := sr) (by omega) (by omega) ?_
  refine Vw.aload_n (de_aload_1 (B 725 _ rfl)) 1 rfl (n := 726) rfl ?_
  refine Vw.aload_n (de_aload_0 (B 726 _ rfl)) 0 rfl (n := 727) rfl ?_
  refine Vw.iload_n (de_iload_3 (B 727 _ rfl)) 3 rfl (n := 728) rfl ?_
  refine Vw.iconst (v := 1) (de_iconst_1 (B 728 _ rfl)) rfl (n := 729) rfl ?_
  refine Vw.iadd (de_iadd (B 729 _ rfl)) (n := 730) rfl ?_
  rw [nI_p1]
  refine Vw.ialdS (j := 6 * k + 1) (de_iaload (B 730 _ rfl)) hz (vIx_n rfl (by omega) (by omega)) (n := 731) rfl ?_
  refine Vw.aload_n (de_aload_0 (B 731 _ rfl)) 0 rfl (n := 732) rfl ?_
  refine Vw.iload_n (de_iload_3 (B 732 _ rfl)) 3 rfl (n := 733) rfl ?_
  refine Vw.iconst (v := 2) (de_iconst_2 (B 733 _ rfl)) rfl (n := 734) rfl ?_
  refine Vw.iadd (de_iadd (B 734 _ rfl)) (n := 735) rfl ?_
  rw [nI_p2]
  refine Vw.ialdS (j := 6 * k + 2) (de_iaload (B 735 _ rfl)) hz (vIx_n rfl (by omega) (by omega)) (n := 736) rfl ?_
  refine Vw.prI (d := 20) (mx := mX11_coat) (mr := mX12_coat) (As := [.int (I z (6 * k + 1)), .int (I z (6 * k + 2))]) (cr := cr) (sr := sr) (mc' := 0) (ms' := 0) (de_invokevirtual (B 736 _ rfl) (B 737 _ rfl) (B 738 _ rfl)) ml_L_86 mv_X11_coat hX rfl rfl (Nat.le_of_ble_eq_true rfl) (n := 739) rfl hz hzx hM.1 hM.2 (pr_coat hR) (fun v S2 I2 M z2 r2 eI ct => ?_)
  refine Vw.aload_n (de_aload_2 (B 739 _ rfl)) 2 rfl (n := 740) rfl ?_
  refine Vw.aload_n (de_aload_0 (B 740 _ rfl)) 0 rfl (n := 741) rfl ?_
  refine Vw.iload_n (de_iload_3 (B 741 _ rfl)) 3 rfl (n := 742) rfl ?_
  refine Vw.iconst (v := 1) (de_iconst_1 (B 742 _ rfl)) rfl (n := 743) rfl ?_
  refine Vw.iadd (de_iadd (B 743 _ rfl)) (n := 744) rfl ?_
  rw [nI_p1]
  refine Vw.ialdS (j := 6 * k + 1) (de_iaload (B 744 _ rfl)) z2 (vIx_n rfl (by omega) (by omega)) (n := 745) rfl ?_
  rw [eI]
  refine Vw.aload_n (de_aload_0 (B 745 _ rfl)) 0 rfl (n := 746) rfl ?_
  refine Vw.iload_n (de_iload_3 (B 746 _ rfl)) 3 rfl (n := 747) rfl ?_
  refine Vw.iconst (v := 2) (de_iconst_2 (B 747 _ rfl)) rfl (n := 748) rfl ?_
  refine Vw.iadd (de_iadd (B 748 _ rfl)) (n := 749) rfl ?_
  rw [nI_p2]
  refine Vw.ialdS (j := 6 * k + 2) (de_iaload (B 749 _ rfl)) z2 (vIx_n rfl (by omega) (by omega)) (n := 750) rfl ?_
  rw [eI]
  refine Vw.prM (d := 40) (mr := mX12_coat) (As := [.int (I z (6 * k + 1)), .int (I z (6 * k + 2))]) (cr := cr) (sr := sr) (de_invokevirtual (B 750 _ rfl) (B 751 _ rfl) (B 752 _ rfl)) ml_L_89 mv_X12_coat r2 rfl rfl (Nat.le_of_ble_eq_true rfl) (n := 753) rfl ct (fun I3 M3 h3 => ?_)
  refine Vw.icmp_eq (tgt := 1392) (n := 756) (de_icmp_eq (B 753 _ rfl) (B 754 _ rfl) (B 755 _ rfl)) rfl rfl (fun q => ?_) (fun q => absurd rfl q)
  exact law_t (ih S2 I3 M3 h3 z2)
set_option maxRecDepth 100000 in
theorem law_let {Q : Int32 → vS → vI → vL → Prop} {cr sr z x r lb len k : Nat} {S : vS} {I : vI} {L : vL} (hR : REL S I x r lb) (hz : S.1 z = (400, len)) (hzx : z < x) (hk : 6 * k + 6 ≤ len) (hl : len ≤ 3072) (ih : ∀ S2 I2 L2, REL S2 I2 x r lb → S2.1 z = (400, len) → Vw mL_law (100 + 1) 600000 7302250 cr sr (ViQ Q) 18 [(0, .ref z), (1, .ref x), (2, .ref r), (3, .int (nI (6 * k + 6)))] [] S2 I2 L2) : Vw mL_law (100 + 1) 600000 7302250 (cr + 8) (sr + 480) (ViQ Q) 758 [(0, .ref z), (1, .ref x), (2, .ref r), (3, .int (nI (6 * k)))] [] S I L := by
  have B := bs_L_law
  have hX := hR.kx
  have hM := hR.kr
  refine Vw.less (cr2 := cr) (sr2 := sr) (by omega) (by omega) ?_
  refine Vw.aload_n (de_aload_1 (B 758 _ rfl)) 1 rfl (n := 759) rfl ?_
  refine Vw.aload_n (de_aload_0 (B 759 _ rfl)) 0 rfl (n := 760) rfl ?_
  refine Vw.iload_n (de_iload_3 (B 760 _ rfl)) 3 rfl (n := 761) rfl ?_
  refine Vw.iconst (v := 1) (de_iconst_1 (B 761 _ rfl)) rfl (n := 762) rfl ?_
  refine Vw.iadd (de_iadd (B 762 _ rfl)) (n := 763) rfl ?_
  rw [nI_p1]
  refine Vw.ialdS (j := 6 * k + 1) (de_iaload (B 763 _ rfl)) hz (vIx_n rfl (by omega) (by omega)) (n := 764) rfl ?_
  refine Vw.aload_n (de_aload_0 (B 764 _ rfl)) 0 rfl (n := 765) rfl ?_
  refine Vw.iload_n (de_iload_3 (B 765 _ rfl)) 3 rfl (n := 766) rfl ?_
  refine Vw.iconst (v := 2) (de_iconst_2 (B 766 _ rfl)) rfl (n := 767) rfl ?_
  refine Vw.iadd (de_iadd (B 767 _ rfl)) (n := 768) rfl ?_
  rw [nI_p2]
  refine Vw.ialdS (j := 6 * k + 2) (de_iaload (B 768 _ rfl)) hz (vIx_n rfl (by omega) (by omega)) (n := 769) rfl ?_
  refine Vw.prI (d := 20) (mx := mX11_let) (mr := mX12_let) (As := [.int (I z (6 * k + 1)), .int (I z (6 * k + 2))]) (cr := cr) (sr := sr) (mc' := 0) (ms' := 0) (de_invokevirtual (B 769 _ rfl) (B 770 _ rfl) (B 771 _ rfl)) ml_L_90 mv_X11_let hX rfl rfl (Nat.le_of_ble_eq_true rfl) (n := 772) rfl hz hzx hM.1 hM.2 (pr_let hR) (fun v S2 I2 M z2 r2 eI ct => ?_)
  refine Vw.aload_n (de_aload_2 (B 772 _ rfl)) 2 rfl (n := 773) rfl ?_
  refine Vw.aload_n (de_aload_0 (B 773 _ rfl)) 0 rfl (n := 774) rfl ?_
  refine Vw.iload_n (de_iload_3 (B 774 _ rfl)) 3 rfl (n := 775) rfl ?_
  refine Vw.iconst (v := 1) (de_iconst_1 (B 775 _ rfl)) rfl (n := 776) rfl ?_
  refine Vw.iadd (de_iadd (B 776 _ rfl)) (n := 777) rfl ?_
  rw [nI_p1]
  refine Vw.ialdS (j := 6 * k + 1) (de_iaload (B 777 _ rfl)) z2 (vIx_n rfl (by omega) (by omega)) (n := 778) rfl ?_
  rw [eI]
  refine Vw.aload_n (de_aload_0 (B 778 _ rfl)) 0 rfl (n := 779) rfl ?_
  refine Vw.iload_n (de_iload_3 (B 779 _ rfl)) 3 rfl (n := 780) rfl ?_
  refine Vw.iconst (v := 2) (de_iconst_2 (B 780 _ rfl)) rfl (n := 781) rfl ?_
  refine Vw.iadd (de_iadd (B 781 _ rfl)) (n := 782) rfl ?_
  rw [nI_p2]
  refine Vw.ialdS (j := 6 * k + 2) (de_iaload (B 782 _ rfl)) z2 (vIx_n rfl (by omega) (by omega)) (n := 783) rfl ?_
  rw [eI]
  refine Vw.prM (d := 40) (mr := mX12_let) (As := [.int (I z (6 * k + 1)), .int (I z (6 * k + 2))]) (cr := cr) (sr := sr) (de_invokevirtual (B 783 _ rfl) (B 784 _ rfl) (B 785 _ rfl)) ml_L_93 mv_X12_let r2 rfl rfl (Nat.le_of_ble_eq_true rfl) (n := 786) rfl ct (fun I3 M3 h3 => ?_)
  refine Vw.icmp_eq (tgt := 1392) (n := 789) (de_icmp_eq (B 786 _ rfl) (B 787 _ rfl) (B 788 _ rfl)) rfl rfl (fun q => ?_) (fun q => absurd rfl q)
  exact law_t (ih S2 I3 M3 h3 z2)
set_option maxRecDepth 100000 in
theorem law_quarter {Q : Int32 → vS → vI → vL → Prop} {cr sr z x r lb len k : Nat} {S : vS} {I : vI} {L : vL} (hR : REL S I x r lb) (hz : S.1 z = (400, len)) (hzx : z < x) (hk : 6 * k + 6 ≤ len) (hl : len ≤ 3072) (ih : ∀ S2 I2 L2, REL S2 I2 x r lb → S2.1 z = (400, len) → Vw mL_law (100 + 1) 600000 7302250 cr sr (ViQ Q) 18 [(0, .ref z), (1, .ref x), (2, .ref r), (3, .int (nI (6 * k + 6)))] [] S2 I2 L2) : Vw mL_law (100 + 1) 600000 7302250 (cr + 8) (sr + 480) (ViQ Q) 791 [(0, .ref z), (1, .ref x), (2, .ref r), (3, .int (nI (6 * k)))] [] S I L := by
  have B := bs_L_law
  have hX := hR.kx
  have hM := hR.kr
  refine Vw.less (cr2 := cr) (sr2 := sr) (by omega) (by omega) ?_
  refine Vw.aload_n (de_aload_1 (B 791 _ rfl)) 1 rfl (n := 792) rfl ?_
  refine Vw.prI (d := 20) (mx := mX11_quarter) (mr := mX12_quarter) (As := []) (cr := cr) (sr := sr) (mc' := 0) (ms' := 0) (de_invokevirtual (B 792 _ rfl) (B 793 _ rfl) (B 794 _ rfl)) ml_L_94 mv_X11_quarter hX rfl rfl (Nat.le_of_ble_eq_true rfl) (n := 795) rfl hz hzx hM.1 hM.2 (pr_quarter hR) (fun v S2 I2 M z2 r2 eI ct => ?_)
  refine Vw.aload_n (de_aload_2 (B 795 _ rfl)) 2 rfl (n := 796) rfl ?_
  refine Vw.prM (d := 40) (mr := mX12_quarter) (As := []) (cr := cr) (sr := sr) (de_invokevirtual (B 796 _ rfl) (B 797 _ rfl) (B 798 _ rfl)) ml_L_97 mv_X12_quarter r2 rfl rfl (Nat.le_of_ble_eq_true rfl) (n := 799) rfl ct (fun I3 M3 h3 => ?_)
  refine Vw.icmp_eq (tgt := 1392) (n := 802) (de_icmp_eq (B 799 _ rfl) (B 800 _ rfl) (B 801 _ rfl)) rfl rfl (fun q => ?_) (fun q => absurd rfl q)
  exact law_t (ih S2 I3 M3 h3 z2)
set_option maxRecDepth 100000 in
theorem law_hand {Q : Int32 → vS → vI → vL → Prop} {cr sr z x r lb len k : Nat} {S : vS} {I : vI} {L : vL} (hR : REL S I x r lb) (hz : S.1 z = (400, len)) (hzx : z < x) (hk : 6 * k + 6 ≤ len) (hl : len ≤ 3072) (ih : ∀ S2 I2 L2, REL S2 I2 x r lb → S2.1 z = (400, len) → Vw mL_law (100 + 1) 600000 7302250 cr sr (ViQ Q) 18 [(0, .ref z), (1, .ref x), (2, .ref r), (3, .int (nI (6 * k + 6)))] [] S2 I2 L2) : Vw mL_law (100 + 1) 600000 7302250 (cr + 8) (sr + 480) (ViQ Q) 804 [(0, .ref z), (1, .ref x), (2, .ref r), (3, .int (nI (6 * k)))] [] S I L := by
  have B := bs_L_law
  have hX := hR.kx
  have hM := hR.kr
  refine Vw.less (cr2 := cr) (sr2 := sr) (by omega) (by omega) ?_
  refine Vw.aload_n (de_aload_1 (B 804 _ rfl)) 1 rfl (n := 805) rfl ?_
  refine Vw.aload_n (de_aload_0 (B 805 _ rfl)) 0 rfl (n := 806) rfl ?_
  refine Vw.iload_n (de_iload_3 (B 806 _ rfl)) 3 rfl (n := 807) rfl ?_
  refine Vw.iconst (v := 1) (de_iconst_1 (B 807 _ rfl)) rfl (n := 808) rfl ?_
  refine Vw.iadd (de_iadd (B 808 _ rfl)) (n := 809) rfl ?_
  rw [nI_p1]
  refine Vw.ialdS (j := 6 * k + 1) (de_iaload (B 809 _ rfl)) hz (vIx_n rfl (by omega) (by omega)) (n := 810) rfl ?_
  refine Vw.aload_n (de_aload_0 (B 810 _ rfl)) 0 rfl (n := 811) rfl ?_
  refine Vw.iload_n (de_iload_3 (B 811 _ rfl)) 3 rfl (n := 812) rfl ?_
  refine Vw.iconst (v := 2) (de_iconst_2 (B 812 _ rfl)) rfl (n := 813) rfl ?_
  refine Vw.iadd (de_iadd (B 813 _ rfl)) (n := 814) rfl ?_
  rw [nI_p2]
  refine Vw.ialdS (j := 6 * k + 2) (de_iaload (B 814 _ rfl)) hz (vIx_n rfl (by omega) (by omega)) (n := 815) rfl ?_
  refine Vw.prI (d := 20) (mx := mX11_hand) (mr := mX12_hand) (As := [.int (I z (6 * k + 1)), .int (I z (6 * k + 2))]) (cr := cr) (sr := sr) (mc' := 0) (ms' := 0) (de_invokevirtual (B 815 _ rfl) (B 816 _ rfl) (B 817 _ rfl)) ml_L_98 mv_X11_hand hX rfl rfl (Nat.le_of_ble_eq_true rfl) (n := 818) rfl hz hzx hM.1 hM.2 (pr_hand hR) (fun v S2 I2 M z2 r2 eI ct => ?_)
  refine Vw.aload_n (de_aload_2 (B 818 _ rfl)) 2 rfl (n := 819) rfl ?_
  refine Vw.aload_n (de_aload_0 (B 819 _ rfl)) 0 rfl (n := 820) rfl ?_
  refine Vw.iload_n (de_iload_3 (B 820 _ rfl)) 3 rfl (n := 821) rfl ?_
  refine Vw.iconst (v := 1) (de_iconst_1 (B 821 _ rfl)) rfl (n := 822) rfl ?_
  refine Vw.iadd (de_iadd (B 822 _ rfl)) (n := 823) rfl ?_
  rw [nI_p1]
  refine Vw.ialdS (j := 6 * k + 1) (de_iaload (B 823 _ rfl)) z2 (vIx_n rfl (by omega) (by omega)) (n := 824) rfl ?_
  rw [eI]
  refine Vw.aload_n (de_aload_0 (B 824 _ rfl)) 0 rfl (n := 825) rfl ?_
  refine Vw.iload_n (de_iload_3 (B 825 _ rfl)) 3 rfl (n := 826) rfl ?_
  refine Vw.iconst (v := 2) (de_iconst_2 (B 826 _ rfl)) rfl (n := 827) rfl ?_
  refine Vw.iadd (de_iadd (B 827 _ rfl)) (n := 828) rfl ?_
  rw [nI_p2]
  refine Vw.ialdS (j := 6 * k + 2) (de_iaload (B 828 _ rfl)) z2 (vIx_n rfl (by omega) (by omega)) (n := 829) rfl ?_
  rw [eI]
  refine Vw.prM (d := 40) (mr := mX12_hand) (As := [.int (I z (6 * k + 1)), .int (I z (6 * k + 2))]) (cr := cr) (sr := sr) (de_invokevirtual (B 829 _ rfl) (B 830 _ rfl) (B 831 _ rfl)) ml_L_101 mv_X12_hand r2 rfl rfl (Nat.le_of_ble_eq_true rfl) (n := 832) rfl ct (fun I3 M3 h3 => ?_)
  refine Vw.icmp_eq (tgt := 1392) (n := 835) (de_icmp_eq (B 832 _ rfl) (B 833 _ rfl) (B 834 _ rfl)) rfl rfl (fun q => ?_) (fun q => absurd rfl q)
  exact law_t (ih S2 I3 M3 h3 z2)
set_option maxRecDepth 100000 in
theorem law_undo {Q : Int32 → vS → vI → vL → Prop} {cr sr z x r lb len k : Nat} {S : vS} {I : vI} {L : vL} (hR : REL S I x r lb) (hz : S.1 z = (400, len)) (hzx : z < x) (hk : 6 * k + 6 ≤ len) (hl : len ≤ 3072) (ih : ∀ S2 I2 L2, REL S2 I2 x r lb → S2.1 z = (400, len) → Vw mL_law (100 + 1) 600000 7302250 cr sr (ViQ Q) 18 [(0, .ref z), (1, .ref x), (2, .ref r), (3, .int (nI (6 * k + 6)))] [] S2 I2 L2) : Vw mL_law (100 + 1) 600000 7302250 (cr + 8) (sr + 480) (ViQ Q) 837 [(0, .ref z), (1, .ref x), (2, .ref r), (3, .int (nI (6 * k)))] [] S I L := by
  have B := bs_L_law
  have hX := hR.kx
  have hM := hR.kr
  refine Vw.less (cr2 := cr) (sr2 := sr) (by omega) (by omega) ?_
  refine Vw.aload_n (de_aload_1 (B 837 _ rfl)) 1 rfl (n := 838) rfl ?_
  refine Vw.prI (d := 20) (mx := mX11_undo) (mr := mX12_undo) (As := []) (cr := cr) (sr := sr) (mc' := 0) (ms' := 0) (de_invokevirtual (B 838 _ rfl) (B 839 _ rfl) (B 840 _ rfl)) ml_L_102 mv_X11_undo hX rfl rfl (Nat.le_of_ble_eq_true rfl) (n := 841) rfl hz hzx hM.1 hM.2 (pr_undo hR) (fun v S2 I2 M z2 r2 eI ct => ?_)
  refine Vw.aload_n (de_aload_2 (B 841 _ rfl)) 2 rfl (n := 842) rfl ?_
  refine Vw.prM (d := 40) (mr := mX12_undo) (As := []) (cr := cr) (sr := sr) (de_invokevirtual (B 842 _ rfl) (B 843 _ rfl) (B 844 _ rfl)) ml_L_105 mv_X12_undo r2 rfl rfl (Nat.le_of_ble_eq_true rfl) (n := 845) rfl ct (fun I3 M3 h3 => ?_)
  refine Vw.icmp_eq (tgt := 1392) (n := 848) (de_icmp_eq (B 845 _ rfl) (B 846 _ rfl) (B 847 _ rfl)) rfl rfl (fun q => ?_) (fun q => absurd rfl q)
  exact law_t (ih S2 I3 M3 h3 z2)
set_option maxRecDepth 100000 in
theorem law_will {Q : Int32 → vS → vI → vL → Prop} {cr sr z x r lb len k : Nat} {S : vS} {I : vI} {L : vL} (hR : REL S I x r lb) (hz : S.1 z = (400, len)) (hzx : z < x) (hk : 6 * k + 6 ≤ len) (hl : len ≤ 3072) (ih : ∀ S2 I2 L2, REL S2 I2 x r lb → S2.1 z = (400, len) → Vw mL_law (100 + 1) 600000 7302250 cr sr (ViQ Q) 18 [(0, .ref z), (1, .ref x), (2, .ref r), (3, .int (nI (6 * k + 6)))] [] S2 I2 L2) : Vw mL_law (100 + 1) 600000 7302250 (cr + 8) (sr + 480) (ViQ Q) 850 [(0, .ref z), (1, .ref x), (2, .ref r), (3, .int (nI (6 * k)))] [] S I L := by
  have B := bs_L_law
  have hX := hR.kx
  have hM := hR.kr
  refine Vw.less (cr2 := cr) (sr2 := sr) (by omega) (by omega) ?_
  refine Vw.aload_n (de_aload_1 (B 850 _ rfl)) 1 rfl (n := 851) rfl ?_
  refine Vw.aload_n (de_aload_0 (B 851 _ rfl)) 0 rfl (n := 852) rfl ?_
  refine Vw.iload_n (de_iload_3 (B 852 _ rfl)) 3 rfl (n := 853) rfl ?_
  refine Vw.iconst (v := 1) (de_iconst_1 (B 853 _ rfl)) rfl (n := 854) rfl ?_
  refine Vw.iadd (de_iadd (B 854 _ rfl)) (n := 855) rfl ?_
  rw [nI_p1]
  refine Vw.ialdS (j := 6 * k + 1) (de_iaload (B 855 _ rfl)) hz (vIx_n rfl (by omega) (by omega)) (n := 856) rfl ?_
  refine Vw.aload_n (de_aload_0 (B 856 _ rfl)) 0 rfl (n := 857) rfl ?_
  refine Vw.iload_n (de_iload_3 (B 857 _ rfl)) 3 rfl (n := 858) rfl ?_
  refine Vw.iconst (v := 2) (de_iconst_2 (B 858 _ rfl)) rfl (n := 859) rfl ?_
  refine Vw.iadd (de_iadd (B 859 _ rfl)) (n := 860) rfl ?_
  rw [nI_p2]
  refine Vw.ialdS (j := 6 * k + 2) (de_iaload (B 860 _ rfl)) hz (vIx_n rfl (by omega) (by omega)) (n := 861) rfl ?_
  refine Vw.aload_n (de_aload_0 (B 861 _ rfl)) 0 rfl (n := 862) rfl ?_
  refine Vw.iload_n (de_iload_3 (B 862 _ rfl)) 3 rfl (n := 863) rfl ?_
  refine Vw.iconst (v := 3) (de_iconst_3 (B 863 _ rfl)) rfl (n := 864) rfl ?_
  refine Vw.iadd (de_iadd (B 864 _ rfl)) (n := 865) rfl ?_
  rw [nI_p3]
  refine Vw.ialdS (j := 6 * k + 3) (de_iaload (B 865 _ rfl)) hz (vIx_n rfl (by omega) (by omega)) (n := 866) rfl ?_
  refine Vw.prI (d := 20) (mx := mX11_will) (mr := mX12_will) (As := [.int (I z (6 * k + 1)), .int (I z (6 * k + 2)), .int (I z (6 * k + 3))]) (cr := cr) (sr := sr) (mc' := 0) (ms' := 0) (de_invokevirtual (B 866 _ rfl) (B 867 _ rfl) (B 868 _ rfl)) ml_L_106 mv_X11_will hX rfl rfl (Nat.le_of_ble_eq_true rfl) (n := 869) rfl hz hzx hM.1 hM.2 (pr_will hR) (fun v S2 I2 M z2 r2 eI ct => ?_)
  refine Vw.aload_n (de_aload_2 (B 869 _ rfl)) 2 rfl (n := 870) rfl ?_
  refine Vw.aload_n (de_aload_0 (B 870 _ rfl)) 0 rfl (n := 871) rfl ?_
  refine Vw.iload_n (de_iload_3 (B 871 _ rfl)) 3 rfl (n := 872) rfl ?_
  refine Vw.iconst (v := 1) (de_iconst_1 (B 872 _ rfl)) rfl (n := 873) rfl ?_
  refine Vw.iadd (de_iadd (B 873 _ rfl)) (n := 874) rfl ?_
  rw [nI_p1]
  refine Vw.ialdS (j := 6 * k + 1) (de_iaload (B 874 _ rfl)) z2 (vIx_n rfl (by omega) (by omega)) (n := 875) rfl ?_
  rw [eI]
  refine Vw.aload_n (de_aload_0 (B 875 _ rfl)) 0 rfl (n := 876) rfl ?_
  refine Vw.iload_n (de_iload_3 (B 876 _ rfl)) 3 rfl (n := 877) rfl ?_
  refine Vw.iconst (v := 2) (de_iconst_2 (B 877 _ rfl)) rfl (n := 878) rfl ?_
  refine Vw.iadd (de_iadd (B 878 _ rfl)) (n := 879) rfl ?_
  rw [nI_p2]
  refine Vw.ialdS (j := 6 * k + 2) (de_iaload (B 879 _ rfl)) z2 (vIx_n rfl (by omega) (by omega)) (n := 880) rfl ?_
  rw [eI]
  refine Vw.aload_n (de_aload_0 (B 880 _ rfl)) 0 rfl (n := 881) rfl ?_
  refine Vw.iload_n (de_iload_3 (B 881 _ rfl)) 3 rfl (n := 882) rfl ?_
  refine Vw.iconst (v := 3) (de_iconst_3 (B 882 _ rfl)) rfl (n := 883) rfl ?_
  refine Vw.iadd (de_iadd (B 883 _ rfl)) (n := 884) rfl ?_
  rw [nI_p3]
  refine Vw.ialdS (j := 6 * k + 3) (de_iaload (B 884 _ rfl)) z2 (vIx_n rfl (by omega) (by omega)) (n := 885) rfl ?_
  rw [eI]
  refine Vw.prM (d := 40) (mr := mX12_will) (As := [.int (I z (6 * k + 1)), .int (I z (6 * k + 2)), .int (I z (6 * k + 3))]) (cr := cr) (sr := sr) (de_invokevirtual (B 885 _ rfl) (B 886 _ rfl) (B 887 _ rfl)) ml_L_109 mv_X12_will r2 rfl rfl (Nat.le_of_ble_eq_true rfl) (n := 888) rfl ct (fun I3 M3 h3 => ?_)
  refine Vw.icmp_eq (tgt := 1392) (n := 891) (de_icmp_eq (B 888 _ rfl) (B 889 _ rfl) (B 890 _ rfl)) rfl rfl (fun q => ?_) (fun q => absurd rfl q)
  exact law_t (ih S2 I3 M3 h3 z2)
set_option maxRecDepth 100000 in
theorem law_due {Q : Int32 → vS → vI → vL → Prop} {cr sr z x r lb len k : Nat} {S : vS} {I : vI} {L : vL} (hR : REL S I x r lb) (hz : S.1 z = (400, len)) (hzx : z < x) (hk : 6 * k + 6 ≤ len) (hl : len ≤ 3072) (ih : ∀ S2 I2 L2, REL S2 I2 x r lb → S2.1 z = (400, len) → Vw mL_law (100 + 1) 600000 7302250 cr sr (ViQ Q) 18 [(0, .ref z), (1, .ref x), (2, .ref r), (3, .int (nI (6 * k + 6)))] [] S2 I2 L2) : Vw mL_law (100 + 1) 600000 7302250 (cr + 8) (sr + 480) (ViQ Q) 893 [(0, .ref z), (1, .ref x), (2, .ref r), (3, .int (nI (6 * k)))] [] S I L := by
  have B := bs_L_law
  have hX := hR.kx
  have hM := hR.kr
  refine Vw.less (cr2 := cr) (sr2 := sr) (by omega) (by omega) ?_
  refine Vw.aload_n (de_aload_1 (B 893 _ rfl)) 1 rfl (n := 894) rfl ?_
  refine Vw.aload_n (de_aload_0 (B 894 _ rfl)) 0 rfl (n := 895) rfl ?_
  refine Vw.iload_n (de_iload_3 (B 895 _ rfl)) 3 rfl (n := 896) rfl ?_
  refine Vw.iconst (v := 1) (de_iconst_1 (B 896 _ rfl)) rfl (n := 897) rfl ?_
  refine Vw.iadd (de_iadd (B 897 _ rfl)) (n := 898) rfl ?_
  rw [nI_p1]
  refine Vw.ialdS (j := 6 * k + 1) (de_iaload (B 898 _ rfl)) hz (vIx_n rfl (by omega) (by omega)) (n := 899) rfl ?_
  refine Vw.prI (d := 20) (mx := mX11_due) (mr := mX12_due) (As := [.int (I z (6 * k + 1))]) (cr := cr) (sr := sr) (mc' := 0) (ms' := 0) (de_invokevirtual (B 899 _ rfl) (B 900 _ rfl) (B 901 _ rfl)) ml_L_110 mv_X11_due hX rfl rfl (Nat.le_of_ble_eq_true rfl) (n := 902) rfl hz hzx hM.1 hM.2 (pr_due hR) (fun v S2 I2 M z2 r2 eI ct => ?_)
  refine Vw.aload_n (de_aload_2 (B 902 _ rfl)) 2 rfl (n := 903) rfl ?_
  refine Vw.aload_n (de_aload_0 (B 903 _ rfl)) 0 rfl (n := 904) rfl ?_
  refine Vw.iload_n (de_iload_3 (B 904 _ rfl)) 3 rfl (n := 905) rfl ?_
  refine Vw.iconst (v := 1) (de_iconst_1 (B 905 _ rfl)) rfl (n := 906) rfl ?_
  refine Vw.iadd (de_iadd (B 906 _ rfl)) (n := 907) rfl ?_
  rw [nI_p1]
  refine Vw.ialdS (j := 6 * k + 1) (de_iaload (B 907 _ rfl)) z2 (vIx_n rfl (by omega) (by omega)) (n := 908) rfl ?_
  rw [eI]
  refine Vw.prM (d := 40) (mr := mX12_due) (As := [.int (I z (6 * k + 1))]) (cr := cr) (sr := sr) (de_invokevirtual (B 908 _ rfl) (B 909 _ rfl) (B 910 _ rfl)) ml_L_113 mv_X12_due r2 rfl rfl (Nat.le_of_ble_eq_true rfl) (n := 911) rfl ct (fun I3 M3 h3 => ?_)
  refine Vw.icmp_eq (tgt := 1392) (n := 914) (de_icmp_eq (B 911 _ rfl) (B 912 _ rfl) (B 913 _ rfl)) rfl rfl (fun q => ?_) (fun q => absurd rfl q)
  exact law_t (ih S2 I3 M3 h3 z2)
set_option maxRecDepth 100000 in
theorem law_falls {Q : Int32 → vS → vI → vL → Prop} {cr sr z x r lb len k : Nat} {S : vS} {I : vI} {L : vL} (hR : REL S I x r lb) (hz : S.1 z = (400, len)) (hzx : z < x) (hk : 6 * k + 6 ≤ len) (hl : len ≤ 3072) (ih : ∀ S2 I2 L2, REL S2 I2 x r lb → S2.1 z = (400, len) → Vw mL_law (100 + 1) 600000 7302250 cr sr (ViQ Q) 18 [(0, .ref z), (1, .ref x), (2, .ref r), (3, .int (nI (6 * k + 6)))] [] S2 I2 L2) : Vw mL_law (100 + 1) 600000 7302250 (cr + 8) (sr + 480) (ViQ Q) 916 [(0, .ref z), (1, .ref x), (2, .ref r), (3, .int (nI (6 * k)))] [] S I L := by
  have B := bs_L_law
  have hX := hR.kx
  have hM := hR.kr
  refine Vw.less (cr2 := cr) (sr2 := sr) (by omega) (by omega) ?_
  refine Vw.aload_n (de_aload_1 (B 916 _ rfl)) 1 rfl (n := 917) rfl ?_
  refine Vw.aload_n (de_aload_0 (B 917 _ rfl)) 0 rfl (n := 918) rfl ?_
  refine Vw.iload_n (de_iload_3 (B 918 _ rfl)) 3 rfl (n := 919) rfl ?_
  refine Vw.iconst (v := 1) (de_iconst_1 (B 919 _ rfl)) rfl (n := 920) rfl ?_
  refine Vw.iadd (de_iadd (B 920 _ rfl)) (n := 921) rfl ?_
  rw [nI_p1]
  refine Vw.ialdS (j := 6 * k + 1) (de_iaload (B 921 _ rfl)) hz (vIx_n rfl (by omega) (by omega)) (n := 922) rfl ?_
  refine Vw.aload_n (de_aload_0 (B 922 _ rfl)) 0 rfl (n := 923) rfl ?_
  refine Vw.iload_n (de_iload_3 (B 923 _ rfl)) 3 rfl (n := 924) rfl ?_
  refine Vw.iconst (v := 2) (de_iconst_2 (B 924 _ rfl)) rfl (n := 925) rfl ?_
  refine Vw.iadd (de_iadd (B 925 _ rfl)) (n := 926) rfl ?_
  rw [nI_p2]
  refine Vw.ialdS (j := 6 * k + 2) (de_iaload (B 926 _ rfl)) hz (vIx_n rfl (by omega) (by omega)) (n := 927) rfl ?_
  refine Vw.prI (d := 20) (mx := mX11_falls) (mr := mX12_falls) (As := [.int (I z (6 * k + 1)), .int (I z (6 * k + 2))]) (cr := cr) (sr := sr) (mc' := 0) (ms' := 0) (de_invokevirtual (B 927 _ rfl) (B 928 _ rfl) (B 929 _ rfl)) ml_L_114 mv_X11_falls hX rfl rfl (Nat.le_of_ble_eq_true rfl) (n := 930) rfl hz hzx hM.1 hM.2 (pr_falls hR) (fun v S2 I2 M z2 r2 eI ct => ?_)
  refine Vw.aload_n (de_aload_2 (B 930 _ rfl)) 2 rfl (n := 931) rfl ?_
  refine Vw.aload_n (de_aload_0 (B 931 _ rfl)) 0 rfl (n := 932) rfl ?_
  refine Vw.iload_n (de_iload_3 (B 932 _ rfl)) 3 rfl (n := 933) rfl ?_
  refine Vw.iconst (v := 1) (de_iconst_1 (B 933 _ rfl)) rfl (n := 934) rfl ?_
  refine Vw.iadd (de_iadd (B 934 _ rfl)) (n := 935) rfl ?_
  rw [nI_p1]
  refine Vw.ialdS (j := 6 * k + 1) (de_iaload (B 935 _ rfl)) z2 (vIx_n rfl (by omega) (by omega)) (n := 936) rfl ?_
  rw [eI]
  refine Vw.aload_n (de_aload_0 (B 936 _ rfl)) 0 rfl (n := 937) rfl ?_
  refine Vw.iload_n (de_iload_3 (B 937 _ rfl)) 3 rfl (n := 938) rfl ?_
  refine Vw.iconst (v := 2) (de_iconst_2 (B 938 _ rfl)) rfl (n := 939) rfl ?_
  refine Vw.iadd (de_iadd (B 939 _ rfl)) (n := 940) rfl ?_
  rw [nI_p2]
  refine Vw.ialdS (j := 6 * k + 2) (de_iaload (B 940 _ rfl)) z2 (vIx_n rfl (by omega) (by omega)) (n := 941) rfl ?_
  rw [eI]
  refine Vw.prM (d := 40) (mr := mX12_falls) (As := [.int (I z (6 * k + 1)), .int (I z (6 * k + 2))]) (cr := cr) (sr := sr) (de_invokevirtual (B 941 _ rfl) (B 942 _ rfl) (B 943 _ rfl)) ml_L_117 mv_X12_falls r2 rfl rfl (Nat.le_of_ble_eq_true rfl) (n := 944) rfl ct (fun I3 M3 h3 => ?_)
  refine Vw.icmp_eq (tgt := 1392) (n := 947) (de_icmp_eq (B 944 _ rfl) (B 945 _ rfl) (B 946 _ rfl)) rfl rfl (fun q => ?_) (fun q => absurd rfl q)
  exact law_t (ih S2 I3 M3 h3 z2)
set_option maxRecDepth 100000 in
theorem law_odds {Q : Int32 → vS → vI → vL → Prop} {cr sr z x r lb len k : Nat} {S : vS} {I : vI} {L : vL} (hR : REL S I x r lb) (hz : S.1 z = (400, len)) (hzx : z < x) (hk : 6 * k + 6 ≤ len) (hl : len ≤ 3072) (ih : ∀ S2 I2 L2, REL S2 I2 x r lb → S2.1 z = (400, len) → Vw mL_law (100 + 1) 600000 7302250 cr sr (ViQ Q) 18 [(0, .ref z), (1, .ref x), (2, .ref r), (3, .int (nI (6 * k + 6)))] [] S2 I2 L2) : Vw mL_law (100 + 1) 600000 7302250 (cr + 8) (sr + 480) (ViQ Q) 949 [(0, .ref z), (1, .ref x), (2, .ref r), (3, .int (nI (6 * k)))] [] S I L := by
  have B := bs_L_law
  have hX := hR.kx
  have hM := hR.kr
  refine Vw.less (cr2 := cr) (sr2 := sr) (by omega) (by omega) ?_
  refine Vw.aload_n (de_aload_1 (B 949 _ rfl)) 1 rfl (n := 950) rfl ?_
  refine Vw.aload_n (de_aload_0 (B 950 _ rfl)) 0 rfl (n := 951) rfl ?_
  refine Vw.iload_n (de_iload_3 (B 951 _ rfl)) 3 rfl (n := 952) rfl ?_
  refine Vw.iconst (v := 1) (de_iconst_1 (B 952 _ rfl)) rfl (n := 953) rfl ?_
  refine Vw.iadd (de_iadd (B 953 _ rfl)) (n := 954) rfl ?_
  rw [nI_p1]
  refine Vw.ialdS (j := 6 * k + 1) (de_iaload (B 954 _ rfl)) hz (vIx_n rfl (by omega) (by omega)) (n := 955) rfl ?_
  refine Vw.aload_n (de_aload_0 (B 955 _ rfl)) 0 rfl (n := 956) rfl ?_
  refine Vw.iload_n (de_iload_3 (B 956 _ rfl)) 3 rfl (n := 957) rfl ?_
  refine Vw.iconst (v := 2) (de_iconst_2 (B 957 _ rfl)) rfl (n := 958) rfl ?_
  refine Vw.iadd (de_iadd (B 958 _ rfl)) (n := 959) rfl ?_
  rw [nI_p2]
  refine Vw.ialdS (j := 6 * k + 2) (de_iaload (B 959 _ rfl)) hz (vIx_n rfl (by omega) (by omega)) (n := 960) rfl ?_
  refine Vw.aload_n (de_aload_0 (B 960 _ rfl)) 0 rfl (n := 961) rfl ?_
  refine Vw.iload_n (de_iload_3 (B 961 _ rfl)) 3 rfl (n := 962) rfl ?_
  refine Vw.iconst (v := 3) (de_iconst_3 (B 962 _ rfl)) rfl (n := 963) rfl ?_
  refine Vw.iadd (de_iadd (B 963 _ rfl)) (n := 964) rfl ?_
  rw [nI_p3]
  refine Vw.ialdS (j := 6 * k + 3) (de_iaload (B 964 _ rfl)) hz (vIx_n rfl (by omega) (by omega)) (n := 965) rfl ?_
  refine Vw.prL (d := 20) (mx := mX11_odds) (mr := mX12_odds) (As := [.int (I z (6 * k + 1)), .int (I z (6 * k + 2)), .int (I z (6 * k + 3))]) (cr := cr) (sr := sr) (de_invokevirtual (B 965 _ rfl) (B 966 _ rfl) (B 967 _ rfl)) ml_L_118 mv_X11_odds hX rfl rfl (Nat.le_of_ble_eq_true rfl) (n := 968) rfl hz hzx hM.1 hM.2 (pr_odds hR) (fun v S2 I2 M z2 r2 eI ct => ?_)
  refine Vw.aload_n (de_aload_2 (B 968 _ rfl)) 2 rfl (n := 969) rfl ?_
  refine Vw.aload_n (de_aload_0 (B 969 _ rfl)) 0 rfl (n := 970) rfl ?_
  refine Vw.iload_n (de_iload_3 (B 970 _ rfl)) 3 rfl (n := 971) rfl ?_
  refine Vw.iconst (v := 1) (de_iconst_1 (B 971 _ rfl)) rfl (n := 972) rfl ?_
  refine Vw.iadd (de_iadd (B 972 _ rfl)) (n := 973) rfl ?_
  rw [nI_p1]
  refine Vw.ialdS (j := 6 * k + 1) (de_iaload (B 973 _ rfl)) z2 (vIx_n rfl (by omega) (by omega)) (n := 974) rfl ?_
  rw [eI]
  refine Vw.aload_n (de_aload_0 (B 974 _ rfl)) 0 rfl (n := 975) rfl ?_
  refine Vw.iload_n (de_iload_3 (B 975 _ rfl)) 3 rfl (n := 976) rfl ?_
  refine Vw.iconst (v := 2) (de_iconst_2 (B 976 _ rfl)) rfl (n := 977) rfl ?_
  refine Vw.iadd (de_iadd (B 977 _ rfl)) (n := 978) rfl ?_
  rw [nI_p2]
  refine Vw.ialdS (j := 6 * k + 2) (de_iaload (B 978 _ rfl)) z2 (vIx_n rfl (by omega) (by omega)) (n := 979) rfl ?_
  rw [eI]
  refine Vw.aload_n (de_aload_0 (B 979 _ rfl)) 0 rfl (n := 980) rfl ?_
  refine Vw.iload_n (de_iload_3 (B 980 _ rfl)) 3 rfl (n := 981) rfl ?_
  refine Vw.iconst (v := 3) (de_iconst_3 (B 981 _ rfl)) rfl (n := 982) rfl ?_
  refine Vw.iadd (de_iadd (B 982 _ rfl)) (n := 983) rfl ?_
  rw [nI_p3]
  refine Vw.ialdS (j := 6 * k + 3) (de_iaload (B 983 _ rfl)) z2 (vIx_n rfl (by omega) (by omega)) (n := 984) rfl ?_
  rw [eI]
  refine Vw.prN (d := 40) (mr := mX12_odds) (As := [.int (I z (6 * k + 1)), .int (I z (6 * k + 2)), .int (I z (6 * k + 3))]) (cr := cr) (sr := sr) (de_invokevirtual (B 984 _ rfl) (B 985 _ rfl) (B 986 _ rfl)) ml_L_122 mv_X12_odds r2 rfl rfl (Nat.le_of_ble_eq_true rfl) (n := 987) rfl ct (fun I3 M3 h3 => ?_)
  refine Vw.lcmp (de_lcmp (B 987 _ rfl)) (n := 988) rfl ?_
  refine Vw.if_eq (tgt := 1392) (n := 991) (de_if_eq (B 988 _ rfl) (B 989 _ rfl) (B 990 _ rfl)) rfl rfl (fun q => ?_) (fun q => absurd ((lg_cmp_eq _ _).mpr rfl) q)
  exact law_t (ih S2 I3 M3 h3 z2)
set_option maxRecDepth 100000 in
theorem law_cutting {Q : Int32 → vS → vI → vL → Prop} {cr sr z x r lb len k : Nat} {S : vS} {I : vI} {L : vL} (hR : REL S I x r lb) (hz : S.1 z = (400, len)) (hzx : z < x) (hk : 6 * k + 6 ≤ len) (hl : len ≤ 3072) (ih : ∀ S2 I2 L2, REL S2 I2 x r lb → S2.1 z = (400, len) → Vw mL_law (100 + 1) 600000 7302250 cr sr (ViQ Q) 18 [(0, .ref z), (1, .ref x), (2, .ref r), (3, .int (nI (6 * k + 6)))] [] S2 I2 L2) : Vw mL_law (100 + 1) 600000 7302250 (cr + 8) (sr + 480) (ViQ Q) 993 [(0, .ref z), (1, .ref x), (2, .ref r), (3, .int (nI (6 * k)))] [] S I L := by
  have B := bs_L_law
  have hX := hR.kx
  have hM := hR.kr
  refine Vw.less (cr2 := cr) (sr2 := sr) (by omega) (by omega) ?_
  refine Vw.aload_n (de_aload_1 (B 993 _ rfl)) 1 rfl (n := 994) rfl ?_
  refine Vw.aload_n (de_aload_0 (B 994 _ rfl)) 0 rfl (n := 995) rfl ?_
  refine Vw.iload_n (de_iload_3 (B 995 _ rfl)) 3 rfl (n := 996) rfl ?_
  refine Vw.iconst (v := 1) (de_iconst_1 (B 996 _ rfl)) rfl (n := 997) rfl ?_
  refine Vw.iadd (de_iadd (B 997 _ rfl)) (n := 998) rfl ?_
  rw [nI_p1]
  refine Vw.ialdS (j := 6 * k + 1) (de_iaload (B 998 _ rfl)) hz (vIx_n rfl (by omega) (by omega)) (n := 999) rfl ?_
  refine Vw.aload_n (de_aload_0 (B 999 _ rfl)) 0 rfl (n := 1000) rfl ?_
  refine Vw.iload_n (de_iload_3 (B 1000 _ rfl)) 3 rfl (n := 1001) rfl ?_
  refine Vw.iconst (v := 2) (de_iconst_2 (B 1001 _ rfl)) rfl (n := 1002) rfl ?_
  refine Vw.iadd (de_iadd (B 1002 _ rfl)) (n := 1003) rfl ?_
  rw [nI_p2]
  refine Vw.ialdS (j := 6 * k + 2) (de_iaload (B 1003 _ rfl)) hz (vIx_n rfl (by omega) (by omega)) (n := 1004) rfl ?_
  refine Vw.aload_n (de_aload_0 (B 1004 _ rfl)) 0 rfl (n := 1005) rfl ?_
  refine Vw.iload_n (de_iload_3 (B 1005 _ rfl)) 3 rfl (n := 1006) rfl ?_
  refine Vw.iconst (v := 3) (de_iconst_3 (B 1006 _ rfl)) rfl (n := 1007) rfl ?_
  refine Vw.iadd (de_iadd (B 1007 _ rfl)) (n := 1008) rfl ?_
  rw [nI_p3]
  refine Vw.ialdS (j := 6 * k + 3) (de_iaload (B 1008 _ rfl)) hz (vIx_n rfl (by omega) (by omega)) (n := 1009) rfl ?_
  refine Vw.prI (d := 20) (mx := mX11_cutting) (mr := mX12_cutting) (As := [.int (I z (6 * k + 1)), .int (I z (6 * k + 2)), .int (I z (6 * k + 3))]) (cr := cr) (sr := sr) (mc' := 0) (ms' := 0) (de_invokevirtual (B 1009 _ rfl) (B 1010 _ rfl) (B 1011 _ rfl)) ml_L_123 mv_X11_cutting hX rfl rfl (Nat.le_of_ble_eq_true rfl) (n := 1012) rfl hz hzx hM.1 hM.2 (pr_cutting hR) (fun v S2 I2 M z2 r2 eI ct => ?_)
  refine Vw.aload_n (de_aload_2 (B 1012 _ rfl)) 2 rfl (n := 1013) rfl ?_
  refine Vw.aload_n (de_aload_0 (B 1013 _ rfl)) 0 rfl (n := 1014) rfl ?_
  refine Vw.iload_n (de_iload_3 (B 1014 _ rfl)) 3 rfl (n := 1015) rfl ?_
  refine Vw.iconst (v := 1) (de_iconst_1 (B 1015 _ rfl)) rfl (n := 1016) rfl ?_
  refine Vw.iadd (de_iadd (B 1016 _ rfl)) (n := 1017) rfl ?_
  rw [nI_p1]
  refine Vw.ialdS (j := 6 * k + 1) (de_iaload (B 1017 _ rfl)) z2 (vIx_n rfl (by omega) (by omega)) (n := 1018) rfl ?_
  rw [eI]
  refine Vw.aload_n (de_aload_0 (B 1018 _ rfl)) 0 rfl (n := 1019) rfl ?_
  refine Vw.iload_n (de_iload_3 (B 1019 _ rfl)) 3 rfl (n := 1020) rfl ?_
  refine Vw.iconst (v := 2) (de_iconst_2 (B 1020 _ rfl)) rfl (n := 1021) rfl ?_
  refine Vw.iadd (de_iadd (B 1021 _ rfl)) (n := 1022) rfl ?_
  rw [nI_p2]
  refine Vw.ialdS (j := 6 * k + 2) (de_iaload (B 1022 _ rfl)) z2 (vIx_n rfl (by omega) (by omega)) (n := 1023) rfl ?_
  rw [eI]
  refine Vw.aload_n (de_aload_0 (B 1023 _ rfl)) 0 rfl (n := 1024) rfl ?_
  refine Vw.iload_n (de_iload_3 (B 1024 _ rfl)) 3 rfl (n := 1025) rfl ?_
  refine Vw.iconst (v := 3) (de_iconst_3 (B 1025 _ rfl)) rfl (n := 1026) rfl ?_
  refine Vw.iadd (de_iadd (B 1026 _ rfl)) (n := 1027) rfl ?_
  rw [nI_p3]
  refine Vw.ialdS (j := 6 * k + 3) (de_iaload (B 1027 _ rfl)) z2 (vIx_n rfl (by omega) (by omega)) (n := 1028) rfl ?_
  rw [eI]
  refine Vw.prM (d := 40) (mr := mX12_cutting) (As := [.int (I z (6 * k + 1)), .int (I z (6 * k + 2)), .int (I z (6 * k + 3))]) (cr := cr) (sr := sr) (de_invokevirtual (B 1028 _ rfl) (B 1029 _ rfl) (B 1030 _ rfl)) ml_L_126 mv_X12_cutting r2 rfl rfl (Nat.le_of_ble_eq_true rfl) (n := 1031) rfl ct (fun I3 M3 h3 => ?_)
  refine Vw.icmp_eq (tgt := 1392) (n := 1034) (de_icmp_eq (B 1031 _ rfl) (B 1032 _ rfl) (B 1033 _ rfl)) rfl rfl (fun q => ?_) (fun q => absurd rfl q)
  exact law_t (ih S2 I3 M3 h3 z2)
set_option maxRecDepth 100000 in
theorem law_dress {Q : Int32 → vS → vI → vL → Prop} {cr sr z x r lb len k : Nat} {S : vS} {I : vI} {L : vL} (hR : REL S I x r lb) (hz : S.1 z = (400, len)) (hzx : z < x) (hk : 6 * k + 6 ≤ len) (hl : len ≤ 3072) (ih : ∀ S2 I2 L2, REL S2 I2 x r lb → S2.1 z = (400, len) → Vw mL_law (100 + 1) 600000 7302250 cr sr (ViQ Q) 18 [(0, .ref z), (1, .ref x), (2, .ref r), (3, .int (nI (6 * k + 6)))] [] S2 I2 L2) : Vw mL_law (100 + 1) 600000 7302250 (cr + 8) (sr + 480) (ViQ Q) 1036 [(0, .ref z), (1, .ref x), (2, .ref r), (3, .int (nI (6 * k)))] [] S I L := by
  have B := bs_L_law
  have hX := hR.kx
  have hM := hR.kr
  refine Vw.less (cr2 := cr) (sr2 := sr) (by omega) (by omega) ?_
  refine Vw.aload_n (de_aload_1 (B 1036 _ rfl)) 1 rfl (n := 1037) rfl ?_
  refine Vw.aload_n (de_aload_0 (B 1037 _ rfl)) 0 rfl (n := 1038) rfl ?_
  refine Vw.iload_n (de_iload_3 (B 1038 _ rfl)) 3 rfl (n := 1039) rfl ?_
  refine Vw.iconst (v := 1) (de_iconst_1 (B 1039 _ rfl)) rfl (n := 1040) rfl ?_
  refine Vw.iadd (de_iadd (B 1040 _ rfl)) (n := 1041) rfl ?_
  rw [nI_p1]
  refine Vw.ialdS (j := 6 * k + 1) (de_iaload (B 1041 _ rfl)) hz (vIx_n rfl (by omega) (by omega)) (n := 1042) rfl ?_
  refine Vw.aload_n (de_aload_0 (B 1042 _ rfl)) 0 rfl (n := 1043) rfl ?_
  refine Vw.iload_n (de_iload_3 (B 1043 _ rfl)) 3 rfl (n := 1044) rfl ?_
  refine Vw.iconst (v := 2) (de_iconst_2 (B 1044 _ rfl)) rfl (n := 1045) rfl ?_
  refine Vw.iadd (de_iadd (B 1045 _ rfl)) (n := 1046) rfl ?_
  rw [nI_p2]
  refine Vw.ialdS (j := 6 * k + 2) (de_iaload (B 1046 _ rfl)) hz (vIx_n rfl (by omega) (by omega)) (n := 1047) rfl ?_
  refine Vw.aload_n (de_aload_0 (B 1047 _ rfl)) 0 rfl (n := 1048) rfl ?_
  refine Vw.iload_n (de_iload_3 (B 1048 _ rfl)) 3 rfl (n := 1049) rfl ?_
  refine Vw.iconst (v := 3) (de_iconst_3 (B 1049 _ rfl)) rfl (n := 1050) rfl ?_
  refine Vw.iadd (de_iadd (B 1050 _ rfl)) (n := 1051) rfl ?_
  rw [nI_p3]
  refine Vw.ialdS (j := 6 * k + 3) (de_iaload (B 1051 _ rfl)) hz (vIx_n rfl (by omega) (by omega)) (n := 1052) rfl ?_
  refine Vw.prI (d := 20) (mx := mX11_dress) (mr := mX12_dress) (As := [.int (I z (6 * k + 1)), .int (I z (6 * k + 2)), .int (I z (6 * k + 3))]) (cr := cr) (sr := sr) (mc' := 0) (ms' := 0) (de_invokevirtual (B 1052 _ rfl) (B 1053 _ rfl) (B 1054 _ rfl)) ml_L_127 mv_X11_dress hX rfl rfl (Nat.le_of_ble_eq_true rfl) (n := 1055) rfl hz hzx hM.1 hM.2 (pr_dress hR) (fun v S2 I2 M z2 r2 eI ct => ?_)
  refine Vw.aload_n (de_aload_2 (B 1055 _ rfl)) 2 rfl (n := 1056) rfl ?_
  refine Vw.aload_n (de_aload_0 (B 1056 _ rfl)) 0 rfl (n := 1057) rfl ?_
  refine Vw.iload_n (de_iload_3 (B 1057 _ rfl)) 3 rfl (n := 1058) rfl ?_
  refine Vw.iconst (v := 1) (de_iconst_1 (B 1058 _ rfl)) rfl (n := 1059) rfl ?_
  refine Vw.iadd (de_iadd (B 1059 _ rfl)) (n := 1060) rfl ?_
  rw [nI_p1]
  refine Vw.ialdS (j := 6 * k + 1) (de_iaload (B 1060 _ rfl)) z2 (vIx_n rfl (by omega) (by omega)) (n := 1061) rfl ?_
  rw [eI]
  refine Vw.aload_n (de_aload_0 (B 1061 _ rfl)) 0 rfl (n := 1062) rfl ?_
  refine Vw.iload_n (de_iload_3 (B 1062 _ rfl)) 3 rfl (n := 1063) rfl ?_
  refine Vw.iconst (v := 2) (de_iconst_2 (B 1063 _ rfl)) rfl (n := 1064) rfl ?_
  refine Vw.iadd (de_iadd (B 1064 _ rfl)) (n := 1065) rfl ?_
  rw [nI_p2]
  refine Vw.ialdS (j := 6 * k + 2) (de_iaload (B 1065 _ rfl)) z2 (vIx_n rfl (by omega) (by omega)) (n := 1066) rfl ?_
  rw [eI]
  refine Vw.aload_n (de_aload_0 (B 1066 _ rfl)) 0 rfl (n := 1067) rfl ?_
  refine Vw.iload_n (de_iload_3 (B 1067 _ rfl)) 3 rfl (n := 1068) rfl ?_
  refine Vw.iconst (v := 3) (de_iconst_3 (B 1068 _ rfl)) rfl (n := 1069) rfl ?_
  refine Vw.iadd (de_iadd (B 1069 _ rfl)) (n := 1070) rfl ?_
  rw [nI_p3]
  refine Vw.ialdS (j := 6 * k + 3) (de_iaload (B 1070 _ rfl)) z2 (vIx_n rfl (by omega) (by omega)) (n := 1071) rfl ?_
  rw [eI]
  refine Vw.prM (d := 40) (mr := mX12_dress) (As := [.int (I z (6 * k + 1)), .int (I z (6 * k + 2)), .int (I z (6 * k + 3))]) (cr := cr) (sr := sr) (de_invokevirtual (B 1071 _ rfl) (B 1072 _ rfl) (B 1073 _ rfl)) ml_L_130 mv_X12_dress r2 rfl rfl (Nat.le_of_ble_eq_true rfl) (n := 1074) rfl ct (fun I3 M3 h3 => ?_)
  refine Vw.icmp_eq (tgt := 1392) (n := 1077) (de_icmp_eq (B 1074 _ rfl) (B 1075 _ rfl) (B 1076 _ rfl)) rfl rfl (fun q => ?_) (fun q => absurd rfl q)
  exact law_t (ih S2 I3 M3 h3 z2)
set_option maxRecDepth 100000 in
theorem law_game {Q : Int32 → vS → vI → vL → Prop} {cr sr z x r lb len k : Nat} {S : vS} {I : vI} {L : vL} (hR : REL S I x r lb) (hz : S.1 z = (400, len)) (hzx : z < x) (hk : 6 * k + 6 ≤ len) (hl : len ≤ 3072) (ih : ∀ S2 I2 L2, REL S2 I2 x r lb → S2.1 z = (400, len) → Vw mL_law (100 + 1) 600000 7302250 cr sr (ViQ Q) 18 [(0, .ref z), (1, .ref x), (2, .ref r), (3, .int (nI (6 * k + 6)))] [] S2 I2 L2) : Vw mL_law (100 + 1) 600000 7302250 (cr + 8) (sr + 480) (ViQ Q) 1079 [(0, .ref z), (1, .ref x), (2, .ref r), (3, .int (nI (6 * k)))] [] S I L := by
  have B := bs_L_law
  have hX := hR.kx
  have hM := hR.kr
  refine Vw.less (cr2 := cr) (sr2 := sr) (by omega) (by omega) ?_
  refine Vw.aload_n (de_aload_1 (B 1079 _ rfl)) 1 rfl (n := 1080) rfl ?_
  refine Vw.aload_n (de_aload_0 (B 1080 _ rfl)) 0 rfl (n := 1081) rfl ?_
  refine Vw.iload_n (de_iload_3 (B 1081 _ rfl)) 3 rfl (n := 1082) rfl ?_
  refine Vw.iconst (v := 1) (de_iconst_1 (B 1082 _ rfl)) rfl (n := 1083) rfl ?_
  refine Vw.iadd (de_iadd (B 1083 _ rfl)) (n := 1084) rfl ?_
  rw [nI_p1]
  refine Vw.ialdS (j := 6 * k + 1) (de_iaload (B 1084 _ rfl)) hz (vIx_n rfl (by omega) (by omega)) (n := 1085) rfl ?_
  refine Vw.aload_n (de_aload_0 (B 1085 _ rfl)) 0 rfl (n := 1086) rfl ?_
  refine Vw.iload_n (de_iload_3 (B 1086 _ rfl)) 3 rfl (n := 1087) rfl ?_
  refine Vw.iconst (v := 2) (de_iconst_2 (B 1087 _ rfl)) rfl (n := 1088) rfl ?_
  refine Vw.iadd (de_iadd (B 1088 _ rfl)) (n := 1089) rfl ?_
  rw [nI_p2]
  refine Vw.ialdS (j := 6 * k + 2) (de_iaload (B 1089 _ rfl)) hz (vIx_n rfl (by omega) (by omega)) (n := 1090) rfl ?_
  refine Vw.aload_n (de_aload_0 (B 1090 _ rfl)) 0 rfl (n := 1091) rfl ?_
  refine Vw.iload_n (de_iload_3 (B 1091 _ rfl)) 3 rfl (n := 1092) rfl ?_
  refine Vw.iconst (v := 3) (de_iconst_3 (B 1092 _ rfl)) rfl (n := 1093) rfl ?_
  refine Vw.iadd (de_iadd (B 1093 _ rfl)) (n := 1094) rfl ?_
  rw [nI_p3]
  refine Vw.ialdS (j := 6 * k + 3) (de_iaload (B 1094 _ rfl)) hz (vIx_n rfl (by omega) (by omega)) (n := 1095) rfl ?_
  refine Vw.prI (d := 20) (mx := mX11_game) (mr := mX12_game) (As := [.int (I z (6 * k + 1)), .int (I z (6 * k + 2)), .int (I z (6 * k + 3))]) (cr := cr) (sr := sr) (mc' := 0) (ms' := 0) (de_invokevirtual (B 1095 _ rfl) (B 1096 _ rfl) (B 1097 _ rfl)) ml_L_131 mv_X11_game hX rfl rfl (Nat.le_of_ble_eq_true rfl) (n := 1098) rfl hz hzx hM.1 hM.2 (pr_game hR) (fun v S2 I2 M z2 r2 eI ct => ?_)
  refine Vw.aload_n (de_aload_2 (B 1098 _ rfl)) 2 rfl (n := 1099) rfl ?_
  refine Vw.aload_n (de_aload_0 (B 1099 _ rfl)) 0 rfl (n := 1100) rfl ?_
  refine Vw.iload_n (de_iload_3 (B 1100 _ rfl)) 3 rfl (n := 1101) rfl ?_
  refine Vw.iconst (v := 1) (de_iconst_1 (B 1101 _ rfl)) rfl (n := 1102) rfl ?_
  refine Vw.iadd (de_iadd (B 1102 _ rfl)) (n := 1103) rfl ?_
  rw [nI_p1]
  refine Vw.ialdS (j := 6 * k + 1) (de_iaload (B 1103 _ rfl)) z2 (vIx_n rfl (by omega) (by omega)) (n := 1104) rfl ?_
  rw [eI]
  refine Vw.aload_n (de_aload_0 (B 1104 _ rfl)) 0 rfl (n := 1105) rfl ?_
  refine Vw.iload_n (de_iload_3 (B 1105 _ rfl)) 3 rfl (n := 1106) rfl ?_
  refine Vw.iconst (v := 2) (de_iconst_2 (B 1106 _ rfl)) rfl (n := 1107) rfl ?_
  refine Vw.iadd (de_iadd (B 1107 _ rfl)) (n := 1108) rfl ?_
  rw [nI_p2]
  refine Vw.ialdS (j := 6 * k + 2) (de_iaload (B 1108 _ rfl)) z2 (vIx_n rfl (by omega) (by omega)) (n := 1109) rfl ?_
  rw [eI]
  refine Vw.aload_n (de_aload_0 (B 1109 _ rfl)) 0 rfl (n := 1110) rfl ?_
  refine Vw.iload_n (de_iload_3 (B 1110 _ rfl)) 3 rfl (n := 1111) rfl ?_
  refine Vw.iconst (v := 3) (de_iconst_3 (B 1111 _ rfl)) rfl (n := 1112) rfl ?_
  refine Vw.iadd (de_iadd (B 1112 _ rfl)) (n := 1113) rfl ?_
  rw [nI_p3]
  refine Vw.ialdS (j := 6 * k + 3) (de_iaload (B 1113 _ rfl)) z2 (vIx_n rfl (by omega) (by omega)) (n := 1114) rfl ?_
  rw [eI]
  refine Vw.prM (d := 40) (mr := mX12_game) (As := [.int (I z (6 * k + 1)), .int (I z (6 * k + 2)), .int (I z (6 * k + 3))]) (cr := cr) (sr := sr) (de_invokevirtual (B 1114 _ rfl) (B 1115 _ rfl) (B 1116 _ rfl)) ml_L_134 mv_X12_game r2 rfl rfl (Nat.le_of_ble_eq_true rfl) (n := 1117) rfl ct (fun I3 M3 h3 => ?_)
  refine Vw.icmp_eq (tgt := 1392) (n := 1120) (de_icmp_eq (B 1117 _ rfl) (B 1118 _ rfl) (B 1119 _ rfl)) rfl rfl (fun q => ?_) (fun q => absurd rfl q)
  exact law_t (ih S2 I3 M3 h3 z2)
set_option maxRecDepth 100000 in
theorem law_fed {Q : Int32 → vS → vI → vL → Prop} {cr sr z x r lb len k : Nat} {S : vS} {I : vI} {L : vL} (hR : REL S I x r lb) (hz : S.1 z = (400, len)) (hzx : z < x) (hk : 6 * k + 6 ≤ len) (hl : len ≤ 3072) (ih : ∀ S2 I2 L2, REL S2 I2 x r lb → S2.1 z = (400, len) → Vw mL_law (100 + 1) 600000 7302250 cr sr (ViQ Q) 18 [(0, .ref z), (1, .ref x), (2, .ref r), (3, .int (nI (6 * k + 6)))] [] S2 I2 L2) : Vw mL_law (100 + 1) 600000 7302250 (cr + 8) (sr + 480) (ViQ Q) 1122 [(0, .ref z), (1, .ref x), (2, .ref r), (3, .int (nI (6 * k)))] [] S I L := by
  have B := bs_L_law
  have hX := hR.kx
  have hM := hR.kr
  refine Vw.less (cr2 := cr) (sr2 := sr) (by omega) (by omega) ?_
  refine Vw.aload_n (de_aload_1 (B 1122 _ rfl)) 1 rfl (n := 1123) rfl ?_
  refine Vw.aload_n (de_aload_0 (B 1123 _ rfl)) 0 rfl (n := 1124) rfl ?_
  refine Vw.iload_n (de_iload_3 (B 1124 _ rfl)) 3 rfl (n := 1125) rfl ?_
  refine Vw.iconst (v := 1) (de_iconst_1 (B 1125 _ rfl)) rfl (n := 1126) rfl ?_
  refine Vw.iadd (de_iadd (B 1126 _ rfl)) (n := 1127) rfl ?_
  rw [nI_p1]
  refine Vw.ialdS (j := 6 * k + 1) (de_iaload (B 1127 _ rfl)) hz (vIx_n rfl (by omega) (by omega)) (n := 1128) rfl ?_
  refine Vw.aload_n (de_aload_0 (B 1128 _ rfl)) 0 rfl (n := 1129) rfl ?_
  refine Vw.iload_n (de_iload_3 (B 1129 _ rfl)) 3 rfl (n := 1130) rfl ?_
  refine Vw.iconst (v := 2) (de_iconst_2 (B 1130 _ rfl)) rfl (n := 1131) rfl ?_
  refine Vw.iadd (de_iadd (B 1131 _ rfl)) (n := 1132) rfl ?_
  rw [nI_p2]
  refine Vw.ialdS (j := 6 * k + 2) (de_iaload (B 1132 _ rfl)) hz (vIx_n rfl (by omega) (by omega)) (n := 1133) rfl ?_
  refine Vw.aload_n (de_aload_0 (B 1133 _ rfl)) 0 rfl (n := 1134) rfl ?_
  refine Vw.iload_n (de_iload_3 (B 1134 _ rfl)) 3 rfl (n := 1135) rfl ?_
  refine Vw.iconst (v := 3) (de_iconst_3 (B 1135 _ rfl)) rfl (n := 1136) rfl ?_
  refine Vw.iadd (de_iadd (B 1136 _ rfl)) (n := 1137) rfl ?_
  rw [nI_p3]
  refine Vw.ialdS (j := 6 * k + 3) (de_iaload (B 1137 _ rfl)) hz (vIx_n rfl (by omega) (by omega)) (n := 1138) rfl ?_
  refine Vw.prI (d := 20) (mx := mX11_fed) (mr := mX12_fed) (As := [.int (I z (6 * k + 1)), .int (I z (6 * k + 2)), .int (I z (6 * k + 3))]) (cr := cr) (sr := sr) (mc' := 0) (ms' := 0) (de_invokevirtual (B 1138 _ rfl) (B 1139 _ rfl) (B 1140 _ rfl)) ml_L_135 mv_X11_fed hX rfl rfl (Nat.le_of_ble_eq_true rfl) (n := 1141) rfl hz hzx hM.1 hM.2 (pr_fed hR) (fun v S2 I2 M z2 r2 eI ct => ?_)
  refine Vw.aload_n (de_aload_2 (B 1141 _ rfl)) 2 rfl (n := 1142) rfl ?_
  refine Vw.aload_n (de_aload_0 (B 1142 _ rfl)) 0 rfl (n := 1143) rfl ?_
  refine Vw.iload_n (de_iload_3 (B 1143 _ rfl)) 3 rfl (n := 1144) rfl ?_
  refine Vw.iconst (v := 1) (de_iconst_1 (B 1144 _ rfl)) rfl (n := 1145) rfl ?_
  refine Vw.iadd (de_iadd (B 1145 _ rfl)) (n := 1146) rfl ?_
  rw [nI_p1]
  refine Vw.ialdS (j := 6 * k + 1) (de_iaload (B 1146 _ rfl)) z2 (vIx_n rfl (by omega) (by omega)) (n := 1147) rfl ?_
  rw [eI]
  refine Vw.aload_n (de_aload_0 (B 1147 _ rfl)) 0 rfl (n := 1148) rfl ?_
  refine Vw.iload_n (de_iload_3 (B 1148 _ rfl)) 3 rfl (n := 1149) rfl ?_
  refine Vw.iconst (v := 2) (de_iconst_2 (B 1149 _ rfl)) rfl (n := 1150) rfl ?_
  refine Vw.iadd (de_iadd (B 1150 _ rfl)) (n := 1151) rfl ?_
  rw [nI_p2]
  refine Vw.ialdS (j := 6 * k + 2) (de_iaload (B 1151 _ rfl)) z2 (vIx_n rfl (by omega) (by omega)) (n := 1152) rfl ?_
  rw [eI]
  refine Vw.aload_n (de_aload_0 (B 1152 _ rfl)) 0 rfl (n := 1153) rfl ?_
  refine Vw.iload_n (de_iload_3 (B 1153 _ rfl)) 3 rfl (n := 1154) rfl ?_
  refine Vw.iconst (v := 3) (de_iconst_3 (B 1154 _ rfl)) rfl (n := 1155) rfl ?_
  refine Vw.iadd (de_iadd (B 1155 _ rfl)) (n := 1156) rfl ?_
  rw [nI_p3]
  refine Vw.ialdS (j := 6 * k + 3) (de_iaload (B 1156 _ rfl)) z2 (vIx_n rfl (by omega) (by omega)) (n := 1157) rfl ?_
  rw [eI]
  refine Vw.prM (d := 40) (mr := mX12_fed) (As := [.int (I z (6 * k + 1)), .int (I z (6 * k + 2)), .int (I z (6 * k + 3))]) (cr := cr) (sr := sr) (de_invokevirtual (B 1157 _ rfl) (B 1158 _ rfl) (B 1159 _ rfl)) ml_L_138 mv_X12_fed r2 rfl rfl (Nat.le_of_ble_eq_true rfl) (n := 1160) rfl ct (fun I3 M3 h3 => ?_)
  refine Vw.icmp_eq (tgt := 1392) (n := 1163) (de_icmp_eq (B 1160 _ rfl) (B 1161 _ rfl) (B 1162 _ rfl)) rfl rfl (fun q => ?_) (fun q => absurd rfl q)
  exact law_t (ih S2 I3 M3 h3 z2)
set_option maxRecDepth 100000 in
theorem law_sight {Q : Int32 → vS → vI → vL → Prop} {cr sr z x r lb len k : Nat} {S : vS} {I : vI} {L : vL} (hR : REL S I x r lb) (hz : S.1 z = (400, len)) (hzx : z < x) (hk : 6 * k + 6 ≤ len) (hl : len ≤ 3072) (ih : ∀ S2 I2 L2, REL S2 I2 x r lb → S2.1 z = (400, len) → Vw mL_law (100 + 1) 600000 7302250 cr sr (ViQ Q) 18 [(0, .ref z), (1, .ref x), (2, .ref r), (3, .int (nI (6 * k + 6)))] [] S2 I2 L2) : Vw mL_law (100 + 1) 600000 7302250 (cr + 8) (sr + 480) (ViQ Q) 1165 [(0, .ref z), (1, .ref x), (2, .ref r), (3, .int (nI (6 * k)))] [] S I L := by
  have B := bs_L_law
  have hX := hR.kx
  have hM := hR.kr
  refine Vw.less (cr2 := cr) (sr2 := sr) (by omega) (by omega) ?_
  refine Vw.aload_n (de_aload_1 (B 1165 _ rfl)) 1 rfl (n := 1166) rfl ?_
  refine Vw.aload_n (de_aload_0 (B 1166 _ rfl)) 0 rfl (n := 1167) rfl ?_
  refine Vw.iload_n (de_iload_3 (B 1167 _ rfl)) 3 rfl (n := 1168) rfl ?_
  refine Vw.iconst (v := 1) (de_iconst_1 (B 1168 _ rfl)) rfl (n := 1169) rfl ?_
  refine Vw.iadd (de_iadd (B 1169 _ rfl)) (n := 1170) rfl ?_
  rw [nI_p1]
  refine Vw.ialdS (j := 6 * k + 1) (de_iaload (B 1170 _ rfl)) hz (vIx_n rfl (by omega) (by omega)) (n := 1171) rfl ?_
  refine Vw.aload_n (de_aload_0 (B 1171 _ rfl)) 0 rfl (n := 1172) rfl ?_
  refine Vw.iload_n (de_iload_3 (B 1172 _ rfl)) 3 rfl (n := 1173) rfl ?_
  refine Vw.iconst (v := 2) (de_iconst_2 (B 1173 _ rfl)) rfl (n := 1174) rfl ?_
  refine Vw.iadd (de_iadd (B 1174 _ rfl)) (n := 1175) rfl ?_
  rw [nI_p2]
  refine Vw.ialdS (j := 6 * k + 2) (de_iaload (B 1175 _ rfl)) hz (vIx_n rfl (by omega) (by omega)) (n := 1176) rfl ?_
  refine Vw.aload_n (de_aload_0 (B 1176 _ rfl)) 0 rfl (n := 1177) rfl ?_
  refine Vw.iload_n (de_iload_3 (B 1177 _ rfl)) 3 rfl (n := 1178) rfl ?_
  refine Vw.iconst (v := 3) (de_iconst_3 (B 1178 _ rfl)) rfl (n := 1179) rfl ?_
  refine Vw.iadd (de_iadd (B 1179 _ rfl)) (n := 1180) rfl ?_
  rw [nI_p3]
  refine Vw.ialdS (j := 6 * k + 3) (de_iaload (B 1180 _ rfl)) hz (vIx_n rfl (by omega) (by omega)) (n := 1181) rfl ?_
  refine Vw.prI (d := 20) (mx := mX11_sight) (mr := mX12_sight) (As := [.int (I z (6 * k + 1)), .int (I z (6 * k + 2)), .int (I z (6 * k + 3))]) (cr := cr) (sr := sr) (mc' := 0) (ms' := 0) (de_invokevirtual (B 1181 _ rfl) (B 1182 _ rfl) (B 1183 _ rfl)) ml_L_139 mv_X11_sight hX rfl rfl (Nat.le_of_ble_eq_true rfl) (n := 1184) rfl hz hzx hM.1 hM.2 (pr_sight hR) (fun v S2 I2 M z2 r2 eI ct => ?_)
  refine Vw.aload_n (de_aload_2 (B 1184 _ rfl)) 2 rfl (n := 1185) rfl ?_
  refine Vw.aload_n (de_aload_0 (B 1185 _ rfl)) 0 rfl (n := 1186) rfl ?_
  refine Vw.iload_n (de_iload_3 (B 1186 _ rfl)) 3 rfl (n := 1187) rfl ?_
  refine Vw.iconst (v := 1) (de_iconst_1 (B 1187 _ rfl)) rfl (n := 1188) rfl ?_
  refine Vw.iadd (de_iadd (B 1188 _ rfl)) (n := 1189) rfl ?_
  rw [nI_p1]
  refine Vw.ialdS (j := 6 * k + 1) (de_iaload (B 1189 _ rfl)) z2 (vIx_n rfl (by omega) (by omega)) (n := 1190) rfl ?_
  rw [eI]
  refine Vw.aload_n (de_aload_0 (B 1190 _ rfl)) 0 rfl (n := 1191) rfl ?_
  refine Vw.iload_n (de_iload_3 (B 1191 _ rfl)) 3 rfl (n := 1192) rfl ?_
  refine Vw.iconst (v := 2) (de_iconst_2 (B 1192 _ rfl)) rfl (n := 1193) rfl ?_
  refine Vw.iadd (de_iadd (B 1193 _ rfl)) (n := 1194) rfl ?_
  rw [nI_p2]
  refine Vw.ialdS (j := 6 * k + 2) (de_iaload (B 1194 _ rfl)) z2 (vIx_n rfl (by omega) (by omega)) (n := 1195) rfl ?_
  rw [eI]
  refine Vw.aload_n (de_aload_0 (B 1195 _ rfl)) 0 rfl (n := 1196) rfl ?_
  refine Vw.iload_n (de_iload_3 (B 1196 _ rfl)) 3 rfl (n := 1197) rfl ?_
  refine Vw.iconst (v := 3) (de_iconst_3 (B 1197 _ rfl)) rfl (n := 1198) rfl ?_
  refine Vw.iadd (de_iadd (B 1198 _ rfl)) (n := 1199) rfl ?_
  rw [nI_p3]
  refine Vw.ialdS (j := 6 * k + 3) (de_iaload (B 1199 _ rfl)) z2 (vIx_n rfl (by omega) (by omega)) (n := 1200) rfl ?_
  rw [eI]
  refine Vw.prM (d := 40) (mr := mX12_sight) (As := [.int (I z (6 * k + 1)), .int (I z (6 * k + 2)), .int (I z (6 * k + 3))]) (cr := cr) (sr := sr) (de_invokevirtual (B 1200 _ rfl) (B 1201 _ rfl) (B 1202 _ rfl)) ml_L_142 mv_X12_sight r2 rfl rfl (Nat.le_of_ble_eq_true rfl) (n := 1203) rfl ct (fun I3 M3 h3 => ?_)
  refine Vw.icmp_eq (tgt := 1392) (n := 1206) (de_icmp_eq (B 1203 _ rfl) (B 1204 _ rfl) (B 1205 _ rfl)) rfl rfl (fun q => ?_) (fun q => absurd rfl q)
  exact law_t (ih S2 I3 M3 h3 z2)
set_option maxRecDepth 100000 in
theorem law_forget {Q : Int32 → vS → vI → vL → Prop} {cr sr z x r lb len k : Nat} {S : vS} {I : vI} {L : vL} (hR : REL S I x r lb) (hz : S.1 z = (400, len)) (hzx : z < x) (hk : 6 * k + 6 ≤ len) (hl : len ≤ 3072) (ih : ∀ S2 I2 L2, REL S2 I2 x r lb → S2.1 z = (400, len) → Vw mL_law (100 + 1) 600000 7302250 cr sr (ViQ Q) 18 [(0, .ref z), (1, .ref x), (2, .ref r), (3, .int (nI (6 * k + 6)))] [] S2 I2 L2) : Vw mL_law (100 + 1) 600000 7302250 (cr + 8) (sr + 480) (ViQ Q) 1208 [(0, .ref z), (1, .ref x), (2, .ref r), (3, .int (nI (6 * k)))] [] S I L := by
  have B := bs_L_law
  have hX := hR.kx
  have hM := hR.kr
  refine Vw.less (cr2 := cr) (sr2 := sr) (by omega) (by omega) ?_
  refine Vw.aload_n (de_aload_1 (B 1208 _ rfl)) 1 rfl (n := 1209) rfl ?_
  refine Vw.prI (d := 20) (mx := mX11_forget) (mr := mX12_forget) (As := []) (cr := cr) (sr := sr) (mc' := 0) (ms' := 0) (de_invokevirtual (B 1209 _ rfl) (B 1210 _ rfl) (B 1211 _ rfl)) ml_L_143 mv_X11_forget hX rfl rfl (Nat.le_of_ble_eq_true rfl) (n := 1212) rfl hz hzx hM.1 hM.2 (pr_forget hR) (fun v S2 I2 M z2 r2 eI ct => ?_)
  refine Vw.aload_n (de_aload_2 (B 1212 _ rfl)) 2 rfl (n := 1213) rfl ?_
  refine Vw.prM (d := 40) (mr := mX12_forget) (As := []) (cr := cr) (sr := sr) (de_invokevirtual (B 1213 _ rfl) (B 1214 _ rfl) (B 1215 _ rfl)) ml_L_146 mv_X12_forget r2 rfl rfl (Nat.le_of_ble_eq_true rfl) (n := 1216) rfl ct (fun I3 M3 h3 => ?_)
  refine Vw.icmp_eq (tgt := 1392) (n := 1219) (de_icmp_eq (B 1216 _ rfl) (B 1217 _ rfl) (B 1218 _ rfl)) rfl rfl (fun q => ?_) (fun q => absurd rfl q)
  exact law_t (ih S2 I3 M3 h3 z2)
set_option maxRecDepth 100000 in
theorem law_hidden {Q : Int32 → vS → vI → vL → Prop} {cr sr z x r lb len k : Nat} {S : vS} {I : vI} {L : vL} (hR : REL S I x r lb) (hz : S.1 z = (400, len)) (hzx : z < x) (hk : 6 * k + 6 ≤ len) (hl : len ≤ 3072) (ih : ∀ S2 I2 L2, REL S2 I2 x r lb → S2.1 z = (400, len) → Vw mL_law (100 + 1) 600000 7302250 cr sr (ViQ Q) 18 [(0, .ref z), (1, .ref x), (2, .ref r), (3, .int (nI (6 * k + 6)))] [] S2 I2 L2) : Vw mL_law (100 + 1) 600000 7302250 (cr + 8) (sr + 480) (ViQ Q) 1221 [(0, .ref z), (1, .ref x), (2, .ref r), (3, .int (nI (6 * k)))] [] S I L := by
  have B := bs_L_law
  have hX := hR.kx
  have hM := hR.kr
  refine Vw.less (cr2 := cr) (sr2 := sr) (by omega) (by omega) ?_
  refine Vw.aload_n (de_aload_1 (B 1221 _ rfl)) 1 rfl (n := 1222) rfl ?_
  refine Vw.aload_n (de_aload_0 (B 1222 _ rfl)) 0 rfl (n := 1223) rfl ?_
  refine Vw.iload_n (de_iload_3 (B 1223 _ rfl)) 3 rfl (n := 1224) rfl ?_
  refine Vw.iconst (v := 1) (de_iconst_1 (B 1224 _ rfl)) rfl (n := 1225) rfl ?_
  refine Vw.iadd (de_iadd (B 1225 _ rfl)) (n := 1226) rfl ?_
  rw [nI_p1]
  refine Vw.ialdS (j := 6 * k + 1) (de_iaload (B 1226 _ rfl)) hz (vIx_n rfl (by omega) (by omega)) (n := 1227) rfl ?_
  refine Vw.prI (d := 20) (mx := mX11_hidden) (mr := mX12_hidden) (As := [.int (I z (6 * k + 1))]) (cr := cr) (sr := sr) (mc' := 0) (ms' := 0) (de_invokevirtual (B 1227 _ rfl) (B 1228 _ rfl) (B 1229 _ rfl)) ml_L_147 mv_X11_hidden hX rfl rfl (Nat.le_of_ble_eq_true rfl) (n := 1230) rfl hz hzx hM.1 hM.2 (pr_hidden hR) (fun v S2 I2 M z2 r2 eI ct => ?_)
  refine Vw.aload_n (de_aload_2 (B 1230 _ rfl)) 2 rfl (n := 1231) rfl ?_
  refine Vw.aload_n (de_aload_0 (B 1231 _ rfl)) 0 rfl (n := 1232) rfl ?_
  refine Vw.iload_n (de_iload_3 (B 1232 _ rfl)) 3 rfl (n := 1233) rfl ?_
  refine Vw.iconst (v := 1) (de_iconst_1 (B 1233 _ rfl)) rfl (n := 1234) rfl ?_
  refine Vw.iadd (de_iadd (B 1234 _ rfl)) (n := 1235) rfl ?_
  rw [nI_p1]
  refine Vw.ialdS (j := 6 * k + 1) (de_iaload (B 1235 _ rfl)) z2 (vIx_n rfl (by omega) (by omega)) (n := 1236) rfl ?_
  rw [eI]
  refine Vw.prM (d := 40) (mr := mX12_hidden) (As := [.int (I z (6 * k + 1))]) (cr := cr) (sr := sr) (de_invokevirtual (B 1236 _ rfl) (B 1237 _ rfl) (B 1238 _ rfl)) ml_L_150 mv_X12_hidden r2 rfl rfl (Nat.le_of_ble_eq_true rfl) (n := 1239) rfl ct (fun I3 M3 h3 => ?_)
  refine Vw.icmp_eq (tgt := 1392) (n := 1242) (de_icmp_eq (B 1239 _ rfl) (B 1240 _ rfl) (B 1241 _ rfl)) rfl rfl (fun q => ?_) (fun q => absurd rfl q)
  exact law_t (ih S2 I3 M3 h3 z2)
set_option maxRecDepth 100000 in
theorem law_years {Q : Int32 → vS → vI → vL → Prop} {cr sr z x r lb len k : Nat} {S : vS} {I : vI} {L : vL} (hR : REL S I x r lb) (hz : S.1 z = (400, len)) (hzx : z < x) (hk : 6 * k + 6 ≤ len) (hl : len ≤ 3072) (ih : ∀ S2 I2 L2, REL S2 I2 x r lb → S2.1 z = (400, len) → Vw mL_law (100 + 1) 600000 7302250 cr sr (ViQ Q) 18 [(0, .ref z), (1, .ref x), (2, .ref r), (3, .int (nI (6 * k + 6)))] [] S2 I2 L2) : Vw mL_law (100 + 1) 600000 7302250 (cr + 8) (sr + 480) (ViQ Q) 1244 [(0, .ref z), (1, .ref x), (2, .ref r), (3, .int (nI (6 * k)))] [] S I L := by
  have B := bs_L_law
  have hX := hR.kx
  have hM := hR.kr
  refine Vw.less (cr2 := cr) (sr2 := sr) (by omega) (by omega) ?_
  refine Vw.aload_n (de_aload_1 (B 1244 _ rfl)) 1 rfl (n := 1245) rfl ?_
  refine Vw.aload_n (de_aload_0 (B 1245 _ rfl)) 0 rfl (n := 1246) rfl ?_
  refine Vw.iload_n (de_iload_3 (B 1246 _ rfl)) 3 rfl (n := 1247) rfl ?_
  refine Vw.iconst (v := 1) (de_iconst_1 (B 1247 _ rfl)) rfl (n := 1248) rfl ?_
  refine Vw.iadd (de_iadd (B 1248 _ rfl)) (n := 1249) rfl ?_
  rw [nI_p1]
  refine Vw.ialdS (j := 6 * k + 1) (de_iaload (B 1249 _ rfl)) hz (vIx_n rfl (by omega) (by omega)) (n := 1250) rfl ?_
  refine Vw.aload_n (de_aload_0 (B 1250 _ rfl)) 0 rfl (n := 1251) rfl ?_
  refine Vw.iload_n (de_iload_3 (B 1251 _ rfl)) 3 rfl (n := 1252) rfl ?_
  refine Vw.iconst (v := 2) (de_iconst_2 (B 1252 _ rfl)) rfl (n := 1253) rfl ?_
  refine Vw.iadd (de_iadd (B 1253 _ rfl)) (n := 1254) rfl ?_
  rw [nI_p2]
  refine Vw.ialdS (j := 6 * k + 2) (de_iaload (B 1254 _ rfl)) hz (vIx_n rfl (by omega) (by omega)) (n := 1255) rfl ?_
  refine Vw.prI (d := 20) (mx := mX11_years) (mr := mX12_years) (As := [.int (I z (6 * k + 1)), .int (I z (6 * k + 2))]) (cr := cr) (sr := sr) (mc' := 0) (ms' := 0) (de_invokevirtual (B 1255 _ rfl) (B 1256 _ rfl) (B 1257 _ rfl)) ml_L_151 mv_X11_years hX rfl rfl (Nat.le_of_ble_eq_true rfl) (n := 1258) rfl hz hzx hM.1 hM.2 (pr_years hR) (fun v S2 I2 M z2 r2 eI ct => ?_)
  refine Vw.aload_n (de_aload_2 (B 1258 _ rfl)) 2 rfl (n := 1259) rfl ?_
  refine Vw.aload_n (de_aload_0 (B 1259 _ rfl)) 0 rfl (n := 1260) rfl ?_
  refine Vw.iload_n (de_iload_3 (B 1260 _ rfl)) 3 rfl (n := 1261) rfl ?_
  refine Vw.iconst (v := 1) (de_iconst_1 (B 1261 _ rfl)) rfl (n := 1262) rfl ?_
  refine Vw.iadd (de_iadd (B 1262 _ rfl)) (n := 1263) rfl ?_
  rw [nI_p1]
  refine Vw.ialdS (j := 6 * k + 1) (de_iaload (B 1263 _ rfl)) z2 (vIx_n rfl (by omega) (by omega)) (n := 1264) rfl ?_
  rw [eI]
  refine Vw.aload_n (de_aload_0 (B 1264 _ rfl)) 0 rfl (n := 1265) rfl ?_
  refine Vw.iload_n (de_iload_3 (B 1265 _ rfl)) 3 rfl (n := 1266) rfl ?_
  refine Vw.iconst (v := 2) (de_iconst_2 (B 1266 _ rfl)) rfl (n := 1267) rfl ?_
  refine Vw.iadd (de_iadd (B 1267 _ rfl)) (n := 1268) rfl ?_
  rw [nI_p2]
  refine Vw.ialdS (j := 6 * k + 2) (de_iaload (B 1268 _ rfl)) z2 (vIx_n rfl (by omega) (by omega)) (n := 1269) rfl ?_
  rw [eI]
  refine Vw.prM (d := 40) (mr := mX12_years) (As := [.int (I z (6 * k + 1)), .int (I z (6 * k + 2))]) (cr := cr) (sr := sr) (de_invokevirtual (B 1269 _ rfl) (B 1270 _ rfl) (B 1271 _ rfl)) ml_L_154 mv_X12_years r2 rfl rfl (Nat.le_of_ble_eq_true rfl) (n := 1272) rfl ct (fun I3 M3 h3 => ?_)
  refine Vw.icmp_eq (tgt := 1392) (n := 1275) (de_icmp_eq (B 1272 _ rfl) (B 1273 _ rfl) (B 1274 _ rfl)) rfl rfl (fun q => ?_) (fun q => absurd rfl q)
  exact law_t (ih S2 I3 M3 h3 z2)
set_option maxRecDepth 100000 in
theorem law_drawn {Q : Int32 → vS → vI → vL → Prop} {cr sr z x r lb len k : Nat} {S : vS} {I : vI} {L : vL} (hR : REL S I x r lb) (hz : S.1 z = (400, len)) (hzx : z < x) (hk : 6 * k + 6 ≤ len) (hl : len ≤ 3072) (ih : ∀ S2 I2 L2, REL S2 I2 x r lb → S2.1 z = (400, len) → Vw mL_law (100 + 1) 600000 7302250 cr sr (ViQ Q) 18 [(0, .ref z), (1, .ref x), (2, .ref r), (3, .int (nI (6 * k + 6)))] [] S2 I2 L2) : Vw mL_law (100 + 1) 600000 7302250 (cr + 8) (sr + 480) (ViQ Q) 1277 [(0, .ref z), (1, .ref x), (2, .ref r), (3, .int (nI (6 * k)))] [] S I L := by
  have B := bs_L_law
  have hX := hR.kx
  have hM := hR.kr
  refine Vw.less (cr2 := cr) (sr2 := sr) (by omega) (by omega) ?_
  refine Vw.aload_n (de_aload_1 (B 1277 _ rfl)) 1 rfl (n := 1278) rfl ?_
  refine Vw.aload_n (de_aload_0 (B 1278 _ rfl)) 0 rfl (n := 1279) rfl ?_
  refine Vw.iload_n (de_iload_3 (B 1279 _ rfl)) 3 rfl (n := 1280) rfl ?_
  refine Vw.iconst (v := 1) (de_iconst_1 (B 1280 _ rfl)) rfl (n := 1281) rfl ?_
  refine Vw.iadd (de_iadd (B 1281 _ rfl)) (n := 1282) rfl ?_
  rw [nI_p1]
  refine Vw.ialdS (j := 6 * k + 1) (de_iaload (B 1282 _ rfl)) hz (vIx_n rfl (by omega) (by omega)) (n := 1283) rfl ?_
  refine Vw.aload_n (de_aload_0 (B 1283 _ rfl)) 0 rfl (n := 1284) rfl ?_
  refine Vw.iload_n (de_iload_3 (B 1284 _ rfl)) 3 rfl (n := 1285) rfl ?_
  refine Vw.iconst (v := 2) (de_iconst_2 (B 1285 _ rfl)) rfl (n := 1286) rfl ?_
  refine Vw.iadd (de_iadd (B 1286 _ rfl)) (n := 1287) rfl ?_
  rw [nI_p2]
  refine Vw.ialdS (j := 6 * k + 2) (de_iaload (B 1287 _ rfl)) hz (vIx_n rfl (by omega) (by omega)) (n := 1288) rfl ?_
  refine Vw.prI (d := 20) (mx := mX11_drawn) (mr := mX12_drawn) (As := [.int (I z (6 * k + 1)), .int (I z (6 * k + 2))]) (cr := cr) (sr := sr) (mc' := 0) (ms' := 0) (de_invokevirtual (B 1288 _ rfl) (B 1289 _ rfl) (B 1290 _ rfl)) ml_L_155 mv_X11_drawn hX rfl rfl (Nat.le_of_ble_eq_true rfl) (n := 1291) rfl hz hzx hM.1 hM.2 (pr_drawn hR) (fun v S2 I2 M z2 r2 eI ct => ?_)
  refine Vw.aload_n (de_aload_2 (B 1291 _ rfl)) 2 rfl (n := 1292) rfl ?_
  refine Vw.aload_n (de_aload_0 (B 1292 _ rfl)) 0 rfl (n := 1293) rfl ?_
  refine Vw.iload_n (de_iload_3 (B 1293 _ rfl)) 3 rfl (n := 1294) rfl ?_
  refine Vw.iconst (v := 1) (de_iconst_1 (B 1294 _ rfl)) rfl (n := 1295) rfl ?_
  refine Vw.iadd (de_iadd (B 1295 _ rfl)) (n := 1296) rfl ?_
  rw [nI_p1]
  refine Vw.ialdS (j := 6 * k + 1) (de_iaload (B 1296 _ rfl)) z2 (vIx_n rfl (by omega) (by omega)) (n := 1297) rfl ?_
  rw [eI]
  refine Vw.aload_n (de_aload_0 (B 1297 _ rfl)) 0 rfl (n := 1298) rfl ?_
  refine Vw.iload_n (de_iload_3 (B 1298 _ rfl)) 3 rfl (n := 1299) rfl ?_
  refine Vw.iconst (v := 2) (de_iconst_2 (B 1299 _ rfl)) rfl (n := 1300) rfl ?_
  refine Vw.iadd (de_iadd (B 1300 _ rfl)) (n := 1301) rfl ?_
  rw [nI_p2]
  refine Vw.ialdS (j := 6 * k + 2) (de_iaload (B 1301 _ rfl)) z2 (vIx_n rfl (by omega) (by omega)) (n := 1302) rfl ?_
  rw [eI]
  refine Vw.prM (d := 40) (mr := mX12_drawn) (As := [.int (I z (6 * k + 1)), .int (I z (6 * k + 2))]) (cr := cr) (sr := sr) (de_invokevirtual (B 1302 _ rfl) (B 1303 _ rfl) (B 1304 _ rfl)) ml_L_158 mv_X12_drawn r2 rfl rfl (Nat.le_of_ble_eq_true rfl) (n := 1305) rfl ct (fun I3 M3 h3 => ?_)
  refine Vw.icmp_eq (tgt := 1392) (n := 1308) (de_icmp_eq (B 1305 _ rfl) (B 1306 _ rfl) (B 1307 _ rfl)) rfl rfl (fun q => ?_) (fun q => absurd rfl q)
  exact law_t (ih S2 I3 M3 h3 z2)
set_option maxRecDepth 100000 in
theorem law_image {Q : Int32 → vS → vI → vL → Prop} {cr sr z x r lb len k : Nat} {S : vS} {I : vI} {L : vL} (hR : REL S I x r lb) (hz : S.1 z = (400, len)) (hzx : z < x) (hk : 6 * k + 6 ≤ len) (hl : len ≤ 3072) (ih : ∀ S2 I2 L2, REL S2 I2 x r lb → S2.1 z = (400, len) → Vw mL_law (100 + 1) 600000 7302250 cr sr (ViQ Q) 18 [(0, .ref z), (1, .ref x), (2, .ref r), (3, .int (nI (6 * k + 6)))] [] S2 I2 L2) : Vw mL_law (100 + 1) 600000 7302250 (cr + 8) (sr + 480) (ViQ Q) 1310 [(0, .ref z), (1, .ref x), (2, .ref r), (3, .int (nI (6 * k)))] [] S I L := by
  have B := bs_L_law
  have hX := hR.kx
  have hM := hR.kr
  refine Vw.less (cr2 := cr) (sr2 := sr) (by omega) (by omega) ?_
  refine Vw.aload_n (de_aload_1 (B 1310 _ rfl)) 1 rfl (n := 1311) rfl ?_
  refine Vw.aload_n (de_aload_0 (B 1311 _ rfl)) 0 rfl (n := 1312) rfl ?_
  refine Vw.iload_n (de_iload_3 (B 1312 _ rfl)) 3 rfl (n := 1313) rfl ?_
  refine Vw.iconst (v := 1) (de_iconst_1 (B 1313 _ rfl)) rfl (n := 1314) rfl ?_
  refine Vw.iadd (de_iadd (B 1314 _ rfl)) (n := 1315) rfl ?_
  rw [nI_p1]
  refine Vw.ialdS (j := 6 * k + 1) (de_iaload (B 1315 _ rfl)) hz (vIx_n rfl (by omega) (by omega)) (n := 1316) rfl ?_
  refine Vw.prI (d := 20) (mx := mX11_image) (mr := mX12_image) (As := [.int (I z (6 * k + 1))]) (cr := cr) (sr := sr) (mc' := 0) (ms' := 0) (de_invokevirtual (B 1316 _ rfl) (B 1317 _ rfl) (B 1318 _ rfl)) ml_L_159 mv_X11_image hX rfl rfl (Nat.le_of_ble_eq_true rfl) (n := 1319) rfl hz hzx hM.1 hM.2 (pr_image hR) (fun v S2 I2 M z2 r2 eI ct => ?_)
  refine Vw.aload_n (de_aload_2 (B 1319 _ rfl)) 2 rfl (n := 1320) rfl ?_
  refine Vw.aload_n (de_aload_0 (B 1320 _ rfl)) 0 rfl (n := 1321) rfl ?_
  refine Vw.iload_n (de_iload_3 (B 1321 _ rfl)) 3 rfl (n := 1322) rfl ?_
  refine Vw.iconst (v := 1) (de_iconst_1 (B 1322 _ rfl)) rfl (n := 1323) rfl ?_
  refine Vw.iadd (de_iadd (B 1323 _ rfl)) (n := 1324) rfl ?_
  rw [nI_p1]
  refine Vw.ialdS (j := 6 * k + 1) (de_iaload (B 1324 _ rfl)) z2 (vIx_n rfl (by omega) (by omega)) (n := 1325) rfl ?_
  rw [eI]
  refine Vw.prM (d := 40) (mr := mX12_image) (As := [.int (I z (6 * k + 1))]) (cr := cr) (sr := sr) (de_invokevirtual (B 1325 _ rfl) (B 1326 _ rfl) (B 1327 _ rfl)) ml_L_162 mv_X12_image r2 rfl rfl (Nat.le_of_ble_eq_true rfl) (n := 1328) rfl ct (fun I3 M3 h3 => ?_)
  refine Vw.icmp_eq (tgt := 1392) (n := 1331) (de_icmp_eq (B 1328 _ rfl) (B 1329 _ rfl) (B 1330 _ rfl)) rfl rfl (fun q => ?_) (fun q => absurd rfl q)
  exact law_t (ih S2 I3 M3 h3 z2)
set_option maxRecDepth 100000 in
theorem law_back {Q : Int32 → vS → vI → vL → Prop} {cr sr z x r lb len k : Nat} {S : vS} {I : vI} {L : vL} (hR : REL S I x r lb) (hz : S.1 z = (400, len)) (hzx : z < x) (hk : 6 * k + 6 ≤ len) (hl : len ≤ 3072) (ih : ∀ S2 I2 L2, REL S2 I2 x r lb → S2.1 z = (400, len) → Vw mL_law (100 + 1) 600000 7302250 cr sr (ViQ Q) 18 [(0, .ref z), (1, .ref x), (2, .ref r), (3, .int (nI (6 * k + 6)))] [] S2 I2 L2) : Vw mL_law (100 + 1) 600000 7302250 (cr + 8) (sr + 480) (ViQ Q) 1333 [(0, .ref z), (1, .ref x), (2, .ref r), (3, .int (nI (6 * k)))] [] S I L := by
  have B := bs_L_law
  have hX := hR.kx
  have hM := hR.kr
  refine Vw.less (cr2 := cr) (sr2 := sr) (by omega) (by omega) ?_
  refine Vw.aload_n (de_aload_1 (B 1333 _ rfl)) 1 rfl (n := 1334) rfl ?_
  refine Vw.aload_n (de_aload_0 (B 1334 _ rfl)) 0 rfl (n := 1335) rfl ?_
  refine Vw.iload_n (de_iload_3 (B 1335 _ rfl)) 3 rfl (n := 1336) rfl ?_
  refine Vw.iconst (v := 1) (de_iconst_1 (B 1336 _ rfl)) rfl (n := 1337) rfl ?_
  refine Vw.iadd (de_iadd (B 1337 _ rfl)) (n := 1338) rfl ?_
  rw [nI_p1]
  refine Vw.ialdS (j := 6 * k + 1) (de_iaload (B 1338 _ rfl)) hz (vIx_n rfl (by omega) (by omega)) (n := 1339) rfl ?_
  refine Vw.prI (d := 20) (mx := mX11_back) (mr := mX12_back) (As := [.int (I z (6 * k + 1))]) (cr := cr) (sr := sr) (mc' := 0) (ms' := 0) (de_invokevirtual (B 1339 _ rfl) (B 1340 _ rfl) (B 1341 _ rfl)) ml_L_163 mv_X11_back hX rfl rfl (Nat.le_of_ble_eq_true rfl) (n := 1342) rfl hz hzx hM.1 hM.2 (pr_back hR) (fun v S2 I2 M z2 r2 eI ct => ?_)
  refine Vw.aload_n (de_aload_2 (B 1342 _ rfl)) 2 rfl (n := 1343) rfl ?_
  refine Vw.aload_n (de_aload_0 (B 1343 _ rfl)) 0 rfl (n := 1344) rfl ?_
  refine Vw.iload_n (de_iload_3 (B 1344 _ rfl)) 3 rfl (n := 1345) rfl ?_
  refine Vw.iconst (v := 1) (de_iconst_1 (B 1345 _ rfl)) rfl (n := 1346) rfl ?_
  refine Vw.iadd (de_iadd (B 1346 _ rfl)) (n := 1347) rfl ?_
  rw [nI_p1]
  refine Vw.ialdS (j := 6 * k + 1) (de_iaload (B 1347 _ rfl)) z2 (vIx_n rfl (by omega) (by omega)) (n := 1348) rfl ?_
  rw [eI]
  refine Vw.prM (d := 40) (mr := mX12_back) (As := [.int (I z (6 * k + 1))]) (cr := cr) (sr := sr) (de_invokevirtual (B 1348 _ rfl) (B 1349 _ rfl) (B 1350 _ rfl)) ml_L_166 mv_X12_back r2 rfl rfl (Nat.le_of_ble_eq_true rfl) (n := 1351) rfl ct (fun I3 M3 h3 => ?_)
  refine Vw.icmp_eq (tgt := 1392) (n := 1354) (de_icmp_eq (B 1351 _ rfl) (B 1352 _ rfl) (B 1353 _ rfl)) rfl rfl (fun q => ?_) (fun q => absurd rfl q)
  exact law_t (ih S2 I3 M3 h3 z2)
set_option maxRecDepth 100000 in
theorem law_count {Q : Int32 → vS → vI → vL → Prop} {cr sr z x r lb len k : Nat} {S : vS} {I : vI} {L : vL} (hR : REL S I x r lb) (hz : S.1 z = (400, len)) (hzx : z < x) (hk : 6 * k + 6 ≤ len) (hl : len ≤ 3072) (ih : ∀ S2 I2 L2, REL S2 I2 x r lb → S2.1 z = (400, len) → Vw mL_law (100 + 1) 600000 7302250 cr sr (ViQ Q) 18 [(0, .ref z), (1, .ref x), (2, .ref r), (3, .int (nI (6 * k + 6)))] [] S2 I2 L2) : Vw mL_law (100 + 1) 600000 7302250 (cr + 8) (sr + 480) (ViQ Q) 1356 [(0, .ref z), (1, .ref x), (2, .ref r), (3, .int (nI (6 * k)))] [] S I L := by
  have B := bs_L_law
  have hX := hR.kx
  have hM := hR.kr
  refine Vw.less (cr2 := cr) (sr2 := sr) (by omega) (by omega) ?_
  refine Vw.aload_n (de_aload_1 (B 1356 _ rfl)) 1 rfl (n := 1357) rfl ?_
  refine Vw.aload_n (de_aload_0 (B 1357 _ rfl)) 0 rfl (n := 1358) rfl ?_
  refine Vw.iload_n (de_iload_3 (B 1358 _ rfl)) 3 rfl (n := 1359) rfl ?_
  refine Vw.iconst (v := 1) (de_iconst_1 (B 1359 _ rfl)) rfl (n := 1360) rfl ?_
  refine Vw.iadd (de_iadd (B 1360 _ rfl)) (n := 1361) rfl ?_
  rw [nI_p1]
  refine Vw.ialdS (j := 6 * k + 1) (de_iaload (B 1361 _ rfl)) hz (vIx_n rfl (by omega) (by omega)) (n := 1362) rfl ?_
  refine Vw.prI (d := 20) (mx := mX11_count) (mr := mX12_count) (As := [.int (I z (6 * k + 1))]) (cr := cr) (sr := sr) (mc' := 0) (ms' := 0) (de_invokevirtual (B 1362 _ rfl) (B 1363 _ rfl) (B 1364 _ rfl)) ml_L_167 mv_X11_count hX rfl rfl (Nat.le_of_ble_eq_true rfl) (n := 1365) rfl hz hzx hM.1 hM.2 (pr_count hR) (fun v S2 I2 M z2 r2 eI ct => ?_)
  refine Vw.aload_n (de_aload_2 (B 1365 _ rfl)) 2 rfl (n := 1366) rfl ?_
  refine Vw.aload_n (de_aload_0 (B 1366 _ rfl)) 0 rfl (n := 1367) rfl ?_
  refine Vw.iload_n (de_iload_3 (B 1367 _ rfl)) 3 rfl (n := 1368) rfl ?_
  refine Vw.iconst (v := 1) (de_iconst_1 (B 1368 _ rfl)) rfl (n := 1369) rfl ?_
  refine Vw.iadd (de_iadd (B 1369 _ rfl)) (n := 1370) rfl ?_
  rw [nI_p1]
  refine Vw.ialdS (j := 6 * k + 1) (de_iaload (B 1370 _ rfl)) z2 (vIx_n rfl (by omega) (by omega)) (n := 1371) rfl ?_
  rw [eI]
  refine Vw.prM (d := 40) (mr := mX12_count) (As := [.int (I z (6 * k + 1))]) (cr := cr) (sr := sr) (de_invokevirtual (B 1371 _ rfl) (B 1372 _ rfl) (B 1373 _ rfl)) ml_L_170 mv_X12_count r2 rfl rfl (Nat.le_of_ble_eq_true rfl) (n := 1374) rfl ct (fun I3 M3 h3 => ?_)
  refine Vw.icmp_eq (tgt := 1392) (n := 1377) (de_icmp_eq (B 1374 _ rfl) (B 1375 _ rfl) (B 1376 _ rfl)) rfl rfl (fun q => ?_) (fun q => absurd rfl q)
  exact law_t (ih S2 I3 M3 h3 z2)
set_option maxRecDepth 100000 in
theorem law_status {Q : Int32 → vS → vI → vL → Prop} {cr sr z x r lb len k : Nat} {S : vS} {I : vI} {L : vL} (hR : REL S I x r lb) (hz : S.1 z = (400, len)) (hzx : z < x) (hk : 6 * k + 6 ≤ len) (hl : len ≤ 3072) (ih : ∀ S2 I2 L2, REL S2 I2 x r lb → S2.1 z = (400, len) → Vw mL_law (100 + 1) 600000 7302250 cr sr (ViQ Q) 18 [(0, .ref z), (1, .ref x), (2, .ref r), (3, .int (nI (6 * k + 6)))] [] S2 I2 L2) : Vw mL_law (100 + 1) 600000 7302250 (cr + 8) (sr + 480) (ViQ Q) 1379 [(0, .ref z), (1, .ref x), (2, .ref r), (3, .int (nI (6 * k)))] [] S I L := by
  have B := bs_L_law
  have hX := hR.kx
  have hM := hR.kr
  refine Vw.less (cr2 := cr) (sr2 := sr) (by omega) (by omega) ?_
  refine Vw.aload_n (de_aload_1 (B 1379 _ rfl)) 1 rfl (n := 1380) rfl ?_
  refine Vw.prI (d := 20) (mx := mX11_status) (mr := mX12_status) (As := []) (cr := cr) (sr := sr) (mc' := 0) (ms' := 0) (de_invokevirtual (B 1380 _ rfl) (B 1381 _ rfl) (B 1382 _ rfl)) ml_L_171 mv_X11_status hX rfl rfl (Nat.le_of_ble_eq_true rfl) (n := 1383) rfl hz hzx hM.1 hM.2 (pr_status hR) (fun v S2 I2 M z2 r2 eI ct => ?_)
  refine Vw.aload_n (de_aload_2 (B 1383 _ rfl)) 2 rfl (n := 1384) rfl ?_
  refine Vw.prM (d := 40) (mr := mX12_status) (As := []) (cr := cr) (sr := sr) (de_invokevirtual (B 1384 _ rfl) (B 1385 _ rfl) (B 1386 _ rfl)) ml_L_174 mv_X12_status r2 rfl rfl (Nat.le_of_ble_eq_true rfl) (n := 1387) rfl ct (fun I3 M3 h3 => ?_)
  refine Vw.icmp_eq (tgt := 1392) (n := 1390) (de_icmp_eq (B 1387 _ rfl) (B 1388 _ rfl) (B 1389 _ rfl)) rfl rfl (fun q => ?_) (fun q => absurd rfl q)
  exact law_t (ih S2 I3 M3 h3 z2)
