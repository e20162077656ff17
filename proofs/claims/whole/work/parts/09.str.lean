/-! Texts and the script, which lay there before: kinds 300 + i, 320 + i, 400 -/
theorem Kx.strs {G : vG} {s : State} (hK : Kx G s) (hq : ∀ q, q < gB G → s.heap[q]? = (gH G)[q]?) : vk_S 11 vSlen vSby (gKs G) (gVs G) (gAb G) s s.heap := hK.2.2.2.2.1.kept (fun a ha _ => hq a (by rw [hK.2.2.2.2.2.2.2.2.1]; exact ha))
theorem Kx.comp {G : vG} {s : State} (hK : Kx G s) (hq : ∀ q, q < gB G → s.heap[q]? = (gH G)[q]?) : va_Z "java/lang/String" "COMPACT_STRINGS" "Z" (.int 1) (gAb G) s s.heap := hK.2.2.2.2.2.1.kept (fun a ha _ => hq a (by rw [hK.2.2.2.2.2.2.2.2.1]; exact ha))
theorem Kx.fmt {G : vG} {s : State} (hK : Kx G s) (hq : ∀ q, q < gB G → s.heap[q]? = (gH G)[q]?) : va_Zq "jdk/internal/util/Preconditions" "SIOOBE_FORMATTER" "Ljava/util/function/BiFunction;" (gAb G) s s.heap := hK.2.2.2.2.2.2.2.2.2.kept (fun a ha _ => hq a (by rw [hK.2.2.2.2.2.2.2.2.1]; exact ha))
section STR
variable {mi : vM} {d mc ms cr sr : Nat} {Q : Option Value → vS → vI → vL → Prop} {pc n : Nat} {lv : List (Nat × Value)} {st : List Value} {S : vS} {I : vI} {L : vL} {i a b : Nat}
theorem Vw.ldcS (hd : decode mi.2.1 pc = .ok (.ldc (vSt.getD i (0, "")).1, 2)) (hc : mi.1.cls = RX5) (hi : i < 11) (hs : (S.1 a).1 = 300 + i) (hn : pc + 2 = n) (k : Vw mi d mc ms cr sr Q n lv (.ref a :: st) S I L) : Vw mi d mc ms cr sr Q pc lv st S I L := by
  subst hn
  intro l G p e R s m args below meth c H locs cells slots ls hC hH hS h1 h2 hl
  have ha := (hH.2.2.2.2 a).1 i hi hs
  have hR := hC.2.2.2.2.2.2.2.2.1.2.2.2.1 i hi
  refine va_ldcS hC.1 hC.2.1 hC.2.2.2.2.2.1 (by rw [hc]; exact hR) hd ?_
  rw [← ha]
  exact k l G p e R s m args below meth c H locs cells slots ls hC hH hS h1 h2 hl
theorem Vw.getV (hd : decode mi.2.1 pc = .ok (.getfield 9, 3)) (hc : mi.1.cls = RJ0) (hi : i < 11) (hs : (S.1 a).1 = 300 + i) (hb : vBy (S.1 b) i) (hn : pc + 3 = n) (k : Vw mi d mc ms cr sr Q n lv (.ref b :: st) S I L) : Vw mi d mc ms cr sr Q pc lv (.ref a :: st) S I L := by
  subst hn
  intro l G p e R s m args below meth c H locs cells slots ls hC hH hS h1 h2 hl
  have ha := (hH.2.2.2.2 a).1 i hi hs
  have hv := (hH.2.2.2.2 b).2.1 i hi hb
  have hE := ((hC.2.2.2.2.2.2.2.2.1.strs hC.2.2.2.2.2.2.2.2.2.2.1).1 i hi).2.2.1
  rw [← ha, ← hv] at hE
  have hw : Cond.fieldLink mi.1.cls 9 "java/lang/String" "value" "[B" ∈ vTs := by rw [hc]; exact vt_9 104 rfl (gw_fl ..)
  exact vk_getf hC.1 hC.2.1 hE hS hC.2.2.2.2.2.1 (hC.2.2.2.2.2.2.1 _ hw) (fun _ h => h) hd (k l G p e R s m args below meth c H locs cells slots ls hC hH hS h1 h2 hl)
theorem Vw.getC (hd : decode mi.2.1 pc = .ok (.getfield 15, 3)) (hc : mi.1.cls = RJ0) (hi : i < 11) (hs : (S.1 a).1 = 300 + i) (hn : pc + 3 = n) (k : Vw mi d mc ms cr sr Q n lv (.int 0 :: st) S I L) : Vw mi d mc ms cr sr Q pc lv (.ref a :: st) S I L := by
  subst hn
  intro l G p e R s m args below meth c H locs cells slots ls hC hH hS h1 h2 hl
  have ha := (hH.2.2.2.2 a).1 i hi hs
  have hE := ((hC.2.2.2.2.2.2.2.2.1.strs hC.2.2.2.2.2.2.2.2.2.2.1).1 i hi).2.1
  rw [← ha] at hE
  have hw : Cond.fieldLink mi.1.cls 15 "java/lang/String" "coder" "B" ∈ vTs := by rw [hc]; exact vt_9 105 rfl (gw_fl ..)
  exact vk_getf hC.1 hC.2.1 hE hS hC.2.2.2.2.2.1 (hC.2.2.2.2.2.2.1 _ hw) (fun _ h => h) hd (k l G p e R s m args below meth c H locs cells slots ls hC hH hS h1 h2 hl)
theorem Vw.getsC (hd : decode mi.2.1 pc = .ok (.getstatic 38, 3)) (hc : mi.1.cls = RJ0) (hn : pc + 3 = n) (k : Vw mi d mc ms cr sr Q n lv (.int 1 :: st) S I L) : Vw mi d mc ms cr sr Q pc lv st S I L := by
  subst hn
  intro l G p e R s m args below meth c H locs cells slots ls hC hH hS h1 h2 hl
  have hE := hC.2.2.2.2.2.2.2.2.1.comp hC.2.2.2.2.2.2.2.2.2.2.1
  have hw : Cond.fieldLink mi.1.cls 38 "java/lang/String" "COMPACT_STRINGS" "Z" ∈ vTs := by rw [hc]; exact vt_4 68 rfl (gw_fl ..)
  exact va_gets hC.1 hC.2.1 hE hS hC.2.2.2.2.2.1 (hC.2.2.2.2.2.2.1 _ hw) (fun _ h => h) hd (k l G p e R s m args below meth c H locs cells slots ls hC hH hS h1 h2 hl)
theorem Vw.getsQ (hd : decode mi.2.1 pc = .ok (.getstatic 1053, 3)) (hc : mi.1.cls = RJ0) (hn : pc + 3 = n) (k : ∀ v, (v = .null ∨ ∃ t, v = .ref t) → Vw mi d mc ms cr sr Q n lv (v :: st) S I L) : Vw mi d mc ms cr sr Q pc lv st S I L := by
  subst hn
  intro l G p e R s m args below meth c H locs cells slots ls hC hH hS h1 h2 hl
  have hw : Cond.fieldLink mi.1.cls 1053 "jdk/internal/util/Preconditions" "SIOOBE_FORMATTER" "Ljava/util/function/BiFunction;" ∈ vTs := by rw [hc]; exact vt_4 84 rfl (gw_fl ..)
  rcases hC.2.2.2.2.2.2.2.2.1.fmt hC.2.2.2.2.2.2.2.2.2.2.1 with hE | ⟨t, hE⟩
  · exact va_gets hC.1 hC.2.1 hE hS hC.2.2.2.2.2.1 (hC.2.2.2.2.2.2.1 _ hw) (fun _ h => h) hd (k _ (Or.inl rfl) l G p e R s m args below meth c H locs cells slots ls hC hH hS h1 h2 hl)
  · exact va_gets hC.1 hC.2.1 hE hS hC.2.2.2.2.2.1 (hC.2.2.2.2.2.2.1 _ hw) (fun _ h => h) hd (k _ (Or.inr ⟨t, rfl⟩) l G p e R s m args below meth c H locs cells slots ls hC hH hS h1 h2 hl)
theorem Vw.alenV (hd : decode mi.2.1 pc = .ok (.arraylength, 1)) (hi : i < 11) (hb : vBy (S.1 b) i) (hn : pc + 1 = n) (k : Vw mi d mc ms cr sr Q n lv (.int (nI (vSlen.getD i 0)) :: st) S I L) : Vw mi d mc ms cr sr Q pc lv (.ref b :: st) S I L := by
  subst hn
  intro l G p e R s m args below meth c H locs cells slots ls hC hH hS h1 h2 hl
  have hv := (hH.2.2.2.2 b).2.1 i hi hb
  have hE := ((hC.2.2.2.2.2.2.2.2.1.strs hC.2.2.2.2.2.2.2.2.2.2.1).1 i hi).2.2.2
  rw [← hv] at hE
  exact va_tlen hC.1 hC.2.1 hE hS rfl hd (k l G p e R s m args below meth c H locs cells slots ls hC hH hS h1 h2 hl)
theorem Vw.baldV {j : Nat} {x : Int32} (hd : decode mi.2.1 pc = .ok (.baload, 1)) (hi : i < 11) (hb : vBy (S.1 b) i) (hj : vIx x j (vSlen.getD i 0)) (hn : pc + 1 = n) (k : Vw mi d mc ms cr sr Q n lv (.int ((vSby.getD i []).getD j 0) :: st) S I L) : Vw mi d mc ms cr sr Q pc lv (.int x :: .ref b :: st) S I L := by
  subst hn
  intro l G p e R s m args below meth c H locs cells slots ls hC hH hS h1 h2 hl
  have hv := (hH.2.2.2.2 b).2.1 i hi hb
  have hE := ((hC.2.2.2.2.2.2.2.2.1.strs hC.2.2.2.2.2.2.2.2.2.2.1).1 i hi).2.2.2
  rw [← hv] at hE
  exact va_tb hC.1 hC.2.1 hE hS hj.vin (by rw [hj.1]) hd (k l G p e R s m args below meth c H locs cells slots ls hC hH hS h1 h2 hl)
theorem Vw.i2c {x : Int32} (hd : decode mi.2.1 pc = .ok (.i2c, 1)) (hn : pc + 1 = n) (k : Vw mi d mc ms cr sr Q n lv (.int (x.toUInt32 % 65536).toInt32 :: st) S I L) : Vw mi d mc ms cr sr Q pc lv (.int x :: st) S I L := by
  subst hn
  intro l G p e R s m args below meth c H locs cells slots ls hC hH hS h1 h2 hl
  exact lv_i2c hC.1 hC.2.1 hd rfl (k l G p e R s m args below meth c H locs cells slots ls hC hH hS h1 h2 hl)
theorem Vw.alenS {len : Nat} (hd : decode mi.2.1 pc = .ok (.arraylength, 1)) (hs : S.1 a = (400, len)) (hn : pc + 1 = n) (k : Vw mi d mc ms cr sr Q n lv (.int (nI len) :: st) S I L) : Vw mi d mc ms cr sr Q pc lv (.ref a :: st) S I L := by
  subst hn
  intro l G p e R s m args below meth c H locs cells slots ls hC hH hS h1 h2 hl
  obtain ⟨o1, o2, o3, -⟩ := (hH.2.2.2.2 a).2.2 (by rw [hs])
  have hK := hC.2.2.2.2.2.2.2.2.1
  have hq := hC.2.2.2.2.2.2.2.2.2.2.1
  have hX : va_X a len (gXs G) s s.heap := by
    have h := hK.2.2.2.2.2.2.1
    rw [← o2, ← o3, hs] at h
    exact h.kept (hq a o1)
  exact va_slen hC.1 hC.2.1 hX (Nat.lt_of_lt_of_le o1 hC.2.2.2.2.2.2.2.2.2.1) (fun z => absurd z (Nat.not_le.mpr o1)) hS hd (k l G p e R s m args below meth c H locs cells slots ls hC hH hS h1 h2 hl)
theorem Vw.ialdS {len j : Nat} {x : Int32} (hd : decode mi.2.1 pc = .ok (.iaload, 1)) (hs : S.1 a = (400, len)) (hj : vIx x j len) (hn : pc + 1 = n) (k : Vw mi d mc ms cr sr Q n lv (.int (I a j) :: st) S I L) : Vw mi d mc ms cr sr Q pc lv (.int x :: .ref a :: st) S I L := by
  subst hn
  intro l G p e R s m args below meth c H locs cells slots ls hC hH hS h1 h2 hl
  obtain ⟨o1, o2, o3, o4⟩ := (hH.2.2.2.2 a).2.2 (by rw [hs])
  have hK := hC.2.2.2.2.2.2.2.2.1
  have hq := hC.2.2.2.2.2.2.2.2.2.2.1
  have hX : va_X a len (gXs G) s s.heap := by
    have h := hK.2.2.2.2.2.2.1
    rw [← o2, ← o3, hs] at h
    exact h.kept (hq a o1)
  have ev : gXs G j = I a j := by
    have h := o4 j
    rw [vMem_i (c := 400) (by rw [hs]) rfl] at h
    exact (Value.int.inj h).symm
  refine va_sld hC.1 hC.2.1 hX (Nat.lt_of_lt_of_le o1 hC.2.2.2.2.2.2.2.2.2.1) (fun z => absurd z (Nat.not_le.mpr o1)) hS hj.vin hd ?_
  rw [hj.1, ev]
  exact k l G p e R s m args below meth c H locs cells slots ls hC hH hS h1 h2 hl
/-- a text's own method -/
def vMt (mi : vM) (np : Nat) : Prop := vMc mi np ∧ mi.1.cls = "java/lang/String" ∧ Cond.instanceMethod mi.1 ∈ vTs ∧ Cond.selects mi.1.cls mi.1 mi.1 ∈ vTs
variable {mi' : vM} {np idx mc' ms' : Nat} {As st0 : List Value}
theorem Vw.invT (hd : decode mi.2.1 pc = .ok (.invokevirtual idx, 3)) (hl : Cond.methodLink mi.1.cls idx mi'.1 ∈ vTs) (hm : vMt mi' np) (hi : i < 11) (hs : (S.1 b).1 = 300 + i) (hst : st0 = As.reverse ++ .ref b :: st) (hA : As.length = np) (hw : (st.map fun v => v.category).sum ≤ 8) (hn : pc + 3 = n)
    (hC : Vc mi' d mc' ms' (.ref b :: As) S I L (fun v S' I' L' => Vw mi (d + 1) mc ms cr sr Q n lv (v.toList ++ st) S' I' L')) : Vw mi (d + 1) mc ms (cr + mc') (sr + ms') Q pc lv st0 S I L := by
  subst hn
  intro l G p e R s m args below meth cd H locs cells slots ls hX hH hS h1 h2 hlv
  obtain ⟨⟨m1, m2, m3, m4⟩, m6, m7, m8⟩ := hm
  have hts := hX.2.2.2.2.2.2.1
  have hK := hX.2.2.2.2.2.2.2.2.1
  have hR := hX.2.2.2.2.2.2.2.2.2.2.2
  have hcb : CallB R s args mi.1.cls idx mi'.1 mi'.2.1 mi'.2.2.1 mi'.2.2.2 (vWs mi') (vRm d mc' ms') mc' ms' np := callB_of np hts (vWs_good m2) rfl rfl rfl (hts _ m1) (hts _ hl) m3 ⟨by show d + 1 ≤ _; omega, by show 8 + (mi'.2.2.1 + 11) + 48 * d ≤ _; omega⟩
  have ha := (hH.2.2.2.2 b).1 i hi hs
  obtain ⟨cell, g1, g2, g3⟩ := vk_recv (hK.strs hX.2.2.2.2.2.2.2.2.2.2.1) hi hS
  rw [← ha] at g1
  refine vAfter (va_runV (As := As) (rest := st) ⟨hX.1, hX.2.1, hX.2.2.1, hX.2.2.2.2.2.1, hts⟩ (hC l G) ⟨hcb, hts _ m7, hts _ m8⟩ ⟨vBlind, ⟨cell, g1, g2, by rw [m6]; exact g3⟩, vEnter hH hK⟩ rfl hA hlv.1 hst (lv_room hw) hd ⟨by omega, by omega⟩) hS (fun v S' I' L' H1 locs1 q1 q2 q3 => ?_)
  exact q1 l G p e R s m args below meth cd H1 locs1 _ _ ls hX q2 q3 (by omega) (by omega) hlv
end STR
theorem mt_J0_length_8abf5 : vMt mJ0_length_8abf5 0 := ⟨mc_J0_length_8abf5, rfl, vt_4 61 rfl (gw_im ..), vt_4 62 rfl (gw_se ..)⟩
theorem mt_J0_charAt_5068e : vMt mJ0_charAt_5068e 1 := ⟨mc_J0_charAt_5068e, rfl, vt_4 71 rfl (gw_im ..), vt_4 72 rfl (gw_se ..)⟩
theorem mt_J0_coder_7d493 : vMt mJ0_coder_7d493 0 := ⟨mc_J0_coder_7d493, rfl, vt_4 65 rfl (gw_im ..), vt_4 66 rfl (gw_se ..)⟩
theorem mt_J0_isLatin1_aae02 : vMt mJ0_isLatin1_aae02 0 := ⟨mc_J0_isLatin1_aae02, rfl, vt_4 75 rfl (gw_im ..), vt_4 76 rfl (gw_se ..)⟩
