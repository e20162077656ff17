/-! The start -/
theorem ar_pr {s : State} {args : Array Value} {ty : FieldType} (h : (Cond.arrayClass ty).before args s = true) : ∃ cA, ArrOfT s cA ty ∧ s.vm.findClass ("[" ++ ty.toString) = some cA := by
  obtain ⟨c, k, comp, h1, h2, h3⟩ := Cond.arrayClass_spec (args := args) (first := s) (o := none) (s := s) (idx := []) h
  exact ⟨c, fun n z => ⟨fun k h => (by cases h), k, h2, comp, h3⟩, h1⟩
theorem ar_ob {s : State} {args : Array Value} {C : String} (h : (Cond.arrayOver (.object C)).before args s = true) : ∃ cA, ArrOfT s cA (.object C) ∧ va_RA s cA (.object C) := by
  obtain ⟨comp, c, k, h1, -, h3, h4, h5⟩ := Cond.arrayOver_spec (args := args) (first := s) (o := none) (s := s) (idx := []) h
  exact ⟨c, fun n z => ⟨fun k h => (by cases h), k, h3, comp, h4⟩, k, comp, h3, h4, h1, h5⟩
theorem st_Vinj {s : State} {A : Nat → Prop} {H : Heap} {aK aV : Nat → Nat} (h : vk_S 11 vSlen vSby aK aV A s H) : ∀ i j, i < 11 → j < 11 → aV i = aV j → i = j := by
  intro i j hi hj e
  by_cases z : i = j
  · exact z
  obtain ⟨c1, a1, a2, a3, a4, a5, a6, a7⟩ := (h.1 i hi).2.2.2
  obtain ⟨c2, b1, b2, b3, b4, b5, b6, b7⟩ := (h.1 j hj).2.2.2
  rw [e, b1] at a1
  cases a1
  rcases st_dif i hi j hj z with q | q
  · exact absurd (a5.symm.trans b5) q
  · obtain ⟨k, k1, k2⟩ := List.any_eq_true.mp q
    rw [List.mem_range] at k1
    rw [Bool.and_eq_true, decide_eq_true_eq, Bool.not_eq_true', beq_eq_false_iff_ne] at k2
    have g := (a6 k k1).symm.trans (b6 k k2.1)
    injection g with g
    injection g with g
    exact absurd g k2.2
theorem st_Kb {s : State} {A : Nat → Prop} {aK aV : Nat → Nat} {b L : Nat} {xs : Nat → Int32} (h : vk_S 11 vSlen vSby aK aV A s s.heap) (hX : va_X b L xs s s.heap) : ∀ k, k < 11 → aK k ≠ b ∧ aV k ≠ b ∧ aK k < s.heap.size ∧ aV k < s.heap.size := by
  intro k hk
  obtain ⟨scr, x1, x2, x3, x4, x5⟩ := hX
  obtain ⟨cf, kf, i, f, cell, o1, o2, o3, o4, o5, o6⟩ := (h.1 k hk).2.2.1
  obtain ⟨c2, b1, b2, b3, b4, b5, b6, b7⟩ := (h.1 k hk).2.2.2
  refine ⟨fun e => ?_, fun e => ?_, (Array.getElem?_eq_some_iff.mp o3).1, (Array.getElem?_eq_some_iff.mp b1).1⟩
  · rw [e, x1] at o3
    cases o3
    have hlt : f.slot < scr.slots.size := (Array.getElem?_eq_some_iff.mp o5).1
    have g := (x5 f.slot (by omega)).symm.trans o5
    injection g with g
    cases g
  · rw [e, x1] at b1
    cases b1
    obtain ⟨-, k1, q1, p1, r1⟩ := x2
    obtain ⟨-, k2, q2, p2, r2⟩ := b2
    rw [q1] at q2
    cases q2
    rw [r1] at r2
    cases r2
def mkG (f : Nat → ClassId × (Nat → Nat)) (aA : Nat → ClassId) (s : State) (b L : Nat) (xs : Nat → Int32) (aK aV : Nat → Nat) : vG := ((fun c => (f c).1, fun c => (f c).2, aA), (s.heap.size, s.heap), (b, L, xs), (aK, aV))
theorem start_H {f : Nat → ClassId × (Nat → Nat)} {aA : Nat → ClassId} {s : State} {b L : Nat} {xs : Nat → Int32} {aK aV : Nat → Nat} (hbl : b < s.heap.size) : Hx (mkG f aA s b L xs aK aV) (s0K b L aK aV, fun _ _ => none, s.heap.size) (fun _ k => xs k) (fun _ _ => 0) s.heap := by
  refine ⟨rfl, Nat.le_refl _, fun a ha => ?_, fun q _ => rfl, fun a => ⟨fun i hi h => s0K_1 hi h, fun i hi h => s0K_2 h, fun h => ?_⟩⟩
  · have ha : (s0K b L aK aV a).1 < 200 := ha
    by_cases z : a = b
    · rw [z, s0K_b] at ha; have ha : 400 < 200 := ha; omega
    · have := s0K_k (L := L) (aK := aK) (aV := aV) z; omega
  · have e : a = b := s0K_4 h
    subst e
    refine ⟨hbl, rfl, ?_, fun k => ?_⟩
    · show (s0K a L aK aV a).2 = L
      rw [s0K_b]
    · rw [vMem_i (c := 400) (show (s0K a L aK aV a).1 = 400 by rw [s0K_b]) rfl]; rfl
theorem start_K {s : State} {b L : Nat} {xs : Nat → Int32} (hts : ∀ w ∈ lw_tbl, w.before #[Value.ref b] s = true) (hX : va_X b L xs s s.heap) (hbl : b < s.heap.size) (hgv : (Jvm.Cond.and given_1 narrow_1).before #[Value.ref b] s = true) : ∃ f aA aK aV, Kx (mkG f aA s b L xs aK aV) s ∧ vk_S 11 vSlen vSby aK aV (fun q => s.heap.size ≤ q) s s.heap := by
  have hs := flat_of_before _ hgv
  have hvt : ∀ w ∈ vTs, w.before #[Value.ref b] s = true := fun w hw => hts w (List.mem_filter.mp hw).1
  have k0 : ∃ q : ClassId × (Nat → Nat), u_Kn s (vR 0) (vT 0) (vN 0) q.1 q.2 := by
    obtain ⟨a1, a2, h⟩ := u_known (C := vR 0) (T := vT 0) (N := vN 0) (n := vN 0) hts ws_c0 (hvt _ cl_X9_17.2.1)
    exact ⟨(a1, a2), h⟩
  have k1 : ∃ q : ClassId × (Nat → Nat), u_Kn s (vR 1) (vT 1) (vN 1) q.1 q.2 := by
    obtain ⟨a1, a2, h⟩ := u_known (C := vR 1) (T := vT 1) (N := vN 1) (n := vN 1) hts ws_c1 (hvt _ cl_X11_41.2.1)
    exact ⟨(a1, a2), h⟩
  have k2 : ∃ q : ClassId × (Nat → Nat), u_Kn s (vR 2) (vT 2) (vN 2) q.1 q.2 := by
    obtain ⟨a1, a2, h⟩ := u_known (C := vR 2) (T := vT 2) (N := vN 2) (n := vN 2) hts ws_c2 (hvt _ cl_X11_57.2.1)
    exact ⟨(a1, a2), h⟩
  have k3 : ∃ q : ClassId × (Nat → Nat), u_Kn s (vR 3) (vT 3) (vN 3) q.1 q.2 := by
    obtain ⟨a1, a2, h⟩ := u_known (C := vR 3) (T := vT 3) (N := vN 3) (n := vN 3) hts ws_c3 (hvt _ cl_X9_9.2.1)
    exact ⟨(a1, a2), h⟩
  have k4 : ∃ q : ClassId × (Nat → Nat), u_Kn s (vR 4) (vT 4) (vN 4) q.1 q.2 := by
    obtain ⟨a1, a2, h⟩ := u_known (C := vR 4) (T := vT 4) (N := vN 4) (n := vN 4) hts ws_c4 (hvt _ cl_X11_34.2.1)
    exact ⟨(a1, a2), h⟩
  have k5 : ∃ q : ClassId × (Nat → Nat), u_Kn s (vR 5) (vT 5) (vN 5) q.1 q.2 := by
    obtain ⟨a1, a2, h⟩ := u_known (C := vR 5) (T := vT 5) (N := vN 5) (n := vN 5) hts ws_c5 (hvt _ cl_X11_50.2.1)
    exact ⟨(a1, a2), h⟩
  have k6 : ∃ q : ClassId × (Nat → Nat), u_Kn s (vR 6) (vT 6) (vN 6) q.1 q.2 := by
    obtain ⟨a1, a2, h⟩ := u_known (C := vR 6) (T := vT 6) (N := vN 6) (n := vN 6) hts ws_c6 (hvt _ cl_X11_16.2.1)
    exact ⟨(a1, a2), h⟩
  have k7 : ∃ q : ClassId × (Nat → Nat), u_Kn s (vR 7) (vT 7) (vN 7) q.1 q.2 := by
    obtain ⟨a1, a2, h⟩ := u_known (C := vR 7) (T := vT 7) (N := vN 7) (n := vN 7) hts ws_c7 (hvt _ cl_X7_8.2.1)
    exact ⟨(a1, a2), h⟩
  have k8 : ∃ q : ClassId × (Nat → Nat), u_Kn s (vR 8) (vT 8) (vN 8) q.1 q.2 := by
    obtain ⟨a1, a2, h⟩ := u_known (C := vR 8) (T := vT 8) (N := vN 8) (n := vN 8) hts ws_c8 (hvt _ cl_X11_9.2.1)
    exact ⟨(a1, a2), h⟩
  have k9 : ∃ q : ClassId × (Nat → Nat), u_Kn s (vR 9) (vT 9) (vN 9) q.1 q.2 := by
    obtain ⟨a1, a2, h⟩ := u_known (C := vR 9) (T := vT 9) (N := vN 9) (n := vN 9) hts ws_c9 (hvt _ cl_X8_9.2.1)
    exact ⟨(a1, a2), h⟩
  have k10 : ∃ q : ClassId × (Nat → Nat), u_Kn s (vR 10) (vT 10) (vN 10) q.1 q.2 := by
    obtain ⟨a1, a2, h⟩ := u_known (C := vR 10) (T := vT 10) (N := vN 10) (n := vN 10) hts ws_c10 (hvt _ cl_X11_25.2.1)
    exact ⟨(a1, a2), h⟩
  have k11 : ∃ q : ClassId × (Nat → Nat), u_Kn s (vR 11) (vT 11) (vN 11) q.1 q.2 := by
    obtain ⟨a1, a2, h⟩ := u_known (C := vR 11) (T := vT 11) (N := vN 11) (n := vN 11) hts ws_c11 (hvt _ cl_L_7.2.1)
    exact ⟨(a1, a2), h⟩
  have k12 : ∃ q : ClassId × (Nat → Nat), u_Kn s (vR 12) (vT 12) (vN 12) q.1 q.2 := by
    obtain ⟨a1, a2, h⟩ := u_known (C := vR 12) (T := vT 12) (N := vN 12) (n := vN 12) hts ws_c12 (hvt _ cl_L_10.2.1)
    exact ⟨(a1, a2), h⟩
  have hcl : ∀ c0 : Nat, ∃ q : ClassId × (Nat → Nat), c0 < 13 → u_Kn s (vR c0) (vT c0) (vN c0) q.1 q.2 := by
    intro c0
    by_cases hc : c0 < 13
    · rcases (show c0 = 0 ∨ c0 = 1 ∨ c0 = 2 ∨ c0 = 3 ∨ c0 = 4 ∨ c0 = 5 ∨ c0 = 6 ∨ c0 = 7 ∨ c0 = 8 ∨ c0 = 9 ∨ c0 = 10 ∨ c0 = 11 ∨ c0 = 12 by omega) with rfl | rfl | rfl | rfl | rfl | rfl | rfl | rfl | rfl | rfl | rfl | rfl | rfl
      · obtain ⟨q, h⟩ := k0; exact ⟨q, fun _ => h⟩
      · obtain ⟨q, h⟩ := k1; exact ⟨q, fun _ => h⟩
      · obtain ⟨q, h⟩ := k2; exact ⟨q, fun _ => h⟩
      · obtain ⟨q, h⟩ := k3; exact ⟨q, fun _ => h⟩
      · obtain ⟨q, h⟩ := k4; exact ⟨q, fun _ => h⟩
      · obtain ⟨q, h⟩ := k5; exact ⟨q, fun _ => h⟩
      · obtain ⟨q, h⟩ := k6; exact ⟨q, fun _ => h⟩
      · obtain ⟨q, h⟩ := k7; exact ⟨q, fun _ => h⟩
      · obtain ⟨q, h⟩ := k8; exact ⟨q, fun _ => h⟩
      · obtain ⟨q, h⟩ := k9; exact ⟨q, fun _ => h⟩
      · obtain ⟨q, h⟩ := k10; exact ⟨q, fun _ => h⟩
      · obtain ⟨q, h⟩ := k11; exact ⟨q, fun _ => h⟩
      · obtain ⟨q, h⟩ := k12; exact ⟨q, fun _ => h⟩
    · exact ⟨(0, fun _ => 0), fun h => absurd h hc⟩
  obtain ⟨f, hf⟩ := Classical.axiomOfChoice hcl
  obtain ⟨a100, h100⟩ := ar_pr (hvt _ ac_int)
  obtain ⟨a101, h101⟩ := ar_pr (hvt _ ac_boolean)
  obtain ⟨a102, h102⟩ := ar_pr (hvt _ ac_byte)
  obtain ⟨a103, h103⟩ := ar_pr (hvt _ ac_long)
  obtain ⟨a110, h110⟩ := ar_ob (hts _ (st_ao RX0 (by simp)))
  obtain ⟨a113, h113⟩ := ar_ob (hts _ (st_ao RX3 (by simp)))
  obtain ⟨a117, h117⟩ := ar_ob (hts _ (st_ao RX7 (by simp)))
  obtain ⟨a118, h118⟩ := ar_ob (hts _ (st_ao RX8 (by simp)))
  obtain ⟨a119, h119⟩ := ar_ob (hts _ (st_ao RX9 (by simp)))
  obtain ⟨aK, aV, hS, hev⟩ := vk_Sof (args := #[Value.ref b]) (s := s) (N := 11) (tm := stT) (len := vSlen) (byt := vSby) (A := fun q => s.heap.size ≤ q) st_31 (fun i hi => hs _ (st_ex i hi)) (fun i hi => hs _ (st_co i hi)) (fun i hi => hs _ (st_ar i hi)) (fun i hi => hs _ (st_le i hi)) (fun i hi j hj => hs _ (st_el i hi j hj)) (fun i j hi hj hne => (st_ne i hi j hj hne).imp (hs _) (hs _)) (fun a ha => Nat.not_le.mpr ha)
  refine ⟨f, fun kd => if kd = 100 then a100 else if kd = 101 then a101 else if kd = 102 then a102 else if kd = 103 then a103 else if kd = 110 then a110 else if kd = 113 then a113 else if kd = 117 then a117 else if kd = 118 then a118 else a119, aK, aV, ⟨⟨fun c0 q hq => ?_, fun k q hq => ?_⟩, fun w hw => ?_, fun c hc => va_AO.of (hts _ (st_ao c hc)), fun i hi => vk_R.of (hts _ (st_rf i hi)) (hev i hi), hS, va_Zof (hts _ st_t1.1) (hts _ st_t1.2.1) (va_eqt (hs _ st_cs)) (fun a ha => Nat.not_le.mpr ha), hX, hbl, rfl, va_Zqof (hts _ st_t1.2.2.1) (hts _ st_t1.2.2.2) (hs _ st_fo) (fun a ha => Nat.not_le.mpr ha)⟩, hS⟩
  · have hc : c0 < 13 := (List.getElem?_eq_some_iff.mp hq).1
    rw [vCl_at hc] at hq
    cases hq
    exact hf c0 hc
  · have hm := List.mem_of_getElem? hq
    simp only [vTys, List.mem_cons, List.not_mem_nil, or_false] at hm
    rcases hm with rfl | rfl | rfl | rfl | rfl | rfl | rfl | rfl | rfl
    · exact h100
    · exact h101
    · exact h102
    · exact h103
    · exact h110
    · exact h113
    · exact h117
    · exact h118
    · exact h119
  · have h := hts w (st_ns w hw)
    simp only [vNst, List.mem_cons, List.not_mem_nil, or_false] at hw
    rcases hw with rfl | rfl | rfl | rfl | rfl | rfl | rfl | rfl <;> exact h
