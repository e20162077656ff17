/-! Questions: both answer alike -/
def PRl (mx mr : vM) (as : List Value) (x r lb : Nat) (S : vS) (I : vI) (L : vL) : Prop := ∀ (d : Nat) (Q : Int64 → vS → vI → vL → Prop), (∀ v S2 I2 M, (∀ b, b < x + 942 → S2.1 b = S.1 b) → (∀ (d2 : Nat) (Q2 : Int64 → vS → vI → vL → Prop), (∀ I3 M3, REL S2 I3 x r lb → (∀ b, b < x → I3 b = I b) → Q2 v S2 I3 M3) → Vc mr (d2 + 60) 0 0 (.ref r :: as) S2 I2 M (VlQ Q2)) → Q v S2 I2 M) → Vc mx (d + 80) 0 0 (.ref x :: as) S I L (VlQ Q)
theorem PRl.q {mx mr : vM} {as : List Value} {x r lb : Nat} {S : vS} {I : vI} {L : vL} (hR : REL S I x r lb) (v : Int64) (hX : ∀ d Q, (∀ I2 M, FS x I I2 → Q v S I2 M) → Vc mx (d + 80) 0 0 (.ref x :: as) S I L (VlQ Q)) (hM : ∀ d I2 M Q, (∀ b, r ≤ b → b < r + 28 → I2 b = I b) → (∀ I3 M3, Rq r I2 I3 → Q v S I3 M3) → Vc mr (d + 60) 0 0 (.ref r :: as) S I2 M (VlQ Q)) : PRl mx mr as x r lb S I L := by
  intro d Q h
  have er : r = x + 914 := by obtain ⟨_, _, _, _, _, _, _, _, _, _, _, _, er, _⟩ := hR; exact er
  refine hX d Q (fun I2 M f => h v S I2 M (fun _ _ => rfl) (fun d2 Q2 h2 => hM d2 I2 M Q2 (fun b g1 g2 => f.row (by omega) (by omega)) (fun I3 M3 g => h2 I3 M3 ((hR.fs f).rq g) (fun b hb => ?_))))
  have e1 : I3 b = I2 b := funext fun k => g b k (by omega) (by omega) (by omega)
  rw [e1, f.row (by omega) (by omega)]
theorem pr_of {S : vS} {I : vI} {L : vL} {x r lb : Nat} {p y : Int32} (hR : REL S I x r lb) : PR mX11_of mX12_of 0 0 [.int p, .int y] x r lb S I L := by
  obtain ⟨l, np, nc, ns, nl, hCP, hL, h32, hWd, hSP⟩ := hR
  have hR : REL S I x r lb := ⟨l, np, nc, ns, nl, hCP, hL, h32, hWd, hSP⟩
  have hs := hCP.1
  have hH := hCP.2.1
  have hN := hs.tn
  obtain ⟨hC, hM, hst, er, el, hl2⟩ := id hSP
  obtain ⟨W, wC, wD⟩ := hs.w
  refine PR.q hR (ofP W (I (r + 2)) np nc p y) (fun d Q h => q_of hC hs wC (by omega) h) (fun d I2 M Q e h => ?_)
  have e2 : I2 (r + 2) = I (r + 2) := e _ (by omega) (by omega)
  refine c_X12_of (d := d + 16) (np := np) (nc := nc) (W := W) hM (by rw [e2]; exact wD) (by rw [e2]; exact hN) (fun I3 f => ?_)
  rw [e2]
  exact h I3 _ f.rq
theorem pr_tailor {S : vS} {I : vI} {L : vL} {x r lb : Nat} {t y : Int32} (hR : REL S I x r lb) : PR mX11_tailor mX12_tailor 0 0 [.int t, .int y] x r lb S I L := by
  obtain ⟨l, np, nc, ns, nl, hCP, hL, h32, hWd, hSP⟩ := hR
  have hR : REL S I x r lb := ⟨l, np, nc, ns, nl, hCP, hL, h32, hWd, hSP⟩
  have hs := hCP.1
  have hH := hCP.2.1
  have hN := hs.tn
  obtain ⟨hC, hM, hst, er, el, hl2⟩ := id hSP
  obtain ⟨W, wC, wD⟩ := hs.w
  refine PR.q hR (tailorP W (I (r + 2)) nc t y) (fun d Q h => q_tailor hC hs wC (by omega) h) (fun d I2 M Q e h => ?_)
  have e2 : I2 (r + 2) = I (r + 2) := e _ (by omega) (by omega)
  refine c_X12_tailor (d := d + 15) (np := np) (nc := nc) (W := W) hM (by rw [e2]; exact wD) (by rw [e2]; exact hN) (fun I3 f => ?_)
  rw [e2]
  exact h I3 _ f.rq
theorem pr_coat {S : vS} {I : vI} {L : vL} {x r lb : Nat} {ci y : Int32} (hR : REL S I x r lb) : PR mX11_coat mX12_coat 0 0 [.int ci, .int y] x r lb S I L := by
  obtain ⟨l, np, nc, ns, nl, hCP, hL, h32, hWd, hSP⟩ := hR
  have hR : REL S I x r lb := ⟨l, np, nc, ns, nl, hCP, hL, h32, hWd, hSP⟩
  have hs := hCP.1
  have hH := hCP.2.1
  have hN := hs.tn
  obtain ⟨hC, hM, hst, er, el, hl2⟩ := id hSP
  obtain ⟨W, wC, wD⟩ := hs.w
  refine PR.q hR (coatP W (I (r + 2)) nc ci y) (fun d Q h => q_coat hC hs wC (by omega) h) (fun d I2 M Q e h => ?_)
  have e2 : I2 (r + 2) = I (r + 2) := e _ (by omega) (by omega)
  refine c_X12_coat (d := d + 15) (np := np) (nc := nc) (W := W) hM (by rw [e2]; exact wD) (by rw [e2]; exact hN) (fun I3 f => ?_)
  rw [e2]
  exact h I3 _ f.rq
theorem pr_asks {S : vS} {I : vI} {L : vL} {x r lb : Nat} {p t sz wd y : Int32} (hR : REL S I x r lb) : PR mX11_asks mX12_asks 0 0 [.int p, .int t, .int sz, .int wd, .int y] x r lb S I L := by
  obtain ⟨l, np, nc, ns, nl, hCP, hL, h32, hWd, hSP⟩ := hR
  have hR : REL S I x r lb := ⟨l, np, nc, ns, nl, hCP, hL, h32, hWd, hSP⟩
  have hs := hCP.1
  have hH := hCP.2.1
  have hN := hs.tn
  obtain ⟨hC, hM, hst, er, el, hl2⟩ := id hSP
  obtain ⟨W, wC, wD⟩ := hs.w
  refine PR.q hR (asksP W (I (r + 2)) np p t sz wd y) (fun d Q h => q_asks hC hs wC (by omega) h) (fun d I2 M Q e h => ?_)
  have e2 : I2 (r + 2) = I (r + 2) := e _ (by omega) (by omega)
  refine c_X12_asks (d := d + 16) (np := np) (nc := nc) (W := W) hM (by rw [e2]; exact wD) (by rw [e2]; exact hN) (fun I3 f => ?_)
  rw [e2]
  exact h I3 _ f.rq
theorem pr_will {S : vS} {I : vI} {L : vL} {x r lb : Nat} {p n y : Int32} (hR : REL S I x r lb) : PR mX11_will mX12_will 0 0 [.int p, .int n, .int y] x r lb S I L := by
  obtain ⟨l, np, nc, ns, nl, hCP, hL, h32, hWd, hSP⟩ := hR
  have hR : REL S I x r lb := ⟨l, np, nc, ns, nl, hCP, hL, h32, hWd, hSP⟩
  have hs := hCP.1
  have hH := hCP.2.1
  have hN := hs.tn
  obtain ⟨hC, hM, hst, er, el, hl2⟩ := id hSP
  obtain ⟨W, wC, wD⟩ := hs.w
  refine PR.q hR (willP W (I (r + 2)) np p n y) (fun d Q h => q_will hC hs wC (by omega) h) (fun d I2 M Q e h => ?_)
  have e2 : I2 (r + 2) = I (r + 2) := e _ (by omega) (by omega)
  refine c_X12_will (d := d + 15) (np := np) (nc := nc) (W := W) hM (by rw [e2]; exact wD) (by rw [e2]; exact hN) (fun I3 f => ?_)
  rw [e2]
  exact h I3 _ f.rq
theorem pr_due {S : vS} {I : vI} {L : vL} {x r lb : Nat} {ci : Int32} (hR : REL S I x r lb) : PR mX11_due mX12_due 0 0 [.int ci] x r lb S I L := by
  obtain ⟨l, np, nc, ns, nl, hCP, hL, h32, hWd, hSP⟩ := hR
  have hR : REL S I x r lb := ⟨l, np, nc, ns, nl, hCP, hL, h32, hWd, hSP⟩
  have hs := hCP.1
  have hH := hCP.2.1
  have hN := hs.tn
  obtain ⟨hC, hM, hst, er, el, hl2⟩ := id hSP
  obtain ⟨W, wC, wD⟩ := hs.w
  refine PR.q hR (dueC W (I (r + 2)) nc ci) (fun d Q h => q_due hC hs wC (by omega) h) (fun d I2 M Q e h => ?_)
  have e2 : I2 (r + 2) = I (r + 2) := e _ (by omega) (by omega)
  refine c_X12_due (d := d + 14) (np := np) (nc := nc) (W := W) hM (by rw [e2]; exact wD) (by rw [e2]; exact hN) (fun I3 f => ?_)
  rw [e2]
  exact h I3 _ f.rq
theorem pr_falls {S : vS} {I : vI} {L : vL} {x r lb : Nat} {t n : Int32} (hR : REL S I x r lb) : PR mX11_falls mX12_falls 0 0 [.int t, .int n] x r lb S I L := by
  obtain ⟨l, np, nc, ns, nl, hCP, hL, h32, hWd, hSP⟩ := hR
  have hR : REL S I x r lb := ⟨l, np, nc, ns, nl, hCP, hL, h32, hWd, hSP⟩
  have hs := hCP.1
  have hH := hCP.2.1
  have hN := hs.tn
  obtain ⟨hC, hM, hst, er, el, hl2⟩ := id hSP
  obtain ⟨W, wC, wD⟩ := hs.w
  refine PR.q hR (fallsP W (I (r + 2)) nc t n) (fun d Q h => q_falls hC hs wC (by omega) h) (fun d I2 M Q e h => ?_)
  have e2 : I2 (r + 2) = I (r + 2) := e _ (by omega) (by omega)
  refine c_X12_falls (d := d + 14) (np := np) (nc := nc) (W := W) hM (by rw [e2]; exact wD) (by rw [e2]; exact hN) (fun I3 f => ?_)
  rw [e2]
  exact h I3 _ f.rq
theorem pr_fed {S : vS} {I : vI} {L : vL} {x r lb : Nat} {p n y : Int32} (hR : REL S I x r lb) : PR mX11_fed mX12_fed 0 0 [.int p, .int n, .int y] x r lb S I L := by
  obtain ⟨l, np, nc, ns, nl, hCP, hL, h32, hWd, hSP⟩ := hR
  have hR : REL S I x r lb := ⟨l, np, nc, ns, nl, hCP, hL, h32, hWd, hSP⟩
  have hs := hCP.1
  have hH := hCP.2.1
  have hN := hs.tn
  obtain ⟨hC, hM, hst, er, el, hl2⟩ := id hSP
  obtain ⟨W, wC, wD⟩ := hs.w
  refine PR.q hR (fedP W (I (r + 2)) np p n y) (fun d Q h => q_fed hC hs wC (by omega) h) (fun d I2 M Q e h => ?_)
  have e2 : I2 (r + 2) = I (r + 2) := e _ (by omega) (by omega)
  refine c_X12_fed (d := d + 15) (np := np) (nc := nc) (W := W) hM (by rw [e2]; exact wD) (by rw [e2]; exact hN) (fun I3 f => ?_)
  rw [e2]
  exact h I3 _ f.rq
theorem pr_hidden {S : vS} {I : vI} {L : vL} {x r lb : Nat} {i : Int32} (hR : REL S I x r lb) : PR mX11_hidden mX12_hidden 0 0 [.int i] x r lb S I L := by
  obtain ⟨l, np, nc, ns, nl, hCP, hL, h32, hWd, hSP⟩ := hR
  have hR : REL S I x r lb := ⟨l, np, nc, ns, nl, hCP, hL, h32, hWd, hSP⟩
  have hs := hCP.1
  have hH := hCP.2.1
  have hN := hs.tn
  obtain ⟨hC, hM, hst, er, el, hl2⟩ := id hSP
  obtain ⟨W, wC, wD⟩ := hs.w
  refine PR.q hR (hidP W (I (r + 2)) np ns i) (fun d Q h => q_hidden hC hs wC (by omega) h) (fun d I2 M Q e h => ?_)
  have e2 : I2 (r + 2) = I (r + 2) := e _ (by omega) (by omega)
  refine c_X12_hidden (d := d + 14) (np := np) (nc := nc) (W := W) hM (by rw [e2]; exact wD) (by rw [e2]; exact hN) (by rw [e2]; exact hs.n143) hs.sr.2.1 (fun I3 f => ?_)
  rw [e2]
  exact h I3 _ f.rq
theorem pr_game {S : vS} {I : vI} {L : vL} {x r lb : Nat} {ci n y : Int32} (hR : REL S I x r lb) : PR mX11_game mX12_game 0 0 [.int ci, .int n, .int y] x r lb S I L := by
  obtain ⟨l, np, nc, ns, nl, hCP, hL, h32, hWd, hSP⟩ := hR
  have hR : REL S I x r lb := ⟨l, np, nc, ns, nl, hCP, hL, h32, hWd, hSP⟩
  have hs := hCP.1
  have hH := hCP.2.1
  have hN := hs.tn
  obtain ⟨hC, hM, hst, er, el, hl2⟩ := id hSP
  obtain ⟨W, wC, wD⟩ := hs.w
  refine PR.q hR (gameP W (I (r + 2)) nc ci n y) (fun d Q h => q_game hC hs wC (by omega) h) (fun d I2 M Q e h => ?_)
  have e2 : I2 (r + 2) = I (r + 2) := e _ (by omega) (by omega)
  refine c_X12_game (d := d + 6) (np := np) (nc := nc) (W := W) hM (by rw [e2]; exact wD) (by rw [e2]; exact hN) (fun I3 f => ?_)
  rw [e2]
  exact h I3 _ f.rq
theorem pr_odds {S : vS} {I : vI} {L : vL} {x r lb : Nat} {p y n : Int32} (hR : REL S I x r lb) : PRl mX11_odds mX12_odds [.int p, .int y, .int n] x r lb S I L := by
  obtain ⟨l, np, nc, ns, nl, hCP, hL, h32, hWd, hSP⟩ := hR
  have hR : REL S I x r lb := ⟨l, np, nc, ns, nl, hCP, hL, h32, hWd, hSP⟩
  have hs := hCP.1
  have hH := hCP.2.1
  have hN := hs.tn
  obtain ⟨hC, hM, hst, er, el, hl2⟩ := id hSP
  obtain ⟨W, wC, wD⟩ := hs.w
  refine PRl.q hR (oddP W (I (r + 2)) np p y n) (fun d Q h => q_odds hC hs wC (by omega) h) (fun d I2 M Q e h => ?_)
  have e2 : I2 (r + 2) = I (r + 2) := e _ (by omega) (by omega)
  refine c_X12_odds (d := d + 15) (np := np) (nc := nc) (W := W) hM (by rw [e2]; exact wD) (by rw [e2]; exact hN) (by rw [e2]; exact fun q hq => by obtain ⟨_, _, ⟨w1, w2⟩, _⟩ := hs.kb.1 q hq; obtain ⟨w, w3, w4⟩ := nI_ex (x := I (r + 2) (4 * q + 2)) (n := 201) (by exact Int.le_trans (by decide) w1) (by exact Int.lt_of_le_of_lt w2 (by decide)); exact ⟨w, by omega, w4⟩) (fun I3 L3 f fl => ?_)
  rw [e2]
  exact h I3 _ f.rq
theorem pr_cutting {S : vS} {I : vI} {L : vL} {x r lb : Nat} {t n y : Int32} (hR : REL S I x r lb) : PR mX11_cutting mX12_cutting 0 0 [.int t, .int n, .int y] x r lb S I L := by
  obtain ⟨l, np, nc, ns, nl, hCP, hL, h32, hWd, hSP⟩ := hR
  have hR : REL S I x r lb := ⟨l, np, nc, ns, nl, hCP, hL, h32, hWd, hSP⟩
  have hs := hCP.1
  have hH := hCP.2.1
  have hN := hs.tn
  obtain ⟨hC, hM, hst, er, el, hl2⟩ := id hSP
  obtain ⟨W, wC, wD⟩ := hs.w
  refine PR.q hR (cutP W (I (r + 2)) np t n y) (fun d Q h => q_cutting hC hs wC (by omega) h) (fun d I2 M Q e h => ?_)
  have e2 : I2 (r + 2) = I (r + 2) := e _ (by omega) (by omega)
  refine c_X12_cutting (d := d + 13) (np := np) (nc := nc) (W := W) hM (by rw [e2]; exact wD) (by rw [e2]; exact hN) (by rw [e2]; exact hs.kb.1) (by rw [e2]; exact hs.kb.2.1) (fun I3 f => ?_)
  rw [e2]
  exact h I3 _ f.rq
theorem pr_dress {S : vS} {I : vI} {L : vL} {x r lb : Nat} {p n i : Int32} (hR : REL S I x r lb) : PR mX11_dress mX12_dress 0 0 [.int p, .int n, .int i] x r lb S I L := by
  obtain ⟨l, np, nc, ns, nl, hCP, hL, h32, hWd, hSP⟩ := hR
  have hR : REL S I x r lb := ⟨l, np, nc, ns, nl, hCP, hL, h32, hWd, hSP⟩
  have hs := hCP.1
  have hH := hCP.2.1
  have hN := hs.tn
  obtain ⟨hC, hM, hst, er, el, hl2⟩ := id hSP
  obtain ⟨W, wC, wD⟩ := hs.w
  refine PR.q hR (dressP W (I (r + 2)) np p n i) (fun d Q h => q_dress hC hs wC (by omega) h) (fun d I2 M Q e h => ?_)
  have e2 : I2 (r + 2) = I (r + 2) := e _ (by omega) (by omega)
  refine c_X12_dress (d := d + 15) (np := np) (nc := nc) (W := W) hM (by rw [e2]; exact wD) (by rw [e2]; exact hN) (by rw [e2]; exact hs.kb.1) (fun I3 f => ?_)
  rw [e2]
  exact h I3 _ f.rq
theorem FS.of_eq {x : Nat} {I : vI} : FS x I I := FS.rfl
theorem pr_moths {S : vS} {I : vI} {L : vL} {x r lb : Nat} (hR : REL S I x r lb) : PR mX11_moths mX12_moths 0 0 [] x r lb S I L := by
  obtain ⟨l, np, nc, ns, nl, hCP, hL, h32, hWd, hSP⟩ := hR
  have hR : REL S I x r lb := ⟨l, np, nc, ns, nl, hCP, hL, h32, hWd, hSP⟩
  have hs := hCP.1
  have hH := hCP.2.1
  have hN := hs.tn
  obtain ⟨hC, hM, hst, er, el, hl2⟩ := id hSP
  refine PR.q hR (I x 13) (fun d Q h => q_moths hC (h _ _ FS.rfl)) (fun d I2 M Q e h => c_X12_moths hM ?_)
  rw [e r (by omega) (by omega), ← hCP.2.2.2.2.2.1]
  exact h _ _ Rq.rfl
theorem pr_fault {S : vS} {I : vI} {L : vL} {x r lb : Nat} (hR : REL S I x r lb) : PR mX11_fault mX12_fault 0 0 [] x r lb S I L := by
  obtain ⟨l, np, nc, ns, nl, hCP, hL, h32, hWd, hSP⟩ := hR
  have hR : REL S I x r lb := ⟨l, np, nc, ns, nl, hCP, hL, h32, hWd, hSP⟩
  have hs := hCP.1
  have hH := hCP.2.1
  have hN := hs.tn
  obtain ⟨hC, hM, hst, er, el, hl2⟩ := id hSP
  refine PR.q hR (I x 14) (fun d Q h => q_fault hC (h _ _ FS.rfl)) (fun d I2 M Q e h => c_X12_fault hM ?_)
  rw [e r (by omega) (by omega), ← hCP.2.2.2.2.2.2.1]
  exact h _ _ Rq.rfl
theorem pr_stopped {S : vS} {I : vI} {L : vL} {x r lb : Nat} (hR : REL S I x r lb) : PR mX11_stopped mX12_stopped 0 0 [] x r lb S I L := by
  obtain ⟨l, np, nc, ns, nl, hCP, hL, h32, hWd, hSP⟩ := hR
  have hR : REL S I x r lb := ⟨l, np, nc, ns, nl, hCP, hL, h32, hWd, hSP⟩
  have hs := hCP.1
  have hH := hCP.2.1
  have hN := hs.tn
  obtain ⟨hC, hM, hst, er, el, hl2⟩ := id hSP
  refine PR.q hR (I x 15) (fun d Q h => q_stopped hC (h _ _ FS.rfl)) (fun d I2 M Q e h => c_X12_stopped hM ?_)
  rw [e r (by omega) (by omega), ← hCP.2.2.2.2.2.2.2.1]
  exact h _ _ Rq.rfl
theorem pr_status {S : vS} {I : vI} {L : vL} {x r lb : Nat} (hR : REL S I x r lb) : PR mX11_status mX12_status 0 0 [] x r lb S I L := by
  obtain ⟨l, np, nc, ns, nl, hCP, hL, h32, hWd, hSP⟩ := hR
  have hR : REL S I x r lb := ⟨l, np, nc, ns, nl, hCP, hL, h32, hWd, hSP⟩
  have hs := hCP.1
  have hH := hCP.2.1
  have hN := hs.tn
  obtain ⟨hC, hM, hst, er, el, hl2⟩ := id hSP
  refine PR.q hR (I x 16) (fun d Q h => q_status hC (h _ _ FS.rfl)) (fun d I2 M Q e h => c_X12_status hM ?_)
  rw [e r (by omega) (by omega), ← hCP.2.2.2.2.2.2.2.2.1]
  exact h _ _ Rq.rfl
theorem pr_drawn {S : vS} {I : vI} {L : vL} {x r lb : Nat} {k y : Int32} (hR : REL S I x r lb) : PR mX11_drawn mX12_drawn 0 0 [.int k, .int y] x r lb S I L := by
  obtain ⟨l, np, nc, ns, nl, hCP, hL, h32, hWd, hSP⟩ := hR
  have hR : REL S I x r lb := ⟨l, np, nc, ns, nl, hCP, hL, h32, hWd, hSP⟩
  have hs := hCP.1
  have hH := hCP.2.1
  have hN := hs.tn
  obtain ⟨hC, hM, hst, er, el, hl2⟩ := id hSP
  obtain ⟨-, -, -, -, -, -, -, -, -, -, -, h56, nd, nd8, h54, hY⟩ := id hCP
  refine PR.q hR (drawnP (I (x + 34) 11) nd (I (r + 26)) (I (r + 27)) k y) (fun d Q h => q_drawn hC nd8 (fun q => hY (by rw [← h56]; exact q)) (h _ _ FS.rfl)) (fun d I2 M Q e h => c_X12_drawn (d := d + 58) (nd := nd) hM (by rw [e r (by omega) (by omega)]; exact h54) nd8 ?_)
  rw [e r (by omega) (by omega), e (r + 26) (by omega) (by omega), e (r + 27) (by omega) (by omega), ← h56]
  exact h _ _ Rq.rfl
theorem k_count {d : Nat} {S : vS} {I : vI} {L : vL} {Q : Int32 → vS → vI → vL → Prop} {x lb np nc ns nl : Nat} {K : Nat → Int32} {l : List tH} {y : Int32} (hC : ClsS S x) (hs : STR S I (x + 1) lb K np nc ns nl) (hH : HC I (x + 89) l np) (hlb : x + 942 ≤ lb)  (h : ∀ v, (y = 0 → v = nI np) → (y = 1 → v = nI nc) → (y = 2 → v = nI ns) → (y = 3 → v = nI nl) → (y = 4 → v = nI l.length) → (y = 5 → v = I x 12) → (y = 6 → v = I (x + 857) 1) → (y = 7 → v = I (x + 857) 2) → (y = 8 → v = I (x + 857) 3) → (y = 9 → v = I (x + 857) 5) → (y = 10 → v = I (x + 857) 6) → (y = 11 → v = K 145) → (y = 12 → v = K 121) → (y = 13 → v = K 140) → (y = 14 → v = K 141) → (y.toInt < 0 ∨ 14 < y.toInt → v = -1) → Q v S I L) : Vc mX11_count (d + 80) 0 0 [.ref x, .int y] S I L (ViQ Q) := by
  refine Vc.of rfl (Nat.le_of_ble_eq_true rfl) ?_
  have B := bs_X11_count
  show Vw mX11_count (d + 80) 0 0 0 0 (ViQ Q) 0 [(0, .ref x), (1, .int y)] [] S I L
  have hT := hC.p0.p0
  have hN := hs.tn
  have h8 := hN.1
  have h10 := hN.2.1
  have hK := hs.tr
  have hold : ∃ old, old < 16 ∧ I (x + 89) 2 = nI old := by obtain ⟨_, _, old, o1, o2, _⟩ := hH; exact ⟨old, o1, o2⟩
  refine Vw.iload_n (de_iload_1 (B 0 _ rfl)) 1 rfl (n := 1) rfl ?_
  have hts_1 : decode mX11_count.2.1 1 = .ok (.tableswitch 188 0 14 #[75, 86, 97, 105, 113, 121, 126, 133, 140, 147, 154, 162, 170, 176, 182], 75) := by decide +kernel
  by_cases e_1_0 : y = (0 : Int32)
  · rw [e_1_0]
    refine Vw.tsIn (n := 76) hts_1 (by decide) (by decide) rfl rfl ?_
    refine Vw.aload_n (de_aload_0 (B 76 _ rfl)) 0 rfl (n := 77) rfl ?_
    refine Vw.getR (de_getfield (B 77 _ rfl) (B 78 _ rfl) (B 79 _ rfl)) fl_X11_12 rfl hC.k hC.f0 (n := 80) rfl ?_
    refine Vw.getR (de_getfield (B 80 _ rfl) (B 81 _ rfl) (B 82 _ rfl)) fl_X11_104 rfl hC.p0.k hC.p0.f0 (n := 83) rfl ?_
    refine Vw.getI (de_getfield (B 83 _ rfl) (B 84 _ rfl) (B 85 _ rfl)) fl_X11_107 rfl hC.p0.p0.k (n := 86) rfl ?_
    exact Vw.iret (de_ireturn (B 86 _ rfl)) rfl ⟨_, rfl, (h _ (fun _ => hK.1) (fun q => absurd (e_1_0.symm.trans q) (by decide)) (fun q => absurd (e_1_0.symm.trans q) (by decide)) (fun q => absurd (e_1_0.symm.trans q) (by decide)) (fun q => absurd (e_1_0.symm.trans q) (by decide)) (fun q => absurd (e_1_0.symm.trans q) (by decide)) (fun q => absurd (e_1_0.symm.trans q) (by decide)) (fun q => absurd (e_1_0.symm.trans q) (by decide)) (fun q => absurd (e_1_0.symm.trans q) (by decide)) (fun q => absurd (e_1_0.symm.trans q) (by decide)) (fun q => absurd (e_1_0.symm.trans q) (by decide)) (fun q => absurd (e_1_0.symm.trans q) (by decide)) (fun q => absurd (e_1_0.symm.trans q) (by decide)) (fun q => absurd (e_1_0.symm.trans q) (by decide)) (fun q => absurd (e_1_0.symm.trans q) (by decide)) (fun q => absurd q (by rw [e_1_0]; decide)))⟩
  by_cases e_1_1 : y = (1 : Int32)
  · rw [e_1_1]
    refine Vw.tsIn (n := 87) hts_1 (by decide) (by decide) rfl rfl ?_
    refine Vw.aload_n (de_aload_0 (B 87 _ rfl)) 0 rfl (n := 88) rfl ?_
    refine Vw.getR (de_getfield (B 88 _ rfl) (B 89 _ rfl) (B 90 _ rfl)) fl_X11_12 rfl hC.k hC.f0 (n := 91) rfl ?_
    refine Vw.getR (de_getfield (B 91 _ rfl) (B 92 _ rfl) (B 93 _ rfl)) fl_X11_104 rfl hC.p0.k hC.p0.f0 (n := 94) rfl ?_
    refine Vw.getI (de_getfield (B 94 _ rfl) (B 95 _ rfl) (B 96 _ rfl)) fl_X11_270 rfl hC.p0.p0.k (n := 97) rfl ?_
    exact Vw.iret (de_ireturn (B 97 _ rfl)) rfl ⟨_, rfl, (h _ (fun q => absurd (e_1_1.symm.trans q) (by decide)) (fun _ => hK.2.1) (fun q => absurd (e_1_1.symm.trans q) (by decide)) (fun q => absurd (e_1_1.symm.trans q) (by decide)) (fun q => absurd (e_1_1.symm.trans q) (by decide)) (fun q => absurd (e_1_1.symm.trans q) (by decide)) (fun q => absurd (e_1_1.symm.trans q) (by decide)) (fun q => absurd (e_1_1.symm.trans q) (by decide)) (fun q => absurd (e_1_1.symm.trans q) (by decide)) (fun q => absurd (e_1_1.symm.trans q) (by decide)) (fun q => absurd (e_1_1.symm.trans q) (by decide)) (fun q => absurd (e_1_1.symm.trans q) (by decide)) (fun q => absurd (e_1_1.symm.trans q) (by decide)) (fun q => absurd (e_1_1.symm.trans q) (by decide)) (fun q => absurd (e_1_1.symm.trans q) (by decide)) (fun q => absurd q (by rw [e_1_1]; decide)))⟩
  by_cases e_1_2 : y = (2 : Int32)
  · rw [e_1_2]
    refine Vw.tsIn (n := 98) hts_1 (by decide) (by decide) rfl rfl ?_
    refine Vw.aload_n (de_aload_0 (B 98 _ rfl)) 0 rfl (n := 99) rfl ?_
    refine Vw.getR (de_getfield (B 99 _ rfl) (B 100 _ rfl) (B 101 _ rfl)) fl_X11_12 rfl hC.k hC.f0 (n := 102) rfl ?_
    refine Vw.getI (de_getfield (B 102 _ rfl) (B 103 _ rfl) (B 104 _ rfl)) fl_X11_388 rfl hC.p0.k (n := 105) rfl ?_
    exact Vw.iret (de_ireturn (B 105 _ rfl)) rfl ⟨_, rfl, (h _ (fun q => absurd (e_1_2.symm.trans q) (by decide)) (fun q => absurd (e_1_2.symm.trans q) (by decide)) (fun _ => hs.sr.1) (fun q => absurd (e_1_2.symm.trans q) (by decide)) (fun q => absurd (e_1_2.symm.trans q) (by decide)) (fun q => absurd (e_1_2.symm.trans q) (by decide)) (fun q => absurd (e_1_2.symm.trans q) (by decide)) (fun q => absurd (e_1_2.symm.trans q) (by decide)) (fun q => absurd (e_1_2.symm.trans q) (by decide)) (fun q => absurd (e_1_2.symm.trans q) (by decide)) (fun q => absurd (e_1_2.symm.trans q) (by decide)) (fun q => absurd (e_1_2.symm.trans q) (by decide)) (fun q => absurd (e_1_2.symm.trans q) (by decide)) (fun q => absurd (e_1_2.symm.trans q) (by decide)) (fun q => absurd (e_1_2.symm.trans q) (by decide)) (fun q => absurd q (by rw [e_1_2]; decide)))⟩
  by_cases e_1_3 : y = (3 : Int32)
  · rw [e_1_3]
    refine Vw.tsIn (n := 106) hts_1 (by decide) (by decide) rfl rfl ?_
    refine Vw.aload_n (de_aload_0 (B 106 _ rfl)) 0 rfl (n := 107) rfl ?_
    refine Vw.getR (de_getfield (B 107 _ rfl) (B 108 _ rfl) (B 109 _ rfl)) fl_X11_12 rfl hC.k hC.f0 (n := 110) rfl ?_
    refine Vw.getI (de_getfield (B 110 _ rfl) (B 111 _ rfl) (B 112 _ rfl)) fl_X11_204 rfl hC.p0.k (n := 113) rfl ?_
    exact Vw.iret (de_ireturn (B 113 _ rfl)) rfl ⟨_, rfl, (h _ (fun q => absurd (e_1_3.symm.trans q) (by decide)) (fun q => absurd (e_1_3.symm.trans q) (by decide)) (fun q => absurd (e_1_3.symm.trans q) (by decide)) (fun _ => hs.lw.2.1) (fun q => absurd (e_1_3.symm.trans q) (by decide)) (fun q => absurd (e_1_3.symm.trans q) (by decide)) (fun q => absurd (e_1_3.symm.trans q) (by decide)) (fun q => absurd (e_1_3.symm.trans q) (by decide)) (fun q => absurd (e_1_3.symm.trans q) (by decide)) (fun q => absurd (e_1_3.symm.trans q) (by decide)) (fun q => absurd (e_1_3.symm.trans q) (by decide)) (fun q => absurd (e_1_3.symm.trans q) (by decide)) (fun q => absurd (e_1_3.symm.trans q) (by decide)) (fun q => absurd (e_1_3.symm.trans q) (by decide)) (fun q => absurd (e_1_3.symm.trans q) (by decide)) (fun q => absurd q (by rw [e_1_3]; decide)))⟩
  by_cases e_1_4 : y = (4 : Int32)
  · rw [e_1_4]
    refine Vw.tsIn (n := 114) hts_1 (by decide) (by decide) rfl rfl ?_
    refine Vw.aload_n (de_aload_0 (B 114 _ rfl)) 0 rfl (n := 115) rfl ?_
    refine Vw.getR (de_getfield (B 115 _ rfl) (B 116 _ rfl) (B 117 _ rfl)) fl_X11_60 rfl hC.k hC.f6 (n := 118) rfl ?_
    refine Vw.getI (de_getfield (B 118 _ rfl) (B 119 _ rfl) (B 120 _ rfl)) fl_X11_325 rfl hC.p6.k (n := 121) rfl ?_
    exact Vw.iret (de_ireturn (B 121 _ rfl)) rfl ⟨_, rfl, (h _ (fun q => absurd (e_1_4.symm.trans q) (by decide)) (fun q => absurd (e_1_4.symm.trans q) (by decide)) (fun q => absurd (e_1_4.symm.trans q) (by decide)) (fun q => absurd (e_1_4.symm.trans q) (by decide)) (fun _ => hH.2.1) (fun q => absurd (e_1_4.symm.trans q) (by decide)) (fun q => absurd (e_1_4.symm.trans q) (by decide)) (fun q => absurd (e_1_4.symm.trans q) (by decide)) (fun q => absurd (e_1_4.symm.trans q) (by decide)) (fun q => absurd (e_1_4.symm.trans q) (by decide)) (fun q => absurd (e_1_4.symm.trans q) (by decide)) (fun q => absurd (e_1_4.symm.trans q) (by decide)) (fun q => absurd (e_1_4.symm.trans q) (by decide)) (fun q => absurd (e_1_4.symm.trans q) (by decide)) (fun q => absurd (e_1_4.symm.trans q) (by decide)) (fun q => absurd q (by rw [e_1_4]; decide)))⟩
  by_cases e_1_5 : y = (5 : Int32)
  · rw [e_1_5]
    refine Vw.tsIn (n := 122) hts_1 (by decide) (by decide) rfl rfl ?_
    refine Vw.aload_n (de_aload_0 (B 122 _ rfl)) 0 rfl (n := 123) rfl ?_
    refine Vw.getI (de_getfield (B 123 _ rfl) (B 124 _ rfl) (B 125 _ rfl)) fl_X11_191 rfl hC.k (n := 126) rfl ?_
    exact Vw.iret (de_ireturn (B 126 _ rfl)) rfl ⟨_, rfl, (h _ (fun q => absurd (e_1_5.symm.trans q) (by decide)) (fun q => absurd (e_1_5.symm.trans q) (by decide)) (fun q => absurd (e_1_5.symm.trans q) (by decide)) (fun q => absurd (e_1_5.symm.trans q) (by decide)) (fun q => absurd (e_1_5.symm.trans q) (by decide)) (fun _ => rfl) (fun q => absurd (e_1_5.symm.trans q) (by decide)) (fun q => absurd (e_1_5.symm.trans q) (by decide)) (fun q => absurd (e_1_5.symm.trans q) (by decide)) (fun q => absurd (e_1_5.symm.trans q) (by decide)) (fun q => absurd (e_1_5.symm.trans q) (by decide)) (fun q => absurd (e_1_5.symm.trans q) (by decide)) (fun q => absurd (e_1_5.symm.trans q) (by decide)) (fun q => absurd (e_1_5.symm.trans q) (by decide)) (fun q => absurd (e_1_5.symm.trans q) (by decide)) (fun q => absurd q (by rw [e_1_5]; decide)))⟩
  by_cases e_1_6 : y = (6 : Int32)
  · rw [e_1_6]
    refine Vw.tsIn (n := 127) hts_1 (by decide) (by decide) rfl rfl ?_
    refine Vw.aload_n (de_aload_0 (B 127 _ rfl)) 0 rfl (n := 128) rfl ?_
    refine Vw.getR (de_getfield (B 128 _ rfl) (B 129 _ rfl) (B 130 _ rfl)) fl_X11_93 rfl hC.k hC.f17 (n := 131) rfl ?_
    refine Vw.iconst (v := 1) (de_iconst_1 (B 131 _ rfl)) rfl (n := 132) rfl ?_
    refine Vw.iald (de_iaload (B 132 _ rfl)) hC.r17 (j := 1) ⟨rfl, by decide, by decide⟩ (n := 133) rfl ?_
    exact Vw.iret (de_ireturn (B 133 _ rfl)) rfl ⟨_, rfl, (h _ (fun q => absurd (e_1_6.symm.trans q) (by decide)) (fun q => absurd (e_1_6.symm.trans q) (by decide)) (fun q => absurd (e_1_6.symm.trans q) (by decide)) (fun q => absurd (e_1_6.symm.trans q) (by decide)) (fun q => absurd (e_1_6.symm.trans q) (by decide)) (fun q => absurd (e_1_6.symm.trans q) (by decide)) (fun _ => rfl) (fun q => absurd (e_1_6.symm.trans q) (by decide)) (fun q => absurd (e_1_6.symm.trans q) (by decide)) (fun q => absurd (e_1_6.symm.trans q) (by decide)) (fun q => absurd (e_1_6.symm.trans q) (by decide)) (fun q => absurd (e_1_6.symm.trans q) (by decide)) (fun q => absurd (e_1_6.symm.trans q) (by decide)) (fun q => absurd (e_1_6.symm.trans q) (by decide)) (fun q => absurd (e_1_6.symm.trans q) (by decide)) (fun q => absurd q (by rw [e_1_6]; decide)))⟩
  by_cases e_1_7 : y = (7 : Int32)
  · rw [e_1_7]
    refine Vw.tsIn (n := 134) hts_1 (by decide) (by decide) rfl rfl ?_
    refine Vw.aload_n (de_aload_0 (B 134 _ rfl)) 0 rfl (n := 135) rfl ?_
    refine Vw.getR (de_getfield (B 135 _ rfl) (B 136 _ rfl) (B 137 _ rfl)) fl_X11_93 rfl hC.k hC.f17 (n := 138) rfl ?_
    refine Vw.iconst (v := 2) (de_iconst_2 (B 138 _ rfl)) rfl (n := 139) rfl ?_
    refine Vw.iald (de_iaload (B 139 _ rfl)) hC.r17 (j := 2) ⟨rfl, by decide, by decide⟩ (n := 140) rfl ?_
    exact Vw.iret (de_ireturn (B 140 _ rfl)) rfl ⟨_, rfl, (h _ (fun q => absurd (e_1_7.symm.trans q) (by decide)) (fun q => absurd (e_1_7.symm.trans q) (by decide)) (fun q => absurd (e_1_7.symm.trans q) (by decide)) (fun q => absurd (e_1_7.symm.trans q) (by decide)) (fun q => absurd (e_1_7.symm.trans q) (by decide)) (fun q => absurd (e_1_7.symm.trans q) (by decide)) (fun q => absurd (e_1_7.symm.trans q) (by decide)) (fun _ => rfl) (fun q => absurd (e_1_7.symm.trans q) (by decide)) (fun q => absurd (e_1_7.symm.trans q) (by decide)) (fun q => absurd (e_1_7.symm.trans q) (by decide)) (fun q => absurd (e_1_7.symm.trans q) (by decide)) (fun q => absurd (e_1_7.symm.trans q) (by decide)) (fun q => absurd (e_1_7.symm.trans q) (by decide)) (fun q => absurd (e_1_7.symm.trans q) (by decide)) (fun q => absurd q (by rw [e_1_7]; decide)))⟩
  by_cases e_1_8 : y = (8 : Int32)
  · rw [e_1_8]
    refine Vw.tsIn (n := 141) hts_1 (by decide) (by decide) rfl rfl ?_
    refine Vw.aload_n (de_aload_0 (B 141 _ rfl)) 0 rfl (n := 142) rfl ?_
    refine Vw.getR (de_getfield (B 142 _ rfl) (B 143 _ rfl) (B 144 _ rfl)) fl_X11_93 rfl hC.k hC.f17 (n := 145) rfl ?_
    refine Vw.iconst (v := 3) (de_iconst_3 (B 145 _ rfl)) rfl (n := 146) rfl ?_
    refine Vw.iald (de_iaload (B 146 _ rfl)) hC.r17 (j := 3) ⟨rfl, by decide, by decide⟩ (n := 147) rfl ?_
    exact Vw.iret (de_ireturn (B 147 _ rfl)) rfl ⟨_, rfl, (h _ (fun q => absurd (e_1_8.symm.trans q) (by decide)) (fun q => absurd (e_1_8.symm.trans q) (by decide)) (fun q => absurd (e_1_8.symm.trans q) (by decide)) (fun q => absurd (e_1_8.symm.trans q) (by decide)) (fun q => absurd (e_1_8.symm.trans q) (by decide)) (fun q => absurd (e_1_8.symm.trans q) (by decide)) (fun q => absurd (e_1_8.symm.trans q) (by decide)) (fun q => absurd (e_1_8.symm.trans q) (by decide)) (fun _ => rfl) (fun q => absurd (e_1_8.symm.trans q) (by decide)) (fun q => absurd (e_1_8.symm.trans q) (by decide)) (fun q => absurd (e_1_8.symm.trans q) (by decide)) (fun q => absurd (e_1_8.symm.trans q) (by decide)) (fun q => absurd (e_1_8.symm.trans q) (by decide)) (fun q => absurd (e_1_8.symm.trans q) (by decide)) (fun q => absurd q (by rw [e_1_8]; decide)))⟩
  by_cases e_1_9 : y = (9 : Int32)
  · rw [e_1_9]
    refine Vw.tsIn (n := 148) hts_1 (by decide) (by decide) rfl rfl ?_
    refine Vw.aload_n (de_aload_0 (B 148 _ rfl)) 0 rfl (n := 149) rfl ?_
    refine Vw.getR (de_getfield (B 149 _ rfl) (B 150 _ rfl) (B 151 _ rfl)) fl_X11_93 rfl hC.k hC.f17 (n := 152) rfl ?_
    refine Vw.iconst (v := 5) (de_iconst_5 (B 152 _ rfl)) rfl (n := 153) rfl ?_
    refine Vw.iald (de_iaload (B 153 _ rfl)) hC.r17 (j := 5) ⟨rfl, by decide, by decide⟩ (n := 154) rfl ?_
    exact Vw.iret (de_ireturn (B 154 _ rfl)) rfl ⟨_, rfl, (h _ (fun q => absurd (e_1_9.symm.trans q) (by decide)) (fun q => absurd (e_1_9.symm.trans q) (by decide)) (fun q => absurd (e_1_9.symm.trans q) (by decide)) (fun q => absurd (e_1_9.symm.trans q) (by decide)) (fun q => absurd (e_1_9.symm.trans q) (by decide)) (fun q => absurd (e_1_9.symm.trans q) (by decide)) (fun q => absurd (e_1_9.symm.trans q) (by decide)) (fun q => absurd (e_1_9.symm.trans q) (by decide)) (fun q => absurd (e_1_9.symm.trans q) (by decide)) (fun _ => rfl) (fun q => absurd (e_1_9.symm.trans q) (by decide)) (fun q => absurd (e_1_9.symm.trans q) (by decide)) (fun q => absurd (e_1_9.symm.trans q) (by decide)) (fun q => absurd (e_1_9.symm.trans q) (by decide)) (fun q => absurd (e_1_9.symm.trans q) (by decide)) (fun q => absurd q (by rw [e_1_9]; decide)))⟩
  by_cases e_1_10 : y = (10 : Int32)
  · rw [e_1_10]
    refine Vw.tsIn (n := 155) hts_1 (by decide) (by decide) rfl rfl ?_
    refine Vw.aload_n (de_aload_0 (B 155 _ rfl)) 0 rfl (n := 156) rfl ?_
    refine Vw.getR (de_getfield (B 156 _ rfl) (B 157 _ rfl) (B 158 _ rfl)) fl_X11_93 rfl hC.k hC.f17 (n := 159) rfl ?_
    refine Vw.bipush (v := 6) (de_bipush (B 159 _ rfl) (B 160 _ rfl)) rfl (n := 161) rfl ?_
    refine Vw.iald (de_iaload (B 161 _ rfl)) hC.r17 (j := 6) ⟨rfl, by decide, by decide⟩ (n := 162) rfl ?_
    exact Vw.iret (de_ireturn (B 162 _ rfl)) rfl ⟨_, rfl, (h _ (fun q => absurd (e_1_10.symm.trans q) (by decide)) (fun q => absurd (e_1_10.symm.trans q) (by decide)) (fun q => absurd (e_1_10.symm.trans q) (by decide)) (fun q => absurd (e_1_10.symm.trans q) (by decide)) (fun q => absurd (e_1_10.symm.trans q) (by decide)) (fun q => absurd (e_1_10.symm.trans q) (by decide)) (fun q => absurd (e_1_10.symm.trans q) (by decide)) (fun q => absurd (e_1_10.symm.trans q) (by decide)) (fun q => absurd (e_1_10.symm.trans q) (by decide)) (fun q => absurd (e_1_10.symm.trans q) (by decide)) (fun _ => rfl) (fun q => absurd (e_1_10.symm.trans q) (by decide)) (fun q => absurd (e_1_10.symm.trans q) (by decide)) (fun q => absurd (e_1_10.symm.trans q) (by decide)) (fun q => absurd (e_1_10.symm.trans q) (by decide)) (fun q => absurd q (by rw [e_1_10]; decide)))⟩
  by_cases e_1_11 : y = (11 : Int32)
  · rw [e_1_11]
    refine Vw.tsIn (n := 163) hts_1 (by decide) (by decide) rfl rfl ?_
    refine Vw.aload_n (de_aload_0 (B 163 _ rfl)) 0 rfl (n := 164) rfl ?_
    refine Vw.getR (de_getfield (B 164 _ rfl) (B 165 _ rfl) (B 166 _ rfl)) fl_X11_12 rfl hC.k hC.f0 (n := 167) rfl ?_
    refine Vw.getI (de_getfield (B 167 _ rfl) (B 168 _ rfl) (B 169 _ rfl)) fl_X11_243 rfl hC.p0.k (n := 170) rfl ?_
    exact Vw.iret (de_ireturn (B 170 _ rfl)) rfl ⟨_, rfl, (h _ (fun q => absurd (e_1_11.symm.trans q) (by decide)) (fun q => absurd (e_1_11.symm.trans q) (by decide)) (fun q => absurd (e_1_11.symm.trans q) (by decide)) (fun q => absurd (e_1_11.symm.trans q) (by decide)) (fun q => absurd (e_1_11.symm.trans q) (by decide)) (fun q => absurd (e_1_11.symm.trans q) (by decide)) (fun q => absurd (e_1_11.symm.trans q) (by decide)) (fun q => absurd (e_1_11.symm.trans q) (by decide)) (fun q => absurd (e_1_11.symm.trans q) (by decide)) (fun q => absurd (e_1_11.symm.trans q) (by decide)) (fun q => absurd (e_1_11.symm.trans q) (by decide)) (fun _ => hs.fo) (fun q => absurd (e_1_11.symm.trans q) (by decide)) (fun q => absurd (e_1_11.symm.trans q) (by decide)) (fun q => absurd (e_1_11.symm.trans q) (by decide)) (fun q => absurd q (by rw [e_1_11]; decide)))⟩
  by_cases e_1_12 : y = (12 : Int32)
  · rw [e_1_12]
    refine Vw.tsIn (n := 171) hts_1 (by decide) (by decide) rfl rfl ?_
    refine Vw.aload_n (de_aload_0 (B 171 _ rfl)) 0 rfl (n := 172) rfl ?_
    refine Vw.iconst (v := 0) (de_iconst_0 (B 172 _ rfl)) rfl (n := 173) rfl ?_
    refine Vw.ivi1 (mi' := mX11_termOf) (de_invokevirtual (B 173 _ rfl) (B 174 _ rfl) (B 175 _ rfl)) ml_X11_182 mv_X11_termOf hC.k (Nat.le_of_ble_eq_true rfl) (n := 176) rfl (c_X11_termOf (k := 0) hC hs (by decide) ?_)
    exact Vw.iret (de_ireturn (B 176 _ rfl)) rfl ⟨_, rfl, (h _ (fun q => absurd (e_1_12.symm.trans q) (by decide)) (fun q => absurd (e_1_12.symm.trans q) (by decide)) (fun q => absurd (e_1_12.symm.trans q) (by decide)) (fun q => absurd (e_1_12.symm.trans q) (by decide)) (fun q => absurd (e_1_12.symm.trans q) (by decide)) (fun q => absurd (e_1_12.symm.trans q) (by decide)) (fun q => absurd (e_1_12.symm.trans q) (by decide)) (fun q => absurd (e_1_12.symm.trans q) (by decide)) (fun q => absurd (e_1_12.symm.trans q) (by decide)) (fun q => absurd (e_1_12.symm.trans q) (by decide)) (fun q => absurd (e_1_12.symm.trans q) (by decide)) (fun q => absurd (e_1_12.symm.trans q) (by decide)) (fun _ => rfl) (fun q => absurd (e_1_12.symm.trans q) (by decide)) (fun q => absurd (e_1_12.symm.trans q) (by decide)) (fun q => absurd q (by rw [e_1_12]; decide)))⟩
  by_cases e_1_13 : y = (13 : Int32)
  · rw [e_1_13]
    refine Vw.tsIn (n := 177) hts_1 (by decide) (by decide) rfl rfl ?_
    refine Vw.aload_n (de_aload_0 (B 177 _ rfl)) 0 rfl (n := 178) rfl ?_
    refine Vw.iconst (v := 1) (de_iconst_1 (B 178 _ rfl)) rfl (n := 179) rfl ?_
    refine Vw.ivi1 (mi' := mX11_termOf) (de_invokevirtual (B 179 _ rfl) (B 180 _ rfl) (B 181 _ rfl)) ml_X11_182 mv_X11_termOf hC.k (Nat.le_of_ble_eq_true rfl) (n := 182) rfl (c_X11_termOf (k := 1) hC hs (by decide) ?_)
    exact Vw.iret (de_ireturn (B 182 _ rfl)) rfl ⟨_, rfl, (h _ (fun q => absurd (e_1_13.symm.trans q) (by decide)) (fun q => absurd (e_1_13.symm.trans q) (by decide)) (fun q => absurd (e_1_13.symm.trans q) (by decide)) (fun q => absurd (e_1_13.symm.trans q) (by decide)) (fun q => absurd (e_1_13.symm.trans q) (by decide)) (fun q => absurd (e_1_13.symm.trans q) (by decide)) (fun q => absurd (e_1_13.symm.trans q) (by decide)) (fun q => absurd (e_1_13.symm.trans q) (by decide)) (fun q => absurd (e_1_13.symm.trans q) (by decide)) (fun q => absurd (e_1_13.symm.trans q) (by decide)) (fun q => absurd (e_1_13.symm.trans q) (by decide)) (fun q => absurd (e_1_13.symm.trans q) (by decide)) (fun q => absurd (e_1_13.symm.trans q) (by decide)) (fun _ => rfl) (fun q => absurd (e_1_13.symm.trans q) (by decide)) (fun q => absurd q (by rw [e_1_13]; decide)))⟩
  by_cases e_1_14 : y = (14 : Int32)
  · rw [e_1_14]
    refine Vw.tsIn (n := 183) hts_1 (by decide) (by decide) rfl rfl ?_
    refine Vw.aload_n (de_aload_0 (B 183 _ rfl)) 0 rfl (n := 184) rfl ?_
    refine Vw.iconst (v := 2) (de_iconst_2 (B 184 _ rfl)) rfl (n := 185) rfl ?_
    refine Vw.ivi1 (mi' := mX11_termOf) (de_invokevirtual (B 185 _ rfl) (B 186 _ rfl) (B 187 _ rfl)) ml_X11_182 mv_X11_termOf hC.k (Nat.le_of_ble_eq_true rfl) (n := 188) rfl (c_X11_termOf (k := 2) hC hs (by decide) ?_)
    exact Vw.iret (de_ireturn (B 188 _ rfl)) rfl ⟨_, rfl, (h _ (fun q => absurd (e_1_14.symm.trans q) (by decide)) (fun q => absurd (e_1_14.symm.trans q) (by decide)) (fun q => absurd (e_1_14.symm.trans q) (by decide)) (fun q => absurd (e_1_14.symm.trans q) (by decide)) (fun q => absurd (e_1_14.symm.trans q) (by decide)) (fun q => absurd (e_1_14.symm.trans q) (by decide)) (fun q => absurd (e_1_14.symm.trans q) (by decide)) (fun q => absurd (e_1_14.symm.trans q) (by decide)) (fun q => absurd (e_1_14.symm.trans q) (by decide)) (fun q => absurd (e_1_14.symm.trans q) (by decide)) (fun q => absurd (e_1_14.symm.trans q) (by decide)) (fun q => absurd (e_1_14.symm.trans q) (by decide)) (fun q => absurd (e_1_14.symm.trans q) (by decide)) (fun q => absurd (e_1_14.symm.trans q) (by decide)) (fun _ => rfl) (fun q => absurd q (by rw [e_1_14]; decide)))⟩
  refine Vw.tsOut (n := 189) hts_1 (by have q0 := ne_ti e_1_0 0 rfl ; have q1 := ne_ti e_1_1 1 rfl ; have q2 := ne_ti e_1_2 2 rfl ; have q3 := ne_ti e_1_3 3 rfl ; have q4 := ne_ti e_1_4 4 rfl ; have q5 := ne_ti e_1_5 5 rfl ; have q6 := ne_ti e_1_6 6 rfl ; have q7 := ne_ti e_1_7 7 rfl ; have q8 := ne_ti e_1_8 8 rfl ; have q9 := ne_ti e_1_9 9 rfl ; have q10 := ne_ti e_1_10 10 rfl ; have q11 := ne_ti e_1_11 11 rfl ; have q12 := ne_ti e_1_12 12 rfl ; have q13 := ne_ti e_1_13 13 rfl ; have q14 := ne_ti e_1_14 14 rfl; omega) rfl ?_
  refine Vw.iconst (v := -1) (de_iconst_m1 (B 189 _ rfl)) rfl (n := 190) rfl ?_
  exact Vw.iret (de_ireturn (B 190 _ rfl)) rfl ⟨_, rfl, (h _ (fun q => absurd q e_1_0) (fun q => absurd q e_1_1) (fun q => absurd q e_1_2) (fun q => absurd q e_1_3) (fun q => absurd q e_1_4) (fun q => absurd q e_1_5) (fun q => absurd q e_1_6) (fun q => absurd q e_1_7) (fun q => absurd q e_1_8) (fun q => absurd q e_1_9) (fun q => absurd q e_1_10) (fun q => absurd q e_1_11) (fun q => absurd q e_1_12) (fun q => absurd q e_1_13) (fun q => absurd q e_1_14) (fun _ => rfl))⟩
theorem pr_count {S : vS} {I : vI} {L : vL} {x r lb : Nat} {y : Int32} (hR : REL S I x r lb) : PR mX11_count mX12_count 0 0 [.int y] x r lb S I L := by
  intro d Q h
  obtain ⟨l, np, nc, ns, nl, hCP, hL, h32, hWd, hSP⟩ := hR
  have hR : REL S I x r lb := ⟨l, np, nc, ns, nl, hCP, hL, h32, hWd, hSP⟩
  have hs := hCP.1
  have hH := hCP.2.1
  have hN := hs.tn
  obtain ⟨hC, hM, hst, er, el, hl2⟩ := id hSP
  refine k_count hC hs hH (by omega) (fun v a0 a1 a2 a3 a4 a5 a6 a7 a8 a9 a10 a11 a12 a13 a14 a15 => h v S I L (fun _ _ => rfl) (fun d2 Q2 g => ?_))
  refine c_X12_count (d := d2 + 59) hM (fun v2 b0 b1 b2 b3 b4 b5 b6 b7 b8 b9 b10 b11 b12 b13 b14 b15 => ?_)
  obtain ⟨-, -, -, ⟨n, -, hn1, hn2⟩, -, -, -, -, -, hrf, -⟩ := id hCP
  have ev : v2 = v := by
    by_cases z : y.toInt < 0 ∨ 14 < y.toInt
    · rw [a15 z, b15 z]
    · obtain ⟨j, j1, j2⟩ := nI_ex (x := y) (n := 15) (by omega) (by omega)
      rcases (show j = 0 ∨ j = 1 ∨ j = 2 ∨ j = 3 ∨ j = 4 ∨ j = 5 ∨ j = 6 ∨ j = 7 ∨ j = 8 ∨ j = 9 ∨ j = 10 ∨ j = 11 ∨ j = 12 ∨ j = 13 ∨ j = 14 by omega) with rfl | rfl | rfl | rfl | rfl | rfl | rfl | rfl | rfl | rfl | rfl | rfl | rfl | rfl | rfl
      · rw [a0 j2, b0 j2]; exact hN.2.2.1
      · rw [a1 j2, b1 j2]; exact hN.2.2.2.1
      · rw [a2 j2, b2 j2]; exact hs.n143
      · rw [a3 j2, b3 j2]; exact hs.lw.2.2.1
      · rw [a4 j2, b4 j2]; exact h32
      · rw [a5 j2, b5 j2, hn2]; exact hn1
      · rw [a6 j2, b6 j2]; exact (hrf 1 (by decide)).symm
      · rw [a7 j2, b7 j2]; exact (hrf 2 (by decide)).symm
      · rw [a8 j2, b8 j2]; exact (hrf 3 (by decide)).symm
      · rw [a9 j2, b9 j2]; exact (hrf 5 (by decide)).symm
      · rw [a10 j2, b10 j2]; exact (hrf 6 (by decide)).symm
      · rw [a11 j2, b11 j2]
      · rw [a12 j2, b12 j2]
      · rw [a13 j2, b13 j2]
      · rw [a14 j2, b14 j2]
  rw [ev]
  exact g _ _ hR (fun _ _ => rfl)
