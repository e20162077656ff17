/-! Questions of the class, on-/
theorem q_will {d : Nat} {S : vS} {I : vI} {L : vL} {Q : Int32 → vS → vI → vL → Prop} {x lb np nc ns nl : Nat} {K : Nat → Int32} {W : tW} {p n y : Int32}  (hC : ClsS S x) (hs : STR S I (x + 1) lb K np nc ns nl) (hW : WC S I (x + 1) lb W) (hlb : x + 942 ≤ lb)  (h : ∀ I2 M, FS x I I2 → Q (willP W K np p n y) S I2 M) : Vc mX11_will (d + 80) 0 0 [.ref x, .int p, .int n, .int y] S I L (ViQ Q) := by
  refine Vc.of rfl (Nat.le_of_ble_eq_true rfl) ?_
  have B := bs_X11_will
  show Vw mX11_will (d + 80) 0 0 0 0 (ViQ Q) 0 [(0, .ref x), (1, .int p), (2, .int n), (3, .int y)] [] S I L
  have hT := hC.p0.p0
  have hR := hC.p1
  have hp := hC.p3
  have hN := hs.tn
  have h8 := hN.1
  have h10 := hN.2.1
  have hK := hs.tr
  refine Vw.aload_n (de_aload_0 (B 0 _ rfl)) 0 rfl (n := 1) rfl ?_
  refine Vw.getR (de_getfield (B 1 _ rfl) (B 2 _ rfl) (B 3 _ rfl)) fl_X11_12 rfl hC.k hC.f0 (n := 4) rfl ?_
  refine Vw.getR (de_getfield (B 4 _ rfl) (B 5 _ rfl) (B 6 _ rfl)) fl_X11_104 rfl hC.p0.k hC.p0.f0 (n := 7) rfl ?_
  refine Vw.iload_n (de_iload_1 (B 7 _ rfl)) 1 rfl (n := 8) rfl ?_
  refine Vw.ivi1 (mi' := mX9_hasPerson) (de_invokevirtual (B 8 _ rfl) (B 9 _ rfl) (B 10 _ rfl)) ml_X11_120 mv_X9_hasPerson hC.p0.p0.k (Nat.le_of_ble_eq_true rfl) (n := 11) rfl (c_X9_hasPerson hT hK.1 (by omega) ?_)
  refine Vw.if_eq (tgt := 24) (n := 14) (de_if_eq (B 11 _ rfl) (B 12 _ rfl) (B 13 _ rfl)) rfl rfl (fun c_11 => ?_) (fun c_11 => ?_)
  · refine Vw.iconst (v := -1) (de_iconst_m1 (B 24 _ rfl)) rfl (n := 25) rfl ?_
    exact Vw.iret (de_ireturn (B 25 _ rfl)) rfl ⟨_, rfl, (by first | exact qv (willP_n (Or.inl c_11)) (h I L FS.rfl) | exact qv (willP_n (Or.inr (Or.inl c_21))) (h I L FS.rfl))⟩
  refine Vw.iload_n (de_iload_2 (B 14 _ rfl)) 2 rfl (n := 15) rfl ?_
  refine Vw.iconst (v := 0) (de_iconst_0 (B 15 _ rfl)) rfl (n := 16) rfl ?_
  refine Vw.bipush (v := 80) (de_bipush (B 16 _ rfl) (B 17 _ rfl)) rfl (n := 18) rfl ?_
  refine Vw.isi3 (mi' := mX11_isWithin) (de_invokestatic (B 18 _ rfl) (B 19 _ rfl) (B 20 _ rfl)) ml_X11_165 ms_X11_isWithin (Nat.le_of_ble_eq_true rfl) (n := 21) rfl (c_X11_isWithin ?_)
  refine Vw.if_ne (tgt := 26) (n := 24) (de_if_ne (B 21 _ rfl) (B 22 _ rfl) (B 23 _ rfl)) rfl rfl (fun c_21 => ?_) (fun c_21 => ?_)
  · obtain ⟨q, hq, rfl⟩ := lie_ex (n := np) (by omega) c_11
    obtain ⟨m, hm, rfl⟩ := lie_n (N := 80) (by decide) c_21
    refine Vw.iload_n (de_iload_3 (B 26 _ rfl)) 3 rfl (n := 27) rfl ?_
    refine Vw.iconst (v := 0) (de_iconst_0 (B 27 _ rfl)) rfl (n := 28) rfl ?_
    refine Vw.iconst (v := 2) (de_iconst_2 (B 28 _ rfl)) rfl (n := 29) rfl ?_
    refine Vw.isi3 (mi' := mX11_isWithin) (de_invokestatic (B 29 _ rfl) (B 30 _ rfl) (B 31 _ rfl)) ml_X11_165 ms_X11_isWithin (Nat.le_of_ble_eq_true rfl) (n := 32) rfl (c_X11_isWithin ?_)
    refine Vw.if_ne (tgt := 37) (n := 35) (de_if_ne (B 32 _ rfl) (B 33 _ rfl) (B 34 _ rfl)) rfl rfl (fun c_32 => ?_) (fun c_32 => ?_)
    · refine Vw.aload_n (de_aload_0 (B 37 _ rfl)) 0 rfl (n := 38) rfl ?_
      refine Vw.getR (de_getfield (B 38 _ rfl) (B 39 _ rfl) (B 40 _ rfl)) fl_X11_37 rfl hC.k hC.f3 (n := 41) rfl ?_
      refine Vw.iload_n (de_iload_1 (B 41 _ rfl)) 1 rfl (n := 42) rfl ?_
      refine Vw.iload_n (de_iload_2 (B 42 _ rfl)) 2 rfl (n := 43) rfl ?_
      refine Vw.ivv2 (mi' := mX4_walk) (de_invokevirtual (B 43 _ rfl) (B 44 _ rfl) (B 45 _ rfl)) ml_X11_332 mv_X4_walk hC.p3.k (Nat.le_of_ble_eq_true rfl) (n := 46) rfl (c_X4_walk (s := x + 1) hp hK hN hW (by omega) hq hm (fun I2 M f2 m2 p2 o2 => ?_))
      refine Vw.iload_n (de_iload_3 (B 46 _ rfl)) 3 rfl (n := 47) rfl ?_
      refine Vw.if_ne (tgt := 62) (n := 50) (de_if_ne (B 47 _ rfl) (B 48 _ rfl) (B 49 _ rfl)) rfl rfl (fun c_47 => ?_) (fun c_47 => ?_)
      · refine Vw.iload_n (de_iload_3 (B 62 _ rfl)) 3 rfl (n := 63) rfl ?_
        refine Vw.iconst (v := 1) (de_iconst_1 (B 63 _ rfl)) rfl (n := 64) rfl ?_
        refine Vw.icmp_ne (tgt := 79) (n := 67) (de_icmp_ne (B 64 _ rfl) (B 65 _ rfl) (B 66 _ rfl)) rfl rfl (fun c_64 => ?_) (fun c_64 => ?_)
        · refine Vw.aload_n (de_aload_0 (B 79 _ rfl)) 0 rfl (n := 80) rfl ?_
          refine Vw.getR (de_getfield (B 80 _ rfl) (B 81 _ rfl) (B 82 _ rfl)) fl_X11_37 rfl hC.k hC.f3 (n := 83) rfl ?_
          refine Vw.getR (de_getfield (B 83 _ rfl) (B 84 _ rfl) (B 85 _ rfl)) fl_X11_342 rfl hC.p3.k hC.p3.f5 (n := 86) rfl ?_
          refine Vw.iload_n (de_iload_2 (B 86 _ rfl)) 2 rfl (n := 87) rfl ?_
          refine Vw.iald (de_iaload (B 87 _ rfl)) hC.p3.r5 (vIx_n (k := m) rfl (by omega)) (n := 88) rfl ?_
          skip
          exact Vw.iret (de_ireturn (B 88 _ rfl)) rfl ⟨_, rfl, (by
    have e := h I2 M f2.fs
    rw [willP_y (by omega) hm c_11 c_21 c_32] at e
    first
    | (rw [if_pos c_47] at e; exact e)
    | (rw [if_neg c_47, if_pos c_64] at e; exact e)
    | (rw [if_neg c_47, if_neg c_64] at e; rw [show I2 (x + 34 + 4) m = _ from (p2 m (Nat.le_refl _)).2.2]; exact e))⟩
        refine Vw.aload_n (de_aload_0 (B 67 _ rfl)) 0 rfl (n := 68) rfl ?_
        refine Vw.getR (de_getfield (B 68 _ rfl) (B 69 _ rfl) (B 70 _ rfl)) fl_X11_37 rfl hC.k hC.f3 (n := 71) rfl ?_
        refine Vw.getR (de_getfield (B 71 _ rfl) (B 72 _ rfl) (B 73 _ rfl)) fl_X11_339 rfl hC.p3.k hC.p3.f4 (n := 74) rfl ?_
        refine Vw.iload_n (de_iload_2 (B 74 _ rfl)) 2 rfl (n := 75) rfl ?_
        refine Vw.iald (de_iaload (B 75 _ rfl)) hC.p3.r4 (vIx_n (k := m) rfl (by omega)) (n := 76) rfl ?_
        rw [show I2 (x + 34 + 3) m = _ from (p2 m (Nat.le_refl _)).2.1]
        refine Vw.goto_ (n := 88) (de_goto_ (B 76 _ rfl) (B 77 _ rfl) (B 78 _ rfl)) rfl ?_
        skip
        exact Vw.iret (de_ireturn (B 88 _ rfl)) rfl ⟨_, rfl, (by
    have e := h I2 M f2.fs
    rw [willP_y (by omega) hm c_11 c_21 c_32] at e
    first
    | (rw [if_pos c_47] at e; exact e)
    | (rw [if_neg c_47, if_pos c_64] at e; exact e)
    | (rw [if_neg c_47, if_neg c_64] at e; rw [show I2 (x + 34 + 4) m = _ from (p2 m (Nat.le_refl _)).2.2]; exact e))⟩
      refine Vw.aload_n (de_aload_0 (B 50 _ rfl)) 0 rfl (n := 51) rfl ?_
      refine Vw.getR (de_getfield (B 51 _ rfl) (B 52 _ rfl) (B 53 _ rfl)) fl_X11_37 rfl hC.k hC.f3 (n := 54) rfl ?_
      refine Vw.getR (de_getfield (B 54 _ rfl) (B 55 _ rfl) (B 56 _ rfl)) fl_X11_336 rfl hC.p3.k hC.p3.f3 (n := 57) rfl ?_
      refine Vw.iload_n (de_iload_2 (B 57 _ rfl)) 2 rfl (n := 58) rfl ?_
      refine Vw.iald (de_iaload (B 58 _ rfl)) hC.p3.r3 (vIx_n (k := m) rfl (by omega)) (n := 59) rfl ?_
      rw [show I2 (x + 34 + 2) m = _ from (p2 m (Nat.le_refl _)).1]
      refine Vw.goto_ (n := 88) (de_goto_ (B 59 _ rfl) (B 60 _ rfl) (B 61 _ rfl)) rfl ?_
      skip
      exact Vw.iret (de_ireturn (B 88 _ rfl)) rfl ⟨_, rfl, (by
    have e := h I2 M f2.fs
    rw [willP_y (by omega) hm c_11 c_21 c_32] at e
    first
    | (rw [if_pos c_47] at e; exact e)
    | (rw [if_neg c_47, if_pos c_64] at e; exact e)
    | (rw [if_neg c_47, if_neg c_64] at e; rw [show I2 (x + 34 + 4) m = _ from (p2 m (Nat.le_refl _)).2.2]; exact e))⟩
    refine Vw.iconst (v := -1) (de_iconst_m1 (B 35 _ rfl)) rfl (n := 36) rfl ?_
    exact Vw.iret (de_ireturn (B 36 _ rfl)) rfl ⟨_, rfl, (qv (willP_n (Or.inr (Or.inr c_32))) (h I L FS.rfl))⟩
  refine Vw.iconst (v := -1) (de_iconst_m1 (B 24 _ rfl)) rfl (n := 25) rfl ?_
  exact Vw.iret (de_ireturn (B 25 _ rfl)) rfl ⟨_, rfl, (by first | exact qv (willP_n (Or.inl c_11)) (h I L FS.rfl) | exact qv (willP_n (Or.inr (Or.inl c_21))) (h I L FS.rfl))⟩
theorem q_due {d : Nat} {S : vS} {I : vI} {L : vL} {Q : Int32 → vS → vI → vL → Prop} {x lb np nc ns nl : Nat} {K : Nat → Int32} {W : tW} {ci : Int32}  (hC : ClsS S x) (hs : STR S I (x + 1) lb K np nc ns nl) (hW : WC S I (x + 1) lb W) (hlb : x + 942 ≤ lb)  (h : ∀ I2 M, FS x I I2 → Q (dueC W K nc ci) S I2 M) : Vc mX11_due (d + 80) 0 0 [.ref x, .int ci] S I L (ViQ Q) := by
  refine Vc.of rfl (Nat.le_of_ble_eq_true rfl) ?_
  have B := bs_X11_due
  show Vw mX11_due (d + 80) 0 0 0 0 (ViQ Q) 0 [(0, .ref x), (1, .int ci)] [] S I L
  have hT := hC.p0.p0
  have hR := hC.p1
  have hp := hC.p3
  have hN := hs.tn
  have h8 := hN.1
  have h10 := hN.2.1
  have hK := hs.tr
  refine Vw.aload_n (de_aload_0 (B 0 _ rfl)) 0 rfl (n := 1) rfl ?_
  refine Vw.getR (de_getfield (B 1 _ rfl) (B 2 _ rfl) (B 3 _ rfl)) fl_X11_12 rfl hC.k hC.f0 (n := 4) rfl ?_
  refine Vw.getR (de_getfield (B 4 _ rfl) (B 5 _ rfl) (B 6 _ rfl)) fl_X11_104 rfl hC.p0.k hC.p0.f0 (n := 7) rfl ?_
  refine Vw.astore_n (lv2 := [(0, _), (1, _), (2, _)]) (de_astore_2 (B 7 _ rfl)) rfl (by decide) [1, 2, 0] rfl (n := 8) rfl ?_
  refine Vw.aload_n (de_aload_2 (B 8 _ rfl)) 2 rfl (n := 9) rfl ?_
  refine Vw.iload_n (de_iload_1 (B 9 _ rfl)) 1 rfl (n := 10) rfl ?_
  refine Vw.ivi1 (mi' := mX9_hasCoat) (de_invokevirtual (B 10 _ rfl) (B 11 _ rfl) (B 12 _ rfl)) ml_X11_287 mv_X9_hasCoat hC.p0.p0.k (Nat.le_of_ble_eq_true rfl) (n := 13) rfl (c_X9_hasCoat hT hK.2.1 (by omega) ?_)
  refine Vw.if_eq (tgt := 29) (n := 16) (de_if_eq (B 13 _ rfl) (B 14 _ rfl) (B 15 _ rfl)) rfl rfl (fun c_13 => ?_) (fun c_13 => ?_)
  · refine Vw.iconst (v := -1) (de_iconst_m1 (B 29 _ rfl)) rfl (n := 30) rfl ?_
    exact Vw.iret (de_ireturn (B 30 _ rfl)) rfl ⟨_, rfl, (by first | exact qv (dueC_n (Or.inl c_13)) (h I L FS.rfl) | exact qv (dueC_n (Or.inr (by rw [nI_cl (by omega)]; exact c_26))) (h I L FS.rfl))⟩
  obtain ⟨c, hc, rfl⟩ := lie_ex (n := nc) (by omega) c_13
  refine Vw.aload_n (de_aload_2 (B 16 _ rfl)) 2 rfl (n := 17) rfl ?_
  refine Vw.getR (de_getfield (B 17 _ rfl) (B 18 _ rfl) (B 19 _ rfl)) fl_X11_277 rfl hC.p0.p0.k hC.p0.p0.f1 (n := 20) rfl ?_
  refine Vw.iload_n (de_iload_1 (B 20 _ rfl)) 1 rfl (n := 21) rfl ?_
  refine Vw.aald0 (b := 0) (de_aaload (B 21 _ rfl)) hC.p0.p0.r1 (vIx_n (k := c) rfl (by omega)) (hT.cr (show c < 10 by omega)) (n := 22) rfl ?_
  refine Vw.getI (de_getfield (B 22 _ rfl) (B 23 _ rfl) (B 24 _ rfl)) fl_X11_298 rfl (hT.ck (show c < 10 by omega)) (n := 25) rfl ?_
  rw [hK.co hc (by decide)]
  refine Vw.iconst (v := -1) (de_iconst_m1 (B 25 _ rfl)) rfl (n := 26) rfl ?_
  refine Vw.icmp_ne (tgt := 31) (n := 29) (de_icmp_ne (B 26 _ rfl) (B 27 _ rfl) (B 28 _ rfl)) rfl rfl (fun c_26 => ?_) (fun c_26 => ?_)
  · obtain ⟨q, hq, hw⟩ := (hN.2.2.2.2 c hc).2.2.resolve_left c_26
    refine Vw.aload_n (de_aload_2 (B 31 _ rfl)) 2 rfl (n := 32) rfl ?_
    refine Vw.getR (de_getfield (B 32 _ rfl) (B 33 _ rfl) (B 34 _ rfl)) fl_X11_277 rfl hC.p0.p0.k hC.p0.p0.f1 (n := 35) rfl ?_
    refine Vw.iload_n (de_iload_1 (B 35 _ rfl)) 1 rfl (n := 36) rfl ?_
    refine Vw.aald0 (b := 0) (de_aaload (B 36 _ rfl)) hC.p0.p0.r1 (vIx_n (k := c) rfl (by omega)) (hT.cr (show c < 10 by omega)) (n := 37) rfl ?_
    refine Vw.astore_n (lv2 := [(0, _), (1, _), (2, _), (3, _)]) (de_astore_3 (B 37 _ rfl)) rfl (by decide) [1, 2, 3, 0] rfl (n := 38) rfl ?_
    refine Vw.aload_n (de_aload_0 (B 38 _ rfl)) 0 rfl (n := 39) rfl ?_
    refine Vw.getR (de_getfield (B 39 _ rfl) (B 40 _ rfl) (B 41 _ rfl)) fl_X11_37 rfl hC.k hC.f3 (n := 42) rfl ?_
    refine Vw.aload_n (de_aload_3 (B 42 _ rfl)) 3 rfl (n := 43) rfl ?_
    refine Vw.getI (de_getfield (B 43 _ rfl) (B 44 _ rfl) (B 45 _ rfl)) fl_X11_298 rfl (hT.ck (show c < 10 by omega)) (n := 46) rfl ?_
    rw [hK.co hc (by decide), hw]
    refine Vw.bipush (v := 80) (de_bipush (B 46 _ rfl) (B 47 _ rfl)) rfl (n := 48) rfl ?_
    refine Vw.ivv2 (mi' := mX4_walk) (de_invokevirtual (B 48 _ rfl) (B 49 _ rfl) (B 50 _ rfl)) ml_X11_332 mv_X4_walk hC.p3.k (Nat.le_of_ble_eq_true rfl) (n := 51) rfl (c_X4_walk (s := x + 1) (n := 80) hp hK hN hW (by omega) hq (by decide) (fun I2 M f2 m2 p2 o2 => ?_))
    have k2 := f2.tr hK h8 h10
    refine Vw.aload_n (de_aload_0 (B 51 _ rfl)) 0 rfl (n := 52) rfl ?_
    refine Vw.getR (de_getfield (B 52 _ rfl) (B 53 _ rfl) (B 54 _ rfl)) fl_X11_37 rfl hC.k hC.f3 (n := 55) rfl ?_
    refine Vw.aload_n (de_aload_3 (B 55 _ rfl)) 3 rfl (n := 56) rfl ?_
    refine Vw.getI (de_getfield (B 56 _ rfl) (B 57 _ rfl) (B 58 _ rfl)) fl_X11_290 rfl (hT.ck (show c < 10 by omega)) (n := 59) rfl ?_
    rw [k2.co0 hc]
    refine Vw.aload_n (de_aload_3 (B 59 _ rfl)) 3 rfl (n := 60) rfl ?_
    refine Vw.getI (de_getfield (B 60 _ rfl) (B 61 _ rfl) (B 62 _ rfl)) fl_X11_291 rfl (hT.ck (show c < 10 by omega)) (n := 63) rfl ?_
    rw [k2.co hc (by decide)]
    refine Vw.bipush (v := 80) (de_bipush (B 63 _ rfl) (B 64 _ rfl)) rfl (n := 65) rfl ?_
    refine Vw.ivi3 (mi' := mX4_firstTooSmall) (de_invokevirtual (B 65 _ rfl) (B 66 _ rfl) (B 67 _ rfl)) ml_X11_345 mv_X4_firstTooSmall hC.p3.k (Nat.le_of_ble_eq_true rfl) (n := 68) rfl (c_X4_firstTooSmall (s := x + 1) (n := 80) (n2 := 80) hp p2 (by decide) (by decide) ?_)
    exact Vw.iret (de_ireturn (B 68 _ rfl)) rfl ⟨_, rfl, (qv (dueC_y (by omega) (by omega) c_13 c_26 hw) (h I2 M f2.fs))⟩
  refine Vw.iconst (v := -1) (de_iconst_m1 (B 29 _ rfl)) rfl (n := 30) rfl ?_
  exact Vw.iret (de_ireturn (B 30 _ rfl)) rfl ⟨_, rfl, (by first | exact qv (dueC_n (Or.inl c_13)) (h I L FS.rfl) | exact qv (dueC_n (Or.inr (by rw [nI_cl (by omega)]; exact c_26))) (h I L FS.rfl))⟩
theorem get_q {W : tW} {K : Nat → Int32} {t : Int32} {n nc c : Nat} {v : Nat → Int32} : ∀ {np : Nat}, (∀ q, q < np → v q = 0) → True := fun _ => trivial
/-- what one coat brings, if it falls due by n -/
def fal1 (W : tW) (K : Nat → Int32) (t : Int32) (n c : Nat) : Int32 := if K (32 + 8 * c + 4) = -1 then 0 else (if dueK W K c n = -1 then 0 else shareT t (K (32 + 8 * c + 2)) (K (32 + 8 * c + 3)) (payP W (K (32 + 8 * c + 4)) (K (32 + 8 * c + 2)) (K (32 + 8 * c)) (K (32 + 8 * c + 1)) (K 121 + dueK W K c n) (walkP W (K (32 + 8 * c + 4)) (K 121) (perP K (wrN K c)) (dueK W K c n).toNatClampNeg)))
def falS (f : Nat → Int32) : Nat → Int32
  | 0 => 0
  | c + 1 => falS f c + f c
theorem falS_c {f g : Nat → Int32} : ∀ {n : Nat}, (∀ c, c < n → f c = g c) → falS f n = falS g n
  | 0, _ => rfl
  | n + 1, h => by rw [falS, falS, falS_c (fun c hc => h c (by omega)), h n (by omega)]
theorem falS_0 {f : Nat → Int32} : ∀ {n : Nat}, (∀ c, c < n → f c = 0) → falS f n = 0
  | 0, _ => rfl
  | n + 1, h => by rw [falS, falS_0 (fun c hc => h c (by omega)), h n (by omega)]; rfl
theorem falS_a {f g : Nat → Int32} : ∀ {n : Nat}, falS (fun c => f c + g c) n = falS f n + falS g n
  | 0 => rfl
  | n + 1 => by rw [falS, falS, falS, falS_a (n := n), Int32.add_assoc, Int32.add_assoc]; congr 1; rw [← Int32.add_assoc, Int32.add_comm (falS g n) (f n), Int32.add_assoc]
theorem fallK_S {W : tW} {K : Nat → Int32} {t : Int32} {n : Nat} : ∀ {nc : Nat}, fallK W K t n nc = falS (fal1 W K t n) nc
  | 0 => rfl
  | c + 1 => by
    rw [fallK, falS, fallK_S (nc := c)]
    unfold fal1
    by_cases h : K (32 + 8 * c + 4) = -1
    · rw [if_pos h, if_pos h, Int32.add_zero]
    · rw [if_neg h, if_neg h]
theorem byK_S {W : tW} {K : Nat → Int32} {t : Int32} {n q : Nat} (hq : q < 8) : ∀ {nc : Nat}, byK W K t n q nc = falS (fun c => if K (32 + 8 * c + 4) = nI q then fal1 W K t n c else 0) nc
  | 0 => rfl
  | c + 1 => by
    rw [byK, falS, byK_S hq (nc := c)]
    congr 1
    by_cases h : K (32 + 8 * c + 4) = nI q
    · have nm : ¬ K (32 + 8 * c + 4) = -1 := by rw [h]; exact nI_m1 (by omega)
      have ed : dueK W K c n = dueQ W K q c n := dueK_q hq h
      rw [if_pos h]
      unfold fal1
      rw [if_neg nm, ed]
      by_cases h2 : dueQ W K q c n = -1
      · rw [if_neg (fun z => z.2 h2), if_pos h2]
      · rw [if_pos ⟨h, h2⟩, if_neg h2]
        unfold wrN
        rw [h, nI_cl (by omega)]
    · rw [if_neg (fun z => h z.1), if_neg h]
theorem wornK_0 {K : Nat → Int32} {q : Int32} : ∀ {nc : Nat}, nc ≤ 10 → ∃ v, v ≤ nc ∧ wornK K q nc = nI v ∧ (v = 0 → ∀ c, c < nc → ¬ K (32 + 8 * c + 4) = q)
  | 0, _ => ⟨0, Nat.le_refl _, rfl, fun _ c hc => absurd hc (Nat.not_lt_zero _)⟩
  | n + 1, h => by
    obtain ⟨v, v1, v2, v3⟩ := wornK_0 (K := K) (q := q) (nc := n) (by omega)
    rw [wornK, v2]
    by_cases z : K (32 + 8 * n + 4) = q
    · rw [if_pos z]; exact ⟨v + 1, by omega, nI_1 v, fun y => absurd y (by omega)⟩
    · rw [if_neg z, Int32.add_zero]
      refine ⟨v, by omega, rfl, fun y c hc => ?_⟩
      rcases (show c = n ∨ c < n by omega) with rfl | q2
      · exact z
      · exact v3 y c q2
theorem getK_S {W : tW} {K : Nat → Int32} {t : Int32} {n nc : Nat} (h10 : nc ≤ 10) : ∀ {np : Nat}, np ≤ 8 → getK W K t n nc np = falS (fun q => falS (fun c => if K (32 + 8 * c + 4) = nI q then fal1 W K t n c else 0) nc) np
  | 0, _ => rfl
  | q + 1, h => by
    rw [getK, falS, getK_S h10 (np := q) (by omega)]
    congr 1
    obtain ⟨v, v1, v2, v3⟩ := wornK_0 (K := K) (q := nI q) h10
    rw [v2]
    rcases Nat.eq_zero_or_pos v with z | z
    · rw [z, if_neg (by decide), falS_0 (fun c hc => if_neg (v3 z c hc))]
    · rw [if_pos (i32_lt.mpr (by rw [nI_ti (by omega)]; show (0 : Int) < _; omega)), byK_S (by omega)]
theorem sw_S {g : Nat → Nat → Int32} {m : Nat} : ∀ {n : Nat}, falS (fun q => falS (fun c => g q c) m) n = falS (fun c => falS (fun q => g q c) n) m
  | 0 => (falS_0 (fun c _ => rfl)).symm
  | n + 1 => by
    rw [falS, sw_S (n := n), ← falS_a]
    exact falS_c (fun c _ => rfl)
theorem one_S {p : Int32} {v : Int32} {np : Nat} (h8 : np ≤ 8) : ∀ {n : Nat}, n ≤ np → falS (fun q => if p = nI q then v else 0) n = if (∃ q, q < n ∧ p = nI q) then v else 0
  | 0, _ => by rw [falS, if_neg (fun ⟨q, h, _⟩ => absurd h (Nat.not_lt_zero _))]
  | n + 1, h => by
    rw [falS, one_S h8 (n := n) (by omega)]
    by_cases z : p = nI n
    · rw [if_pos z, if_neg, Int32.zero_add, if_pos ⟨n, by omega, z⟩]
      rintro ⟨q, q1, q2⟩
      rw [z] at q2
      exact absurd (nI_inj (by omega) (by omega) q2) (by omega)
    · rw [if_neg z, Int32.add_zero]
      by_cases y : ∃ q, q < n ∧ p = nI q
      · obtain ⟨q, q1, q2⟩ := y
        rw [if_pos ⟨q, q1, q2⟩, if_pos ⟨q, by omega, q2⟩]
      · rw [if_neg y, if_neg]
        rintro ⟨q, q1, q2⟩
        rcases (show q = n ∨ q < n by omega) with rfl | q3
        · exact z q2
        · exact y ⟨q, q3, q2⟩
theorem getK_fall {W : tW} {K : Nat → Int32} {t : Int32} {n np nc : Nat} (hN : TN K np nc) : getK W K t n nc np = fallK W K t n nc := by
  rw [getK_S hN.2.1 hN.1, fallK_S, sw_S]
  refine falS_c (fun c hc => ?_)
  rw [one_S hN.1 (Nat.le_refl _)]
  rcases (hN.2.2.2.2 c hc).2.2 with z | ⟨q, q1, q2⟩
  · rw [if_neg]
    · unfold fal1; rw [if_pos z]
    · rintro ⟨q, q1, q2⟩
      have := hN.1
      rw [z] at q2
      exact absurd q2.symm (nI_m1 (by omega))
  · rw [if_pos ⟨q, q1, q2⟩]
theorem q_falls {d : Nat} {S : vS} {I : vI} {L : vL} {Q : Int32 → vS → vI → vL → Prop} {x lb np nc ns nl : Nat} {K : Nat → Int32} {W : tW} {t n : Int32}  (hC : ClsS S x) (hs : STR S I (x + 1) lb K np nc ns nl) (hW : WC S I (x + 1) lb W) (hlb : x + 942 ≤ lb)  (h : ∀ I2 M, FS x I I2 → Q (fallsP W K nc t n) S I2 M) : Vc mX11_falls (d + 80) 0 0 [.ref x, .int t, .int n] S I L (ViQ Q) := by
  refine Vc.of rfl (Nat.le_of_ble_eq_true rfl) ?_
  have B := bs_X11_falls
  show Vw mX11_falls (d + 80) 0 0 0 0 (ViQ Q) 0 [(0, .ref x), (1, .int t), (2, .int n)] [] S I L
  have hT := hC.p0.p0
  have hR := hC.p1
  have hp := hC.p3
  have hN := hs.tn
  have h8 := hN.1
  have h10 := hN.2.1
  have hK := hs.tr
  refine Vw.iload_n (de_iload_1 (B 0 _ rfl)) 1 rfl (n := 1) rfl ?_
  refine Vw.isi1 (mi' := mX11_isTailor) (de_invokestatic (B 1 _ rfl) (B 2 _ rfl) (B 3 _ rfl)) ml_X11_162 ms_X11_isTailor (Nat.le_of_ble_eq_true rfl) (n := 4) rfl (c_X11_isTailor ?_)
  refine Vw.if_eq (tgt := 17) (n := 7) (de_if_eq (B 4 _ rfl) (B 5 _ rfl) (B 6 _ rfl)) rfl rfl (fun c_4 => ?_) (fun c_4 => ?_)
  · refine Vw.iconst (v := -1) (de_iconst_m1 (B 17 _ rfl)) rfl (n := 18) rfl ?_
    exact Vw.iret (de_ireturn (B 18 _ rfl)) rfl ⟨_, rfl, (by first | exact qv (by unfold fallsP; rw [if_pos (Or.inl c_4)]) (h I L FS.rfl) | exact qv (by unfold fallsP; rw [if_pos (Or.inr c_14)]) (h I L FS.rfl))⟩
  refine Vw.iload_n (de_iload_2 (B 7 _ rfl)) 2 rfl (n := 8) rfl ?_
  refine Vw.iconst (v := 0) (de_iconst_0 (B 8 _ rfl)) rfl (n := 9) rfl ?_
  refine Vw.bipush (v := 80) (de_bipush (B 9 _ rfl) (B 10 _ rfl)) rfl (n := 11) rfl ?_
  refine Vw.isi3 (mi' := mX11_isWithin) (de_invokestatic (B 11 _ rfl) (B 12 _ rfl) (B 13 _ rfl)) ml_X11_165 ms_X11_isWithin (Nat.le_of_ble_eq_true rfl) (n := 14) rfl (c_X11_isWithin ?_)
  refine Vw.if_ne (tgt := 19) (n := 17) (de_if_ne (B 14 _ rfl) (B 15 _ rfl) (B 16 _ rfl)) rfl rfl (fun c_14 => ?_) (fun c_14 => ?_)
  · obtain ⟨m, hm, rfl⟩ := lie_n (N := 80) (by decide) c_14
    refine Vw.aload_n (de_aload_0 (B 19 _ rfl)) 0 rfl (n := 20) rfl ?_
    refine Vw.getR (de_getfield (B 20 _ rfl) (B 21 _ rfl) (B 22 _ rfl)) fl_X11_37 rfl hC.k hC.f3 (n := 23) rfl ?_
    refine Vw.iload_n (de_iload_1 (B 23 _ rfl)) 1 rfl (n := 24) rfl ?_
    refine Vw.iload_n (de_iload_2 (B 24 _ rfl)) 2 rfl (n := 25) rfl ?_
    refine Vw.ivi2 (mi' := mX4_willGet) (de_invokevirtual (B 25 _ rfl) (B 26 _ rfl) (B 27 _ rfl)) ml_X11_348 mv_X4_willGet hC.p3.k (Nat.le_of_ble_eq_true rfl) (n := 28) rfl (c_X4_willGet (s := x + 1) hp hK hN hW (by omega) hm (fun I2 M f2 m2 => ?_))
    exact Vw.iret (de_ireturn (B 28 _ rfl)) rfl ⟨_, rfl, (qv (by unfold fallsP; rw [if_neg (fun z => z.elim c_4 c_14), nI_cl (by omega), ← getK_fall hN]) (h I2 M f2.fs))⟩
  refine Vw.iconst (v := -1) (de_iconst_m1 (B 17 _ rfl)) rfl (n := 18) rfl ?_
  exact Vw.iret (de_ireturn (B 18 _ rfl)) rfl ⟨_, rfl, (by first | exact qv (by unfold fallsP; rw [if_pos (Or.inl c_4)]) (h I L FS.rfl) | exact qv (by unfold fallsP; rw [if_pos (Or.inr c_14)]) (h I L FS.rfl))⟩
theorem q_fed {d : Nat} {S : vS} {I : vI} {L : vL} {Q : Int32 → vS → vI → vL → Prop} {x lb np nc ns nl : Nat} {K : Nat → Int32} {W : tW} {p n y : Int32}  (hC : ClsS S x) (hs : STR S I (x + 1) lb K np nc ns nl) (hW : WC S I (x + 1) lb W) (hlb : x + 942 ≤ lb)  (h : ∀ I2 M, FS x I I2 → Q (fedP W K np p n y) S I2 M) : Vc mX11_fed (d + 80) 0 0 [.ref x, .int p, .int n, .int y] S I L (ViQ Q) := by
  refine Vc.of rfl (Nat.le_of_ble_eq_true rfl) ?_
  have B := bs_X11_fed
  show Vw mX11_fed (d + 80) 0 0 0 0 (ViQ Q) 0 [(0, .ref x), (1, .int p), (2, .int n), (3, .int y)] [] S I L
  have hT := hC.p0.p0
  have hR := hC.p1
  have hp := hC.p3
  have hN := hs.tn
  have h8 := hN.1
  have h10 := hN.2.1
  have hK := hs.tr
  refine Vw.aload_n (de_aload_0 (B 0 _ rfl)) 0 rfl (n := 1) rfl ?_
  refine Vw.getR (de_getfield (B 1 _ rfl) (B 2 _ rfl) (B 3 _ rfl)) fl_X11_12 rfl hC.k hC.f0 (n := 4) rfl ?_
  refine Vw.getR (de_getfield (B 4 _ rfl) (B 5 _ rfl) (B 6 _ rfl)) fl_X11_104 rfl hC.p0.k hC.p0.f0 (n := 7) rfl ?_
  refine Vw.iload_n (de_iload_1 (B 7 _ rfl)) 1 rfl (n := 8) rfl ?_
  refine Vw.ivi1 (mi' := mX9_hasPerson) (de_invokevirtual (B 8 _ rfl) (B 9 _ rfl) (B 10 _ rfl)) ml_X11_120 mv_X9_hasPerson hC.p0.p0.k (Nat.le_of_ble_eq_true rfl) (n := 11) rfl (c_X9_hasPerson hT hK.1 (by omega) ?_)
  refine Vw.if_eq (tgt := 24) (n := 14) (de_if_eq (B 11 _ rfl) (B 12 _ rfl) (B 13 _ rfl)) rfl rfl (fun c_11 => ?_) (fun c_11 => ?_)
  · refine Vw.iconst (v := -1) (de_iconst_m1 (B 24 _ rfl)) rfl (n := 25) rfl ?_
    exact Vw.iret (de_ireturn (B 25 _ rfl)) rfl ⟨_, rfl, (by first | exact qv (by unfold fedP; rw [if_pos (Or.inl c_11)]) (h I L FS.rfl) | exact qv (by unfold fedP; rw [if_pos (Or.inr c_21)]) (h I L FS.rfl))⟩
  refine Vw.iload_n (de_iload_2 (B 14 _ rfl)) 2 rfl (n := 15) rfl ?_
  refine Vw.iconst (v := 0) (de_iconst_0 (B 15 _ rfl)) rfl (n := 16) rfl ?_
  refine Vw.bipush (v := 40) (de_bipush (B 16 _ rfl) (B 17 _ rfl)) rfl (n := 18) rfl ?_
  refine Vw.isi3 (mi' := mX11_isWithin) (de_invokestatic (B 18 _ rfl) (B 19 _ rfl) (B 20 _ rfl)) ml_X11_165 ms_X11_isWithin (Nat.le_of_ble_eq_true rfl) (n := 21) rfl (c_X11_isWithin ?_)
  refine Vw.if_ne (tgt := 26) (n := 24) (de_if_ne (B 21 _ rfl) (B 22 _ rfl) (B 23 _ rfl)) rfl rfl (fun c_21 => ?_) (fun c_21 => ?_)
  · obtain ⟨q, hq, rfl⟩ := lie_ex (n := np) (by omega) c_11
    obtain ⟨m, hm, rfl⟩ := lie_n (N := 40) (by decide) c_21
    refine Vw.aload_n (de_aload_0 (B 26 _ rfl)) 0 rfl (n := 27) rfl ?_
    refine Vw.getR (de_getfield (B 27 _ rfl) (B 28 _ rfl) (B 29 _ rfl)) fl_X11_37 rfl hC.k hC.f3 (n := 30) rfl ?_
    refine Vw.iload_n (de_iload_1 (B 30 _ rfl)) 1 rfl (n := 31) rfl ?_
    refine Vw.iload_n (de_iload_2 (B 31 _ rfl)) 2 rfl (n := 32) rfl ?_
    refine Vw.iload_n (de_iload_3 (B 32 _ rfl)) 3 rfl (n := 33) rfl ?_
    refine Vw.ivi3 (mi' := mX4_foodsThatMake) (de_invokevirtual (B 33 _ rfl) (B 34 _ rfl) (B 35 _ rfl)) ml_X11_385 mv_X4_foodsThatMake hC.p3.k (Nat.le_of_ble_eq_true rfl) (n := 36) rfl (c_X4_foodsThatMake (s := x + 1) hp hK hN hW (by omega) hq hm (fun I2 M f2 m2 => ?_))
    exact Vw.iret (de_ireturn (B 36 _ rfl)) rfl ⟨_, rfl, (qv (by unfold fedP; rw [if_neg (fun z => z.elim c_11 c_21), nI_cl (by omega), nI_cl (by omega)]) (h I2 M f2.fs))⟩
  refine Vw.iconst (v := -1) (de_iconst_m1 (B 24 _ rfl)) rfl (n := 25) rfl ?_
  exact Vw.iret (de_ireturn (B 25 _ rfl)) rfl ⟨_, rfl, (by first | exact qv (by unfold fedP; rw [if_pos (Or.inl c_11)]) (h I L FS.rfl) | exact qv (by unfold fedP; rw [if_pos (Or.inr c_21)]) (h I L FS.rfl))⟩
theorem q_hidden {d : Nat} {S : vS} {I : vI} {L : vL} {Q : Int32 → vS → vI → vL → Prop} {x lb np nc ns nl : Nat} {K : Nat → Int32} {W : tW} {i : Int32}  (hC : ClsS S x) (hs : STR S I (x + 1) lb K np nc ns nl) (hW : WC S I (x + 1) lb W) (hlb : x + 942 ≤ lb)  (h : ∀ I2 M, FS x I I2 → Q (hidP W K np ns i) S I2 M) : Vc mX11_hidden (d + 80) 0 0 [.ref x, .int i] S I L (ViQ Q) := by
  refine Vc.of rfl (Nat.le_of_ble_eq_true rfl) ?_
  have B := bs_X11_hidden
  show Vw mX11_hidden (d + 80) 0 0 0 0 (ViQ Q) 0 [(0, .ref x), (1, .int i)] [] S I L
  have hT := hC.p0.p0
  have hR := hC.p1
  have hp := hC.p3
  have hN := hs.tn
  have h8 := hN.1
  have h10 := hN.2.1
  have hK := hs.tr
  refine Vw.iload_n (de_iload_1 (B 0 _ rfl)) 1 rfl (n := 1) rfl ?_
  refine Vw.iconst (v := -1) (de_iconst_m1 (B 1 _ rfl)) rfl (n := 2) rfl ?_
  refine Vw.icmp_ge (tgt := 7) (n := 5) (de_icmp_ge (B 2 _ rfl) (B 3 _ rfl) (B 4 _ rfl)) rfl rfl (fun c_2 => ?_) (fun c_2 => ?_)
  · refine Vw.aload_n (de_aload_0 (B 7 _ rfl)) 0 rfl (n := 8) rfl ?_
    refine Vw.getR (de_getfield (B 8 _ rfl) (B 9 _ rfl) (B 10 _ rfl)) fl_X11_37 rfl hC.k hC.f3 (n := 11) rfl ?_
    refine Vw.iload_n (de_iload_1 (B 11 _ rfl)) 1 rfl (n := 12) rfl ?_
    refine Vw.ivi1 (mi' := mX4_hiddenFeast) (de_invokevirtual (B 12 _ rfl) (B 13 _ rfl) (B 14 _ rfl)) ml_X11_394 mv_X4_hiddenFeast hC.p3.k (Nat.le_of_ble_eq_true rfl) (n := 15) rfl (c_X4_hiddenFeast (s := x + 1) hp hK hN hW (by omega) hs.sr hs.sb (fun I2 M f2 m2 => ?_))
    exact Vw.iret (de_ireturn (B 15 _ rfl)) rfl ⟨_, rfl, (qv (by unfold hidP; rw [if_pos c_2]) (h I2 M f2.fs))⟩
  refine Vw.iconst (v := -1) (de_iconst_m1 (B 5 _ rfl)) rfl (n := 6) rfl ?_
  exact Vw.iret (de_ireturn (B 6 _ rfl)) rfl ⟨_, rfl, (qv (by unfold hidP; rw [if_neg c_2]) (h I L FS.rfl))⟩
theorem q_game {d : Nat} {S : vS} {I : vI} {L : vL} {Q : Int32 → vS → vI → vL → Prop} {x lb np nc ns nl : Nat} {K : Nat → Int32} {W : tW} {ci n y : Int32}  (hC : ClsS S x) (hs : STR S I (x + 1) lb K np nc ns nl) (hW : WC S I (x + 1) lb W) (hlb : x + 942 ≤ lb)  (h : ∀ I2 M, FS x I I2 → Q (gameP W K nc ci n y) S I2 M) : Vc mX11_game (d + 80) 0 0 [.ref x, .int ci, .int n, .int y] S I L (ViQ Q) := by
  refine Vc.of rfl (Nat.le_of_ble_eq_true rfl) ?_
  have B := bs_X11_game
  show Vw mX11_game (d + 80) 0 0 0 0 (ViQ Q) 0 [(0, .ref x), (1, .int ci), (2, .int n), (3, .int y)] [] S I L
  have hT := hC.p0.p0
  have hR := hC.p1
  have hp := hC.p3
  have hN := hs.tn
  have h8 := hN.1
  have h10 := hN.2.1
  have hK := hs.tr
  refine Vw.aload_n (de_aload_0 (B 0 _ rfl)) 0 rfl (n := 1) rfl ?_
  refine Vw.getR (de_getfield (B 1 _ rfl) (B 2 _ rfl) (B 3 _ rfl)) fl_X11_12 rfl hC.k hC.f0 (n := 4) rfl ?_
  refine Vw.getR (de_getfield (B 4 _ rfl) (B 5 _ rfl) (B 6 _ rfl)) fl_X11_104 rfl hC.p0.k hC.p0.f0 (n := 7) rfl ?_
  refine Vw.astore (lv2 := [(0, _), (1, _), (2, _), (3, _), (4, _)]) (de_astore (B 7 _ rfl) (B 8 _ rfl)) (by decide) [1, 2, 3, 4, 0] rfl (n := 9) rfl ?_
  refine Vw.aload (de_aload (B 9 _ rfl) (B 10 _ rfl)) 4 rfl (n := 11) rfl ?_
  refine Vw.iload_n (de_iload_1 (B 11 _ rfl)) 1 rfl (n := 12) rfl ?_
  refine Vw.ivi1 (mi' := mX9_hasCoat) (de_invokevirtual (B 12 _ rfl) (B 13 _ rfl) (B 14 _ rfl)) ml_X11_287 mv_X9_hasCoat hC.p0.p0.k (Nat.le_of_ble_eq_true rfl) (n := 15) rfl (c_X9_hasCoat hT hK.2.1 (by omega) ?_)
  refine Vw.if_eq (tgt := 37) (n := 18) (de_if_eq (B 15 _ rfl) (B 16 _ rfl) (B 17 _ rfl)) rfl rfl (fun c_15 => ?_) (fun c_15 => ?_)
  · refine Vw.iconst (v := -1) (de_iconst_m1 (B 37 _ rfl)) rfl (n := 38) rfl ?_
    exact Vw.iret (de_ireturn (B 38 _ rfl)) rfl ⟨_, rfl, (by first | exact qv (by unfold gameP; rw [if_pos (Or.inl c_15)]) (h I L FS.rfl) | exact qv (by unfold gameP; rw [if_pos (Or.inr (Or.inr (Or.inl c_25)))]) (h I L FS.rfl) | exact qv (by unfold gameP; rw [if_pos (Or.inr (Or.inr (Or.inr c_34)))]) (h I L FS.rfl))⟩
  refine Vw.iload_n (de_iload_2 (B 18 _ rfl)) 2 rfl (n := 19) rfl ?_
  refine Vw.iconst (v := 1) (de_iconst_1 (B 19 _ rfl)) rfl (n := 20) rfl ?_
  refine Vw.bipush (v := 8) (de_bipush (B 20 _ rfl) (B 21 _ rfl)) rfl (n := 22) rfl ?_
  refine Vw.isi3 (mi' := mX11_isWithin) (de_invokestatic (B 22 _ rfl) (B 23 _ rfl) (B 24 _ rfl)) ml_X11_165 ms_X11_isWithin (Nat.le_of_ble_eq_true rfl) (n := 25) rfl (c_X11_isWithin ?_)
  refine Vw.if_eq (tgt := 37) (n := 28) (de_if_eq (B 25 _ rfl) (B 26 _ rfl) (B 27 _ rfl)) rfl rfl (fun c_25 => ?_) (fun c_25 => ?_)
  · refine Vw.iconst (v := -1) (de_iconst_m1 (B 37 _ rfl)) rfl (n := 38) rfl ?_
    exact Vw.iret (de_ireturn (B 38 _ rfl)) rfl ⟨_, rfl, (by first | exact qv (by unfold gameP; rw [if_pos (Or.inl c_15)]) (h I L FS.rfl) | exact qv (by unfold gameP; rw [if_pos (Or.inr (Or.inr (Or.inl c_25)))]) (h I L FS.rfl) | exact qv (by unfold gameP; rw [if_pos (Or.inr (Or.inr (Or.inr c_34)))]) (h I L FS.rfl))⟩
  refine Vw.iload_n (de_iload_3 (B 28 _ rfl)) 3 rfl (n := 29) rfl ?_
  refine Vw.iconst (v := 0) (de_iconst_0 (B 29 _ rfl)) rfl (n := 30) rfl ?_
  refine Vw.iconst (v := 1) (de_iconst_1 (B 30 _ rfl)) rfl (n := 31) rfl ?_
  refine Vw.isi3 (mi' := mX11_isWithin) (de_invokestatic (B 31 _ rfl) (B 32 _ rfl) (B 33 _ rfl)) ml_X11_165 ms_X11_isWithin (Nat.le_of_ble_eq_true rfl) (n := 34) rfl (c_X11_isWithin ?_)
  refine Vw.if_ne (tgt := 39) (n := 37) (de_if_ne (B 34 _ rfl) (B 35 _ rfl) (B 36 _ rfl)) rfl rfl (fun c_34 => ?_) (fun c_34 => ?_)
  · obtain ⟨c, hc, rfl⟩ := lie_ex (n := nc) (by omega) c_15
    obtain ⟨m, m1, hm, rfl⟩ := lie_m (a := 1) (N := 8) (by decide) (by decide) c_25
    obtain ⟨j, hj, rfl⟩ := lie_n (N := 1) (by decide) c_34
    refine Vw.aload (de_aload (B 39 _ rfl) (B 40 _ rfl)) 4 rfl (n := 41) rfl ?_
    refine Vw.getR (de_getfield (B 41 _ rfl) (B 42 _ rfl) (B 43 _ rfl)) fl_X11_277 rfl hC.p0.p0.k hC.p0.p0.f1 (n := 44) rfl ?_
    refine Vw.iload_n (de_iload_1 (B 44 _ rfl)) 1 rfl (n := 45) rfl ?_
    refine Vw.aald0 (b := 0) (de_aaload (B 45 _ rfl)) hC.p0.p0.r1 (vIx_n (k := c) rfl (by omega)) (hT.cr (show c < 10 by omega)) (n := 46) rfl ?_
    refine Vw.getI (de_getfield (B 46 _ rfl) (B 47 _ rfl) (B 48 _ rfl)) fl_X11_298 rfl (hT.ck (show c < 10 by omega)) (n := 49) rfl ?_
    rw [hK.co hc (by decide)]
    refine Vw.iconst (v := -1) (de_iconst_m1 (B 49 _ rfl)) rfl (n := 50) rfl ?_
    refine Vw.icmp_ne (tgt := 55) (n := 53) (de_icmp_ne (B 50 _ rfl) (B 51 _ rfl) (B 52 _ rfl)) rfl rfl (fun c_50 => ?_) (fun c_50 => ?_)
    · obtain ⟨q, hq, hw⟩ := (hN.2.2.2.2 c hc).2.2.resolve_left c_50
      refine Vw.aload_n (de_aload_0 (B 55 _ rfl)) 0 rfl (n := 56) rfl ?_
      refine Vw.getR (de_getfield (B 56 _ rfl) (B 57 _ rfl) (B 58 _ rfl)) fl_X11_37 rfl hC.k hC.f3 (n := 59) rfl ?_
      refine Vw.aload (de_aload (B 59 _ rfl) (B 60 _ rfl)) 4 rfl (n := 61) rfl ?_
      refine Vw.getR (de_getfield (B 61 _ rfl) (B 62 _ rfl) (B 63 _ rfl)) fl_X11_277 rfl hC.p0.p0.k hC.p0.p0.f1 (n := 64) rfl ?_
      refine Vw.iload_n (de_iload_1 (B 64 _ rfl)) 1 rfl (n := 65) rfl ?_
      refine Vw.aald0 (b := 0) (de_aaload (B 65 _ rfl)) hC.p0.p0.r1 (vIx_n (k := c) rfl (by omega)) (hT.cr (show c < 10 by omega)) (n := 66) rfl ?_
      refine Vw.iload_n (de_iload_2 (B 66 _ rfl)) 2 rfl (n := 67) rfl ?_
      refine Vw.ivi2 (mi' := mX4_playOut) (de_invokevirtual (B 67 _ rfl) (B 68 _ rfl) (B 69 _ rfl)) ml_X11_378 mv_X4_playOut hC.p3.k (Nat.le_of_ble_eq_true rfl) (n := 70) rfl (c_X4_playOut (s := x + 1) hp hK hN hW (by omega) m1 hm hc hq hw (fun I2 M f2 m2 e12 => ?_))
      refine Vw.istore (lv2 := [(0, _), (1, _), (2, _), (3, _), (4, _), (5, _)]) (de_istore (B 70 _ rfl) (B 71 _ rfl)) (by decide) [1, 2, 3, 4, 5, 0] rfl (n := 72) rfl ?_
      refine Vw.iload_n (de_iload_3 (B 72 _ rfl)) 3 rfl (n := 73) rfl ?_
      refine Vw.if_ne (tgt := 81) (n := 76) (de_if_ne (B 73 _ rfl) (B 74 _ rfl) (B 75 _ rfl)) rfl rfl (fun c_73 => ?_) (fun c_73 => ?_)
      · refine Vw.aload_n (de_aload_0 (B 81 _ rfl)) 0 rfl (n := 82) rfl ?_
        refine Vw.getR (de_getfield (B 82 _ rfl) (B 83 _ rfl) (B 84 _ rfl)) fl_X11_37 rfl hC.k hC.f3 (n := 85) rfl ?_
        refine Vw.getI (de_getfield (B 85 _ rfl) (B 86 _ rfl) (B 87 _ rfl)) fl_X11_382 rfl hC.p3.k (n := 88) rfl ?_
        refine Vw.iconst (v := 1) (de_iconst_1 (B 88 _ rfl)) rfl (n := 89) rfl ?_
        refine Vw.iadd (de_iadd (B 89 _ rfl)) (n := 90) rfl ?_
        exact Vw.iret (de_ireturn (B 90 _ rfl)) rfl ⟨_, rfl, (by
    have e := h I2 M f2.fs
    unfold gameP at e
    rw [nI_cl (show c < 2147483648 by omega), if_neg (by rintro (z | z | z | z); exact c_15 z; exact c_50 z; exact c_25 z; exact c_34 z)] at e
    unfold wrN at e
    rw [hw, nI_cl (show q < 2147483648 by omega), nI_cl (show m < 2147483648 by omega)] at e
    first
    | (rw [if_pos c_73] at e; exact e)
    | (rw [if_neg c_73] at e; rw [show I2 (x + 34) 12 = _ from e12, Int32.sub_add_cancel]; exact e))⟩
      refine Vw.iload (de_iload (B 76 _ rfl) (B 77 _ rfl)) 5 rfl (n := 78) rfl ?_
      refine Vw.goto_ (n := 90) (de_goto_ (B 78 _ rfl) (B 79 _ rfl) (B 80 _ rfl)) rfl ?_
      exact Vw.iret (de_ireturn (B 90 _ rfl)) rfl ⟨_, rfl, (by
    have e := h I2 M f2.fs
    unfold gameP at e
    rw [nI_cl (show c < 2147483648 by omega), if_neg (by rintro (z | z | z | z); exact c_15 z; exact c_50 z; exact c_25 z; exact c_34 z)] at e
    unfold wrN at e
    rw [hw, nI_cl (show q < 2147483648 by omega), nI_cl (show m < 2147483648 by omega)] at e
    first
    | (rw [if_pos c_73] at e; exact e)
    | (rw [if_neg c_73] at e; rw [show I2 (x + 34) 12 = _ from e12, Int32.sub_add_cancel]; exact e))⟩
    refine Vw.iconst (v := -1) (de_iconst_m1 (B 53 _ rfl)) rfl (n := 54) rfl ?_
    exact Vw.iret (de_ireturn (B 54 _ rfl)) rfl ⟨_, rfl, (qv (by unfold gameP; rw [nI_cl (by omega), if_pos (Or.inr (Or.inl c_50))]) (h I L FS.rfl))⟩
  refine Vw.iconst (v := -1) (de_iconst_m1 (B 37 _ rfl)) rfl (n := 38) rfl ?_
  exact Vw.iret (de_ireturn (B 38 _ rfl)) rfl ⟨_, rfl, (by first | exact qv (by unfold gameP; rw [if_pos (Or.inl c_15)]) (h I L FS.rfl) | exact qv (by unfold gameP; rw [if_pos (Or.inr (Or.inr (Or.inl c_25)))]) (h I L FS.rfl) | exact qv (by unfold gameP; rw [if_pos (Or.inr (Or.inr (Or.inr c_34)))]) (h I L FS.rfl))⟩
