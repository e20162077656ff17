/-! An instruction out of its bytes -/
def vB (b : ByteArray) (p x : Nat) : Prop := ∃ h : p < b.size, b[p].toNat = x
def vBs (b : ByteArray) (t : List Nat) : Prop := ∀ (k x : Nat), t[k]? = some x → vB b k x
theorem vBs_of {b : ByteArray} {t : List Nat} (h : b.data.toList.map UInt8.toNat = t) : vBs b t := by
  intro k x hk
  rw [← h, List.getElem?_map] at hk
  cases hq : b.data.toList[k]? with
  | none => rw [hq] at hk; cases hk
  | some v =>
    rw [hq] at hk
    obtain ⟨h1, h2⟩ := List.getElem?_eq_some_iff.mp hq
    have h4 : k < b.size := by rw [Array.length_toList] at h1; exact h1
    refine ⟨h4, ?_⟩
    have h3 : b[k]'h4 = v := by rw [← h2]; rfl
    rw [h3]
    exact Option.some.inj hk
theorem rd_u1 {b : ByteArray} {p x : Nat} (h : vB b p x) : (Reader.u1 : Reader DecodeError Nat) b p = .ok (x, p + 1) := by
  obtain ⟨h1, h2⟩ := h
  simp only [Reader.u1, Bind.bind, ReaderT.bind, StateT.bind, MonadReader.read, _root_.readThe, MonadReaderOf.read, ReaderT.read, MonadState.get, _root_.getThe, MonadStateOf.get, StateT.get, Except.bind, _root_.liftM, MonadLiftT.monadLift, MonadLift.monadLift, Pure.pure, Except.pure, StateT.pure, ReaderT.pure, MonadStateOf.set, StateT.set]
  rw [dif_pos h1]
  rw [← h2]
  rfl
theorem rd_u2 {b : ByteArray} {p x y : Nat} (h : vB b p x) (h2 : vB b (p + 1) y) : (Reader.u2 : Reader DecodeError Nat) b p = .ok (x * 256 + y, p + 2) := by
  simp only [Reader.u2, Bind.bind, ReaderT.bind, StateT.bind, Except.bind, rd_u1 h, rd_u1 h2]
  rfl
theorem rd_s1 {b : ByteArray} {p x : Nat} (h : vB b p x) : (Reader.s1 : Reader DecodeError Int) b p = .ok (Reader.signed 8 x, p + 1) := by
  show (Reader.signed 8 <$> (Reader.u1 : Reader DecodeError Nat)) b p = _
  simp only [Functor.map, ReaderT.instFunctorOfMonad, ReaderT.bind, StateT.map, StateT.bind, Bind.bind, Except.bind, rd_u1 h]
  rfl
theorem rd_s2 {b : ByteArray} {p x y : Nat} (h : vB b p x) (h2 : vB b (p + 1) y) : (Reader.s2 : Reader DecodeError Int) b p = .ok (Reader.signed 16 (x * 256 + y), p + 2) := by
  show (Reader.signed 16 <$> (Reader.u2 : Reader DecodeError Nat)) b p = _
  simp only [Functor.map, ReaderT.instFunctorOfMonad, ReaderT.bind, StateT.map, StateT.bind, Bind.bind, Except.bind, rd_u2 h h2]
  rfl
theorem de_go {b : ByteArray} {pc : Nat} {i : Instr} {n : Nat} (h : (Decoder.instr pc) b pc = .ok (i, pc + n)) : decode b pc = .ok (i, n) := by
  have e : (Decoder.instr pc).runAt b pc = .ok (i, pc + n) := h
  simp only [decode, e, Bind.bind, Except.bind, Pure.pure, Except.pure]
  rw [Nat.add_sub_cancel_left]
theorem rd_bind {α β : Type} (r : Decoder α) (g : α → Decoder β) {b : ByteArray} {p q : Nat} {x : α} (h : r b p = .ok (x, q)) : (r >>= g) b p = g x b q := by
  simp only [Bind.bind, ReaderT.bind, StateT.bind, Except.bind, h]
set_option maxRecDepth 20000 in
theorem de_aconst_null {b : ByteArray} {pc : Nat} (h : vB b pc 1) : decode b pc = .ok (.aconst_null, 1) := de_go ((rd_bind Reader.u1 _ (rd_u1 h)).trans rfl)
set_option maxRecDepth 20000 in
theorem de_iconst_m1 {b : ByteArray} {pc : Nat} (h : vB b pc 2) : decode b pc = .ok (.iconst (-1), 1) := de_go ((rd_bind Reader.u1 _ (rd_u1 h)).trans rfl)
set_option maxRecDepth 20000 in
theorem de_iconst_0 {b : ByteArray} {pc : Nat} (h : vB b pc 3) : decode b pc = .ok (.iconst (0), 1) := de_go ((rd_bind Reader.u1 _ (rd_u1 h)).trans rfl)
set_option maxRecDepth 20000 in
theorem de_iconst_1 {b : ByteArray} {pc : Nat} (h : vB b pc 4) : decode b pc = .ok (.iconst (1), 1) := de_go ((rd_bind Reader.u1 _ (rd_u1 h)).trans rfl)
set_option maxRecDepth 20000 in
theorem de_iconst_2 {b : ByteArray} {pc : Nat} (h : vB b pc 5) : decode b pc = .ok (.iconst (2), 1) := de_go ((rd_bind Reader.u1 _ (rd_u1 h)).trans rfl)
set_option maxRecDepth 20000 in
theorem de_iconst_3 {b : ByteArray} {pc : Nat} (h : vB b pc 6) : decode b pc = .ok (.iconst (3), 1) := de_go ((rd_bind Reader.u1 _ (rd_u1 h)).trans rfl)
set_option maxRecDepth 20000 in
theorem de_iconst_4 {b : ByteArray} {pc : Nat} (h : vB b pc 7) : decode b pc = .ok (.iconst (4), 1) := de_go ((rd_bind Reader.u1 _ (rd_u1 h)).trans rfl)
set_option maxRecDepth 20000 in
theorem de_iconst_5 {b : ByteArray} {pc : Nat} (h : vB b pc 8) : decode b pc = .ok (.iconst (5), 1) := de_go ((rd_bind Reader.u1 _ (rd_u1 h)).trans rfl)
set_option maxRecDepth 20000 in
theorem de_lconst_0 {b : ByteArray} {pc : Nat} (h : vB b pc 9) : decode b pc = .ok (.lconst 0, 1) := de_go ((rd_bind Reader.u1 _ (rd_u1 h)).trans rfl)
set_option maxRecDepth 20000 in
theorem de_lconst_1 {b : ByteArray} {pc : Nat} (h : vB b pc 10) : decode b pc = .ok (.lconst 1, 1) := de_go ((rd_bind Reader.u1 _ (rd_u1 h)).trans rfl)
set_option maxRecDepth 20000 in
theorem de_bipush {b : ByteArray} {pc x : Nat} (h : vB b pc 16) (h1 : vB b (pc + 1) x) : decode b pc = .ok (.bipush (Reader.signed 8 x), 2) := de_go ((rd_bind Reader.u1 _ (rd_u1 h)).trans ((rd_bind Reader.s1 _ (rd_s1 h1)).trans rfl))
set_option maxRecDepth 20000 in
theorem de_sipush {b : ByteArray} {pc x y : Nat} (h : vB b pc 17) (h1 : vB b (pc + 1) x) (h2 : vB b (pc + 1 + 1) y) : decode b pc = .ok (.sipush (Reader.signed 16 (x * 256 + y)), 3) := de_go ((rd_bind Reader.u1 _ (rd_u1 h)).trans ((rd_bind Reader.s2 _ (rd_s2 h1 h2)).trans rfl))
set_option maxRecDepth 20000 in
theorem de_ldc {b : ByteArray} {pc x : Nat} (h : vB b pc 18) (h1 : vB b (pc + 1) x) : decode b pc = .ok (.ldc x, 2) := de_go ((rd_bind Reader.u1 _ (rd_u1 h)).trans ((rd_bind Reader.u1 _ (rd_u1 h1)).trans rfl))
set_option maxRecDepth 20000 in
theorem de_ldc_w {b : ByteArray} {pc x y : Nat} (h : vB b pc 19) (h1 : vB b (pc + 1) x) (h2 : vB b (pc + 1 + 1) y) : decode b pc = .ok (.ldc_w (x * 256 + y), 3) := de_go ((rd_bind Reader.u1 _ (rd_u1 h)).trans ((rd_bind Reader.u2 _ (rd_u2 h1 h2)).trans rfl))
set_option maxRecDepth 20000 in
theorem de_ldc2_w {b : ByteArray} {pc x y : Nat} (h : vB b pc 20) (h1 : vB b (pc + 1) x) (h2 : vB b (pc + 1 + 1) y) : decode b pc = .ok (.ldc2_w (x * 256 + y), 3) := de_go ((rd_bind Reader.u1 _ (rd_u1 h)).trans ((rd_bind Reader.u2 _ (rd_u2 h1 h2)).trans rfl))
set_option maxRecDepth 20000 in
theorem de_iload {b : ByteArray} {pc x : Nat} (h : vB b pc 21) (h1 : vB b (pc + 1) x) : decode b pc = .ok (.iload x, 2) := de_go ((rd_bind Reader.u1 _ (rd_u1 h)).trans ((rd_bind Reader.u1 _ (rd_u1 h1)).trans rfl))
set_option maxRecDepth 20000 in
theorem de_lload {b : ByteArray} {pc x : Nat} (h : vB b pc 22) (h1 : vB b (pc + 1) x) : decode b pc = .ok (.lload x, 2) := de_go ((rd_bind Reader.u1 _ (rd_u1 h)).trans ((rd_bind Reader.u1 _ (rd_u1 h1)).trans rfl))
set_option maxRecDepth 20000 in
theorem de_aload {b : ByteArray} {pc x : Nat} (h : vB b pc 25) (h1 : vB b (pc + 1) x) : decode b pc = .ok (.aload x, 2) := de_go ((rd_bind Reader.u1 _ (rd_u1 h)).trans ((rd_bind Reader.u1 _ (rd_u1 h1)).trans rfl))
set_option maxRecDepth 20000 in
theorem de_istore {b : ByteArray} {pc x : Nat} (h : vB b pc 54) (h1 : vB b (pc + 1) x) : decode b pc = .ok (.istore x, 2) := de_go ((rd_bind Reader.u1 _ (rd_u1 h)).trans ((rd_bind Reader.u1 _ (rd_u1 h1)).trans rfl))
set_option maxRecDepth 20000 in
theorem de_lstore {b : ByteArray} {pc x : Nat} (h : vB b pc 55) (h1 : vB b (pc + 1) x) : decode b pc = .ok (.lstore x, 2) := de_go ((rd_bind Reader.u1 _ (rd_u1 h)).trans ((rd_bind Reader.u1 _ (rd_u1 h1)).trans rfl))
set_option maxRecDepth 20000 in
theorem de_astore {b : ByteArray} {pc x : Nat} (h : vB b pc 58) (h1 : vB b (pc + 1) x) : decode b pc = .ok (.astore x, 2) := de_go ((rd_bind Reader.u1 _ (rd_u1 h)).trans ((rd_bind Reader.u1 _ (rd_u1 h1)).trans rfl))
set_option maxRecDepth 20000 in
theorem de_iload_0 {b : ByteArray} {pc : Nat} (h : vB b pc 26) : decode b pc = .ok (.iload_n 0, 1) := de_go ((rd_bind Reader.u1 _ (rd_u1 h)).trans rfl)
set_option maxRecDepth 20000 in
theorem de_iload_1 {b : ByteArray} {pc : Nat} (h : vB b pc 27) : decode b pc = .ok (.iload_n 1, 1) := de_go ((rd_bind Reader.u1 _ (rd_u1 h)).trans rfl)
set_option maxRecDepth 20000 in
theorem de_iload_2 {b : ByteArray} {pc : Nat} (h : vB b pc 28) : decode b pc = .ok (.iload_n 2, 1) := de_go ((rd_bind Reader.u1 _ (rd_u1 h)).trans rfl)
set_option maxRecDepth 20000 in
theorem de_iload_3 {b : ByteArray} {pc : Nat} (h : vB b pc 29) : decode b pc = .ok (.iload_n 3, 1) := de_go ((rd_bind Reader.u1 _ (rd_u1 h)).trans rfl)
set_option maxRecDepth 20000 in
theorem de_lload_0 {b : ByteArray} {pc : Nat} (h : vB b pc 30) : decode b pc = .ok (.lload_n 0, 1) := de_go ((rd_bind Reader.u1 _ (rd_u1 h)).trans rfl)
set_option maxRecDepth 20000 in
theorem de_lload_1 {b : ByteArray} {pc : Nat} (h : vB b pc 31) : decode b pc = .ok (.lload_n 1, 1) := de_go ((rd_bind Reader.u1 _ (rd_u1 h)).trans rfl)
set_option maxRecDepth 20000 in
theorem de_lload_2 {b : ByteArray} {pc : Nat} (h : vB b pc 32) : decode b pc = .ok (.lload_n 2, 1) := de_go ((rd_bind Reader.u1 _ (rd_u1 h)).trans rfl)
set_option maxRecDepth 20000 in
theorem de_lload_3 {b : ByteArray} {pc : Nat} (h : vB b pc 33) : decode b pc = .ok (.lload_n 3, 1) := de_go ((rd_bind Reader.u1 _ (rd_u1 h)).trans rfl)
set_option maxRecDepth 20000 in
theorem de_aload_0 {b : ByteArray} {pc : Nat} (h : vB b pc 42) : decode b pc = .ok (.aload_n 0, 1) := de_go ((rd_bind Reader.u1 _ (rd_u1 h)).trans rfl)
set_option maxRecDepth 20000 in
theorem de_aload_1 {b : ByteArray} {pc : Nat} (h : vB b pc 43) : decode b pc = .ok (.aload_n 1, 1) := de_go ((rd_bind Reader.u1 _ (rd_u1 h)).trans rfl)
set_option maxRecDepth 20000 in
theorem de_aload_2 {b : ByteArray} {pc : Nat} (h : vB b pc 44) : decode b pc = .ok (.aload_n 2, 1) := de_go ((rd_bind Reader.u1 _ (rd_u1 h)).trans rfl)
set_option maxRecDepth 20000 in
theorem de_aload_3 {b : ByteArray} {pc : Nat} (h : vB b pc 45) : decode b pc = .ok (.aload_n 3, 1) := de_go ((rd_bind Reader.u1 _ (rd_u1 h)).trans rfl)
set_option maxRecDepth 20000 in
theorem de_istore_0 {b : ByteArray} {pc : Nat} (h : vB b pc 59) : decode b pc = .ok (.istore_n 0, 1) := de_go ((rd_bind Reader.u1 _ (rd_u1 h)).trans rfl)
set_option maxRecDepth 20000 in
theorem de_istore_1 {b : ByteArray} {pc : Nat} (h : vB b pc 60) : decode b pc = .ok (.istore_n 1, 1) := de_go ((rd_bind Reader.u1 _ (rd_u1 h)).trans rfl)
set_option maxRecDepth 20000 in
theorem de_istore_2 {b : ByteArray} {pc : Nat} (h : vB b pc 61) : decode b pc = .ok (.istore_n 2, 1) := de_go ((rd_bind Reader.u1 _ (rd_u1 h)).trans rfl)
set_option maxRecDepth 20000 in
theorem de_istore_3 {b : ByteArray} {pc : Nat} (h : vB b pc 62) : decode b pc = .ok (.istore_n 3, 1) := de_go ((rd_bind Reader.u1 _ (rd_u1 h)).trans rfl)
set_option maxRecDepth 20000 in
theorem de_lstore_0 {b : ByteArray} {pc : Nat} (h : vB b pc 63) : decode b pc = .ok (.lstore_n 0, 1) := de_go ((rd_bind Reader.u1 _ (rd_u1 h)).trans rfl)
set_option maxRecDepth 20000 in
theorem de_lstore_1 {b : ByteArray} {pc : Nat} (h : vB b pc 64) : decode b pc = .ok (.lstore_n 1, 1) := de_go ((rd_bind Reader.u1 _ (rd_u1 h)).trans rfl)
set_option maxRecDepth 20000 in
theorem de_lstore_2 {b : ByteArray} {pc : Nat} (h : vB b pc 65) : decode b pc = .ok (.lstore_n 2, 1) := de_go ((rd_bind Reader.u1 _ (rd_u1 h)).trans rfl)
set_option maxRecDepth 20000 in
theorem de_lstore_3 {b : ByteArray} {pc : Nat} (h : vB b pc 66) : decode b pc = .ok (.lstore_n 3, 1) := de_go ((rd_bind Reader.u1 _ (rd_u1 h)).trans rfl)
set_option maxRecDepth 20000 in
theorem de_astore_0 {b : ByteArray} {pc : Nat} (h : vB b pc 75) : decode b pc = .ok (.astore_n 0, 1) := de_go ((rd_bind Reader.u1 _ (rd_u1 h)).trans rfl)
set_option maxRecDepth 20000 in
theorem de_astore_1 {b : ByteArray} {pc : Nat} (h : vB b pc 76) : decode b pc = .ok (.astore_n 1, 1) := de_go ((rd_bind Reader.u1 _ (rd_u1 h)).trans rfl)
set_option maxRecDepth 20000 in
theorem de_astore_2 {b : ByteArray} {pc : Nat} (h : vB b pc 77) : decode b pc = .ok (.astore_n 2, 1) := de_go ((rd_bind Reader.u1 _ (rd_u1 h)).trans rfl)
set_option maxRecDepth 20000 in
theorem de_astore_3 {b : ByteArray} {pc : Nat} (h : vB b pc 78) : decode b pc = .ok (.astore_n 3, 1) := de_go ((rd_bind Reader.u1 _ (rd_u1 h)).trans rfl)
set_option maxRecDepth 20000 in
theorem de_iaload {b : ByteArray} {pc : Nat} (h : vB b pc 46) : decode b pc = .ok (.iaload, 1) := de_go ((rd_bind Reader.u1 _ (rd_u1 h)).trans rfl)
set_option maxRecDepth 20000 in
theorem de_laload {b : ByteArray} {pc : Nat} (h : vB b pc 47) : decode b pc = .ok (.laload, 1) := de_go ((rd_bind Reader.u1 _ (rd_u1 h)).trans rfl)
set_option maxRecDepth 20000 in
theorem de_aaload {b : ByteArray} {pc : Nat} (h : vB b pc 50) : decode b pc = .ok (.aaload, 1) := de_go ((rd_bind Reader.u1 _ (rd_u1 h)).trans rfl)
set_option maxRecDepth 20000 in
theorem de_baload {b : ByteArray} {pc : Nat} (h : vB b pc 51) : decode b pc = .ok (.baload, 1) := de_go ((rd_bind Reader.u1 _ (rd_u1 h)).trans rfl)
set_option maxRecDepth 20000 in
theorem de_iastore {b : ByteArray} {pc : Nat} (h : vB b pc 79) : decode b pc = .ok (.iastore, 1) := de_go ((rd_bind Reader.u1 _ (rd_u1 h)).trans rfl)
set_option maxRecDepth 20000 in
theorem de_lastore {b : ByteArray} {pc : Nat} (h : vB b pc 80) : decode b pc = .ok (.lastore, 1) := de_go ((rd_bind Reader.u1 _ (rd_u1 h)).trans rfl)
set_option maxRecDepth 20000 in
theorem de_aastore {b : ByteArray} {pc : Nat} (h : vB b pc 83) : decode b pc = .ok (.aastore, 1) := de_go ((rd_bind Reader.u1 _ (rd_u1 h)).trans rfl)
set_option maxRecDepth 20000 in
theorem de_bastore {b : ByteArray} {pc : Nat} (h : vB b pc 84) : decode b pc = .ok (.bastore, 1) := de_go ((rd_bind Reader.u1 _ (rd_u1 h)).trans rfl)
set_option maxRecDepth 20000 in
theorem de_pop {b : ByteArray} {pc : Nat} (h : vB b pc 87) : decode b pc = .ok (.pop, 1) := de_go ((rd_bind Reader.u1 _ (rd_u1 h)).trans rfl)
set_option maxRecDepth 20000 in
theorem de_dup {b : ByteArray} {pc : Nat} (h : vB b pc 89) : decode b pc = .ok (.dup, 1) := de_go ((rd_bind Reader.u1 _ (rd_u1 h)).trans rfl)
set_option maxRecDepth 20000 in
theorem de_dup2 {b : ByteArray} {pc : Nat} (h : vB b pc 92) : decode b pc = .ok (.dup2, 1) := de_go ((rd_bind Reader.u1 _ (rd_u1 h)).trans rfl)
set_option maxRecDepth 20000 in
theorem de_iadd {b : ByteArray} {pc : Nat} (h : vB b pc 96) : decode b pc = .ok (.iadd, 1) := de_go ((rd_bind Reader.u1 _ (rd_u1 h)).trans rfl)
set_option maxRecDepth 20000 in
theorem de_ladd {b : ByteArray} {pc : Nat} (h : vB b pc 97) : decode b pc = .ok (.ladd, 1) := de_go ((rd_bind Reader.u1 _ (rd_u1 h)).trans rfl)
set_option maxRecDepth 20000 in
theorem de_isub {b : ByteArray} {pc : Nat} (h : vB b pc 100) : decode b pc = .ok (.isub, 1) := de_go ((rd_bind Reader.u1 _ (rd_u1 h)).trans rfl)
set_option maxRecDepth 20000 in
theorem de_lsub {b : ByteArray} {pc : Nat} (h : vB b pc 101) : decode b pc = .ok (.lsub, 1) := de_go ((rd_bind Reader.u1 _ (rd_u1 h)).trans rfl)
set_option maxRecDepth 20000 in
theorem de_imul {b : ByteArray} {pc : Nat} (h : vB b pc 104) : decode b pc = .ok (.imul, 1) := de_go ((rd_bind Reader.u1 _ (rd_u1 h)).trans rfl)
set_option maxRecDepth 20000 in
theorem de_lmul {b : ByteArray} {pc : Nat} (h : vB b pc 105) : decode b pc = .ok (.lmul, 1) := de_go ((rd_bind Reader.u1 _ (rd_u1 h)).trans rfl)
set_option maxRecDepth 20000 in
theorem de_idiv {b : ByteArray} {pc : Nat} (h : vB b pc 108) : decode b pc = .ok (.idiv, 1) := de_go ((rd_bind Reader.u1 _ (rd_u1 h)).trans rfl)
set_option maxRecDepth 20000 in
theorem de_ldiv {b : ByteArray} {pc : Nat} (h : vB b pc 109) : decode b pc = .ok (.ldiv, 1) := de_go ((rd_bind Reader.u1 _ (rd_u1 h)).trans rfl)
set_option maxRecDepth 20000 in
theorem de_irem {b : ByteArray} {pc : Nat} (h : vB b pc 112) : decode b pc = .ok (.irem, 1) := de_go ((rd_bind Reader.u1 _ (rd_u1 h)).trans rfl)
set_option maxRecDepth 20000 in
theorem de_lrem {b : ByteArray} {pc : Nat} (h : vB b pc 113) : decode b pc = .ok (.lrem, 1) := de_go ((rd_bind Reader.u1 _ (rd_u1 h)).trans rfl)
set_option maxRecDepth 20000 in
theorem de_ineg {b : ByteArray} {pc : Nat} (h : vB b pc 116) : decode b pc = .ok (.ineg, 1) := de_go ((rd_bind Reader.u1 _ (rd_u1 h)).trans rfl)
set_option maxRecDepth 20000 in
theorem de_ishl {b : ByteArray} {pc : Nat} (h : vB b pc 120) : decode b pc = .ok (.ishl, 1) := de_go ((rd_bind Reader.u1 _ (rd_u1 h)).trans rfl)
set_option maxRecDepth 20000 in
theorem de_ishr {b : ByteArray} {pc : Nat} (h : vB b pc 122) : decode b pc = .ok (.ishr, 1) := de_go ((rd_bind Reader.u1 _ (rd_u1 h)).trans rfl)
set_option maxRecDepth 20000 in
theorem de_iushr {b : ByteArray} {pc : Nat} (h : vB b pc 124) : decode b pc = .ok (.iushr, 1) := de_go ((rd_bind Reader.u1 _ (rd_u1 h)).trans rfl)
set_option maxRecDepth 20000 in
theorem de_iand {b : ByteArray} {pc : Nat} (h : vB b pc 126) : decode b pc = .ok (.iand, 1) := de_go ((rd_bind Reader.u1 _ (rd_u1 h)).trans rfl)
set_option maxRecDepth 20000 in
theorem de_ior {b : ByteArray} {pc : Nat} (h : vB b pc 128) : decode b pc = .ok (.ior, 1) := de_go ((rd_bind Reader.u1 _ (rd_u1 h)).trans rfl)
set_option maxRecDepth 20000 in
theorem de_ixor {b : ByteArray} {pc : Nat} (h : vB b pc 130) : decode b pc = .ok (.ixor, 1) := de_go ((rd_bind Reader.u1 _ (rd_u1 h)).trans rfl)
set_option maxRecDepth 20000 in
theorem de_i2l {b : ByteArray} {pc : Nat} (h : vB b pc 133) : decode b pc = .ok (.i2l, 1) := de_go ((rd_bind Reader.u1 _ (rd_u1 h)).trans rfl)
set_option maxRecDepth 20000 in
theorem de_l2i {b : ByteArray} {pc : Nat} (h : vB b pc 136) : decode b pc = .ok (.l2i, 1) := de_go ((rd_bind Reader.u1 _ (rd_u1 h)).trans rfl)
set_option maxRecDepth 20000 in
theorem de_i2b {b : ByteArray} {pc : Nat} (h : vB b pc 145) : decode b pc = .ok (.i2b, 1) := de_go ((rd_bind Reader.u1 _ (rd_u1 h)).trans rfl)
set_option maxRecDepth 20000 in
theorem de_i2c {b : ByteArray} {pc : Nat} (h : vB b pc 146) : decode b pc = .ok (.i2c, 1) := de_go ((rd_bind Reader.u1 _ (rd_u1 h)).trans rfl)
set_option maxRecDepth 20000 in
theorem de_lcmp {b : ByteArray} {pc : Nat} (h : vB b pc 148) : decode b pc = .ok (.lcmp, 1) := de_go ((rd_bind Reader.u1 _ (rd_u1 h)).trans rfl)
set_option maxRecDepth 20000 in
theorem de_ireturn {b : ByteArray} {pc : Nat} (h : vB b pc 172) : decode b pc = .ok (.ireturn, 1) := de_go ((rd_bind Reader.u1 _ (rd_u1 h)).trans rfl)
set_option maxRecDepth 20000 in
theorem de_lreturn {b : ByteArray} {pc : Nat} (h : vB b pc 173) : decode b pc = .ok (.lreturn, 1) := de_go ((rd_bind Reader.u1 _ (rd_u1 h)).trans rfl)
set_option maxRecDepth 20000 in
theorem de_areturn {b : ByteArray} {pc : Nat} (h : vB b pc 176) : decode b pc = .ok (.areturn, 1) := de_go ((rd_bind Reader.u1 _ (rd_u1 h)).trans rfl)
set_option maxRecDepth 20000 in
theorem de_arraylength {b : ByteArray} {pc : Nat} (h : vB b pc 190) : decode b pc = .ok (.arraylength, 1) := de_go ((rd_bind Reader.u1 _ (rd_u1 h)).trans rfl)
set_option maxRecDepth 20000 in
theorem de_athrow {b : ByteArray} {pc : Nat} (h : vB b pc 191) : decode b pc = .ok (.athrow, 1) := de_go ((rd_bind Reader.u1 _ (rd_u1 h)).trans rfl)
set_option maxRecDepth 20000 in
theorem de_return_ {b : ByteArray} {pc : Nat} (h : vB b pc 177) : decode b pc = .ok (.return_, 1) := de_go ((rd_bind Reader.u1 _ (rd_u1 h)).trans rfl)
set_option maxRecDepth 20000 in
theorem de_if_eq {b : ByteArray} {pc x y : Nat} (h : vB b pc 153) (h1 : vB b (pc + 1) x) (h2 : vB b (pc + 1 + 1) y) : decode b pc = .ok (.ifCond .eq (Reader.signed 16 (x * 256 + y)), 3) := de_go ((rd_bind Reader.u1 _ (rd_u1 h)).trans ((rd_bind Reader.s2 _ (rd_s2 h1 h2)).trans rfl))
set_option maxRecDepth 20000 in
theorem de_icmp_eq {b : ByteArray} {pc x y : Nat} (h : vB b pc 159) (h1 : vB b (pc + 1) x) (h2 : vB b (pc + 1 + 1) y) : decode b pc = .ok (.if_icmp .eq (Reader.signed 16 (x * 256 + y)), 3) := de_go ((rd_bind Reader.u1 _ (rd_u1 h)).trans ((rd_bind Reader.s2 _ (rd_s2 h1 h2)).trans rfl))
set_option maxRecDepth 20000 in
theorem de_if_ne {b : ByteArray} {pc x y : Nat} (h : vB b pc 154) (h1 : vB b (pc + 1) x) (h2 : vB b (pc + 1 + 1) y) : decode b pc = .ok (.ifCond .ne (Reader.signed 16 (x * 256 + y)), 3) := de_go ((rd_bind Reader.u1 _ (rd_u1 h)).trans ((rd_bind Reader.s2 _ (rd_s2 h1 h2)).trans rfl))
set_option maxRecDepth 20000 in
theorem de_icmp_ne {b : ByteArray} {pc x y : Nat} (h : vB b pc 160) (h1 : vB b (pc + 1) x) (h2 : vB b (pc + 1 + 1) y) : decode b pc = .ok (.if_icmp .ne (Reader.signed 16 (x * 256 + y)), 3) := de_go ((rd_bind Reader.u1 _ (rd_u1 h)).trans ((rd_bind Reader.s2 _ (rd_s2 h1 h2)).trans rfl))
set_option maxRecDepth 20000 in
theorem de_if_lt {b : ByteArray} {pc x y : Nat} (h : vB b pc 155) (h1 : vB b (pc + 1) x) (h2 : vB b (pc + 1 + 1) y) : decode b pc = .ok (.ifCond .lt (Reader.signed 16 (x * 256 + y)), 3) := de_go ((rd_bind Reader.u1 _ (rd_u1 h)).trans ((rd_bind Reader.s2 _ (rd_s2 h1 h2)).trans rfl))
set_option maxRecDepth 20000 in
theorem de_icmp_lt {b : ByteArray} {pc x y : Nat} (h : vB b pc 161) (h1 : vB b (pc + 1) x) (h2 : vB b (pc + 1 + 1) y) : decode b pc = .ok (.if_icmp .lt (Reader.signed 16 (x * 256 + y)), 3) := de_go ((rd_bind Reader.u1 _ (rd_u1 h)).trans ((rd_bind Reader.s2 _ (rd_s2 h1 h2)).trans rfl))
set_option maxRecDepth 20000 in
theorem de_if_ge {b : ByteArray} {pc x y : Nat} (h : vB b pc 156) (h1 : vB b (pc + 1) x) (h2 : vB b (pc + 1 + 1) y) : decode b pc = .ok (.ifCond .ge (Reader.signed 16 (x * 256 + y)), 3) := de_go ((rd_bind Reader.u1 _ (rd_u1 h)).trans ((rd_bind Reader.s2 _ (rd_s2 h1 h2)).trans rfl))
set_option maxRecDepth 20000 in
theorem de_icmp_ge {b : ByteArray} {pc x y : Nat} (h : vB b pc 162) (h1 : vB b (pc + 1) x) (h2 : vB b (pc + 1 + 1) y) : decode b pc = .ok (.if_icmp .ge (Reader.signed 16 (x * 256 + y)), 3) := de_go ((rd_bind Reader.u1 _ (rd_u1 h)).trans ((rd_bind Reader.s2 _ (rd_s2 h1 h2)).trans rfl))
set_option maxRecDepth 20000 in
theorem de_if_gt {b : ByteArray} {pc x y : Nat} (h : vB b pc 157) (h1 : vB b (pc + 1) x) (h2 : vB b (pc + 1 + 1) y) : decode b pc = .ok (.ifCond .gt (Reader.signed 16 (x * 256 + y)), 3) := de_go ((rd_bind Reader.u1 _ (rd_u1 h)).trans ((rd_bind Reader.s2 _ (rd_s2 h1 h2)).trans rfl))
set_option maxRecDepth 20000 in
theorem de_icmp_gt {b : ByteArray} {pc x y : Nat} (h : vB b pc 163) (h1 : vB b (pc + 1) x) (h2 : vB b (pc + 1 + 1) y) : decode b pc = .ok (.if_icmp .gt (Reader.signed 16 (x * 256 + y)), 3) := de_go ((rd_bind Reader.u1 _ (rd_u1 h)).trans ((rd_bind Reader.s2 _ (rd_s2 h1 h2)).trans rfl))
set_option maxRecDepth 20000 in
theorem de_if_le {b : ByteArray} {pc x y : Nat} (h : vB b pc 158) (h1 : vB b (pc + 1) x) (h2 : vB b (pc + 1 + 1) y) : decode b pc = .ok (.ifCond .le (Reader.signed 16 (x * 256 + y)), 3) := de_go ((rd_bind Reader.u1 _ (rd_u1 h)).trans ((rd_bind Reader.s2 _ (rd_s2 h1 h2)).trans rfl))
set_option maxRecDepth 20000 in
theorem de_icmp_le {b : ByteArray} {pc x y : Nat} (h : vB b pc 164) (h1 : vB b (pc + 1) x) (h2 : vB b (pc + 1 + 1) y) : decode b pc = .ok (.if_icmp .le (Reader.signed 16 (x * 256 + y)), 3) := de_go ((rd_bind Reader.u1 _ (rd_u1 h)).trans ((rd_bind Reader.s2 _ (rd_s2 h1 h2)).trans rfl))
set_option maxRecDepth 20000 in
theorem de_goto_ {b : ByteArray} {pc x y : Nat} (h : vB b pc 167) (h1 : vB b (pc + 1) x) (h2 : vB b (pc + 1 + 1) y) : decode b pc = .ok (.goto (Reader.signed 16 (x * 256 + y)), 3) := de_go ((rd_bind Reader.u1 _ (rd_u1 h)).trans ((rd_bind Reader.s2 _ (rd_s2 h1 h2)).trans rfl))
set_option maxRecDepth 20000 in
theorem de_ifnonnull {b : ByteArray} {pc x y : Nat} (h : vB b pc 199) (h1 : vB b (pc + 1) x) (h2 : vB b (pc + 1 + 1) y) : decode b pc = .ok (.ifnonnull (Reader.signed 16 (x * 256 + y)), 3) := de_go ((rd_bind Reader.u1 _ (rd_u1 h)).trans ((rd_bind Reader.s2 _ (rd_s2 h1 h2)).trans rfl))
set_option maxRecDepth 20000 in
theorem de_getstatic {b : ByteArray} {pc x y : Nat} (h : vB b pc 178) (h1 : vB b (pc + 1) x) (h2 : vB b (pc + 1 + 1) y) : decode b pc = .ok (.getstatic (x * 256 + y), 3) := de_go ((rd_bind Reader.u1 _ (rd_u1 h)).trans ((rd_bind Reader.u2 _ (rd_u2 h1 h2)).trans rfl))
set_option maxRecDepth 20000 in
theorem de_getfield {b : ByteArray} {pc x y : Nat} (h : vB b pc 180) (h1 : vB b (pc + 1) x) (h2 : vB b (pc + 1 + 1) y) : decode b pc = .ok (.getfield (x * 256 + y), 3) := de_go ((rd_bind Reader.u1 _ (rd_u1 h)).trans ((rd_bind Reader.u2 _ (rd_u2 h1 h2)).trans rfl))
set_option maxRecDepth 20000 in
theorem de_putfield {b : ByteArray} {pc x y : Nat} (h : vB b pc 181) (h1 : vB b (pc + 1) x) (h2 : vB b (pc + 1 + 1) y) : decode b pc = .ok (.putfield (x * 256 + y), 3) := de_go ((rd_bind Reader.u1 _ (rd_u1 h)).trans ((rd_bind Reader.u2 _ (rd_u2 h1 h2)).trans rfl))
set_option maxRecDepth 20000 in
theorem de_invokevirtual {b : ByteArray} {pc x y : Nat} (h : vB b pc 182) (h1 : vB b (pc + 1) x) (h2 : vB b (pc + 1 + 1) y) : decode b pc = .ok (.invokevirtual (x * 256 + y), 3) := de_go ((rd_bind Reader.u1 _ (rd_u1 h)).trans ((rd_bind Reader.u2 _ (rd_u2 h1 h2)).trans rfl))
set_option maxRecDepth 20000 in
theorem de_invokespecial {b : ByteArray} {pc x y : Nat} (h : vB b pc 183) (h1 : vB b (pc + 1) x) (h2 : vB b (pc + 1 + 1) y) : decode b pc = .ok (.invokespecial (x * 256 + y), 3) := de_go ((rd_bind Reader.u1 _ (rd_u1 h)).trans ((rd_bind Reader.u2 _ (rd_u2 h1 h2)).trans rfl))
set_option maxRecDepth 20000 in
theorem de_invokestatic {b : ByteArray} {pc x y : Nat} (h : vB b pc 184) (h1 : vB b (pc + 1) x) (h2 : vB b (pc + 1 + 1) y) : decode b pc = .ok (.invokestatic (x * 256 + y), 3) := de_go ((rd_bind Reader.u1 _ (rd_u1 h)).trans ((rd_bind Reader.u2 _ (rd_u2 h1 h2)).trans rfl))
set_option maxRecDepth 20000 in
theorem de_new {b : ByteArray} {pc x y : Nat} (h : vB b pc 187) (h1 : vB b (pc + 1) x) (h2 : vB b (pc + 1 + 1) y) : decode b pc = .ok (.new (x * 256 + y), 3) := de_go ((rd_bind Reader.u1 _ (rd_u1 h)).trans ((rd_bind Reader.u2 _ (rd_u2 h1 h2)).trans rfl))
set_option maxRecDepth 20000 in
theorem de_anewarray {b : ByteArray} {pc x y : Nat} (h : vB b pc 189) (h1 : vB b (pc + 1) x) (h2 : vB b (pc + 1 + 1) y) : decode b pc = .ok (.anewarray (x * 256 + y), 3) := de_go ((rd_bind Reader.u1 _ (rd_u1 h)).trans ((rd_bind Reader.u2 _ (rd_u2 h1 h2)).trans rfl))
set_option maxRecDepth 20000 in
theorem de_iinc {b : ByteArray} {pc x y : Nat} (h : vB b pc 132) (h1 : vB b (pc + 1) x) (h2 : vB b (pc + 1 + 1) y) : decode b pc = .ok (.iinc x (Reader.signed 8 y), 3) := de_go ((rd_bind Reader.u1 _ (rd_u1 h)).trans ((rd_bind Reader.u1 _ (rd_u1 h1)).trans ((rd_bind Reader.s1 _ (rd_s1 h2)).trans rfl)))
set_option maxRecDepth 20000 in
theorem de_newarray_boolean {b : ByteArray} {pc : Nat} (h : vB b pc 188) (h1 : vB b (pc + 1) 4) : decode b pc = .ok (.newarray .boolean, 2) := de_go ((rd_bind Reader.u1 _ (rd_u1 h)).trans ((rd_bind Reader.u1 _ (rd_u1 h1)).trans rfl))
set_option maxRecDepth 20000 in
theorem de_newarray_byte {b : ByteArray} {pc : Nat} (h : vB b pc 188) (h1 : vB b (pc + 1) 8) : decode b pc = .ok (.newarray .byte, 2) := de_go ((rd_bind Reader.u1 _ (rd_u1 h)).trans ((rd_bind Reader.u1 _ (rd_u1 h1)).trans rfl))
set_option maxRecDepth 20000 in
theorem de_newarray_int {b : ByteArray} {pc : Nat} (h : vB b pc 188) (h1 : vB b (pc + 1) 10) : decode b pc = .ok (.newarray .int, 2) := de_go ((rd_bind Reader.u1 _ (rd_u1 h)).trans ((rd_bind Reader.u1 _ (rd_u1 h1)).trans rfl))
set_option maxRecDepth 20000 in
theorem de_newarray_long {b : ByteArray} {pc : Nat} (h : vB b pc 188) (h1 : vB b (pc + 1) 11) : decode b pc = .ok (.newarray .long, 2) := de_go ((rd_bind Reader.u1 _ (rd_u1 h)).trans ((rd_bind Reader.u1 _ (rd_u1 h1)).trans rfl))
