/-! Numbers -/
theorem nI_A (a b : Nat) : nI (a + b) = nI a + nI b := (nI_add a b).symm
theorem nI_M (a b : Nat) : nI (a * b) = nI a * nI b := (pk_mul a b).symm
theorem nI_L (n : Nat) : nI (OfNat.ofNat n) = (OfNat.ofNat n : Int32) := rfl
theorem nI_l1 : nI 1 = 1 := rfl
theorem vIx_n {i : Int32} {k len : Nat} (e : i = nI k) (h : k < len) (hl : len < 2 ^ 31 := by decide) : vIx i k len := by rw [e]; exact vIx_nI h hl
theorem i32_eq {a b : Int32} (h : a.toInt = b.toInt) : a = b := Int32.toInt_inj.mp h
theorem i32_lt {a b : Int32} : a < b ↔ a.toInt < b.toInt := Int32.lt_iff_toInt_lt
theorem i32_le {a b : Int32} : a ≤ b ↔ a.toInt ≤ b.toInt := Int32.le_iff_toInt_le
theorem i32_rng (x : Int32) : -2147483648 ≤ x.toInt ∧ x.toInt < 2147483648 := ⟨by have := Int32.le_toInt x; omega, by have := Int32.toInt_lt x; omega⟩
theorem bm32 {z : Int} (h1 : -2147483648 ≤ z) (h2 : z < 2147483648) : z.bmod (2 ^ 32) = z := by
  rw [Int.bmod_eq_of_le] <;> omega
theorem i32_add {x y : Int32} (h1 : -2147483648 ≤ x.toInt + y.toInt) (h2 : x.toInt + y.toInt < 2147483648) : (x + y).toInt = x.toInt + y.toInt := by
  rw [Int32.toInt_add]; exact bm32 h1 h2
theorem i32_sub {x y : Int32} (h1 : -2147483648 ≤ x.toInt - y.toInt) (h2 : x.toInt - y.toInt < 2147483648) : (x - y).toInt = x.toInt - y.toInt := by
  rw [Int32.toInt_sub]; exact bm32 h1 h2
theorem i32_mul {x y : Int32} (h1 : -2147483648 ≤ x.toInt * y.toInt) (h2 : x.toInt * y.toInt < 2147483648) : (x * y).toInt = x.toInt * y.toInt := by
  rw [Int32.toInt_mul]; exact bm32 h1 h2
theorem nI_ti {n : Nat} (h : n < 2147483648) : (nI n).toInt = (n : Int) := nI_toInt h
theorem nI_cl {n : Nat} (h : n < 2147483648) : (nI n).toNatClampNeg = n := nI_clamp h
/-- a number that is not below 0 and below n is some nI j -/
theorem nI_ex {x : Int32} {n : Nat} (h0 : 0 ≤ x.toInt) (h1 : x.toInt < n) : ∃ j, j < n ∧ x = nI j := by
  have hr := i32_rng x
  refine ⟨x.toInt.toNat, by omega, i32_eq ?_⟩
  rw [nI_ti (by omega)]
  omega
theorem loop_dn {P : Nat → Prop} {N : Nat} (hb : P N) (hs : ∀ j, j < N → P (j + 1) → P j) : ∀ j, j ≤ N → P j := by
  intro j hj
  obtain ⟨m, rfl⟩ : ∃ m, N = j + m := ⟨N - j, by omega⟩
  clear hj
  induction m generalizing j with
  | zero => exact hb
  | succ m ih => exact hs j (by omega) (ih (j + 1) (by rw [show j + 1 + m = j + (m + 1) by omega]; exact hb) (fun k hk => hs k (by omega)))
