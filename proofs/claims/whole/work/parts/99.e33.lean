/-! What the tables and the start say -/
set_option maxRecDepth 100000 in
theorem ws_c0 : ∀ w ∈ u_ws (vR 0) (vT 0) (vN 0), w ∈ lw_tbl := by decide +kernel
set_option maxRecDepth 100000 in
theorem ws_c1 : ∀ w ∈ u_ws (vR 1) (vT 1) (vN 1), w ∈ lw_tbl := by decide +kernel
set_option maxRecDepth 100000 in
theorem ws_c2 : ∀ w ∈ u_ws (vR 2) (vT 2) (vN 2), w ∈ lw_tbl := by decide +kernel
set_option maxRecDepth 100000 in
theorem ws_c3 : ∀ w ∈ u_ws (vR 3) (vT 3) (vN 3), w ∈ lw_tbl := by decide +kernel
set_option maxRecDepth 100000 in
theorem ws_c4 : ∀ w ∈ u_ws (vR 4) (vT 4) (vN 4), w ∈ lw_tbl := by decide +kernel
set_option maxRecDepth 100000 in
theorem ws_c5 : ∀ w ∈ u_ws (vR 5) (vT 5) (vN 5), w ∈ lw_tbl := by decide +kernel
set_option maxRecDepth 100000 in
theorem ws_c6 : ∀ w ∈ u_ws (vR 6) (vT 6) (vN 6), w ∈ lw_tbl := by decide +kernel
set_option maxRecDepth 100000 in
theorem ws_c7 : ∀ w ∈ u_ws (vR 7) (vT 7) (vN 7), w ∈ lw_tbl := by decide +kernel
set_option maxRecDepth 100000 in
theorem ws_c8 : ∀ w ∈ u_ws (vR 8) (vT 8) (vN 8), w ∈ lw_tbl := by decide +kernel
set_option maxRecDepth 100000 in
theorem ws_c9 : ∀ w ∈ u_ws (vR 9) (vT 9) (vN 9), w ∈ lw_tbl := by decide +kernel
set_option maxRecDepth 100000 in
theorem ws_c10 : ∀ w ∈ u_ws (vR 10) (vT 10) (vN 10), w ∈ lw_tbl := by decide +kernel
set_option maxRecDepth 100000 in
theorem ws_c11 : ∀ w ∈ u_ws (vR 11) (vT 11) (vN 11), w ∈ lw_tbl := by decide +kernel
set_option maxRecDepth 100000 in
theorem ws_c12 : ∀ w ∈ u_ws (vR 12) (vT 12) (vN 12), w ∈ lw_tbl := by decide +kernel
def stT (i : Nat) : Term := Term.string RX5 (vSt.getD i (0, "")).1
set_option maxRecDepth 100000 in
theorem st_el : ∀ i, i < 11 → ∀ j, j < vSlen.getD i 0 → (Cond.eq (.elem (.field (stT i) "java/lang/String" "value" "[B") (.int (Int32.ofNat j))) (.int ((vSby.getD i []).getD j 0))) ∈ flatC (Jvm.Cond.and given_1 narrow_1) := by decide +kernel
set_option maxRecDepth 100000 in
theorem st_ex : ∀ i, i < 11 → (Cond.exactly (stT i) "java/lang/String") ∈ flatC (Jvm.Cond.and given_1 narrow_1) := by decide +kernel
set_option maxRecDepth 100000 in
theorem st_co : ∀ i, i < 11 → (Cond.eq (.field (stT i) "java/lang/String" "coder" "B") (.int 0)) ∈ flatC (Jvm.Cond.and given_1 narrow_1) := by decide +kernel
set_option maxRecDepth 100000 in
theorem st_ar : ∀ i, i < 11 → (Cond.arrayOf (.field (stT i) "java/lang/String" "value" "[B") .byte) ∈ flatC (Jvm.Cond.and given_1 narrow_1) := by decide +kernel
set_option maxRecDepth 100000 in
theorem st_le : ∀ i, i < 11 → (Cond.eq (.length (.field (stT i) "java/lang/String" "value" "[B")) (.int (Int32.ofNat (vSlen.getD i 0)))) ∈ flatC (Jvm.Cond.and given_1 narrow_1) := by decide +kernel
set_option maxRecDepth 100000 in
theorem st_ne : ∀ i, i < 11 → ∀ j, j < 11 → i ≠ j → (Cond.not (Cond.eq (stT i) (stT j))) ∈ flatC (Jvm.Cond.and given_1 narrow_1) ∨ (Cond.not (Cond.eq (stT j) (stT i))) ∈ flatC (Jvm.Cond.and given_1 narrow_1) := by decide +kernel
set_option maxRecDepth 100000 in
theorem st_rf : ∀ i, i < 11 → (Cond.stringRef RX5 (vSt.getD i (0, "")).1 (vStx i)) ∈ lw_tbl := by decide +kernel
set_option maxRecDepth 100000 in
theorem st_31 : ∀ i, i < 11 → vSlen.getD i 0 < 2 ^ 31 := by decide +kernel
set_option maxRecDepth 100000 in
theorem st_dif : ∀ i, i < 11 → ∀ j, j < 11 → i ≠ j → Int32.ofNat (vSlen.getD i 0) ≠ Int32.ofNat (vSlen.getD j 0) ∨ ((List.range (vSlen.getD i 0)).any fun q => decide (q < vSlen.getD j 0) && !((vSby.getD i []).getD q 0 == (vSby.getD j []).getD q 0)) = true := by decide +kernel
set_option maxRecDepth 100000 in
theorem st_cs : (Cond.eq (.static "java/lang/String" "COMPACT_STRINGS" "Z") (.int 1)) ∈ flatC (Jvm.Cond.and given_1 narrow_1) := by decide +kernel
set_option maxRecDepth 100000 in
theorem st_fo : (Cond.isRef (.static "jdk/internal/util/Preconditions" "SIOOBE_FORMATTER" "Ljava/util/function/BiFunction;")) ∈ flatC (Jvm.Cond.and given_1 narrow_1) := by decide +kernel
set_option maxRecDepth 100000 in
theorem st_t1 : (Cond.laysStatic "java/lang/String" "COMPACT_STRINGS" "Z") ∈ lw_tbl ∧ (Cond.initialized "java/lang/String") ∈ lw_tbl ∧ (Cond.laysStatic "jdk/internal/util/Preconditions" "SIOOBE_FORMATTER" "Ljava/util/function/BiFunction;") ∈ lw_tbl ∧ (Cond.initialized "jdk/internal/util/Preconditions") ∈ lw_tbl := by decide +kernel
set_option maxRecDepth 100000 in
theorem st_ns : ∀ w ∈ vNst, w ∈ lw_tbl := by decide +kernel
set_option maxRecDepth 100000 in
theorem st_ao : ∀ c ∈ [RX0, RX3, RX7, RX8, RX9], (Cond.arrayOver (.object c)) ∈ lw_tbl := by decide +kernel

