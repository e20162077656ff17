/-! TOKENS -/
def isSm (c : Int32) : Bool := decide (¬ zLie c 97 122 = 0)
def isDg (c : Int32) : Bool := decide (¬ zLie c 48 57 = 0)
def runE (P : Int32 → Bool) (u : Nat → Int32) (n : Nat) : Nat → Nat → Nat
  | 0, k => k
  | f + 1, k => if k < n ∧ P (u k) = true then runE P u n f (k + 1) else k
def tEnd (u : Nat → Int32) (n k : Nat) : Nat := if isSm (u k) = true then runE isSm u n 400 (k + 1) else if isDg (u k) = true then runE isDg u n 400 (k + 1) else k + 1
def tCd (u : Nat → Int32) (k e : Nat) : Int32 := if isSm (u k) = true then wordF u k e else if isDg (u k) = true then 50 else 100 + (u k &&& 255)
def tV1 (v c : Int32) : Int32 := if v ≤ 1000000 then 10 * v + c - 48 else v
def tVs (u : Nat → Int32) (k : Nat) : Nat → Int32
  | 0 => 0
  | j + 1 => tV1 (tVs u k j) (u (k + j))
def tVl (u : Nat → Int32) (k e : Nat) : Int32 := if isDg (u k) = true then tVs u k (e - k) else 0
def tkL (u : Nat → Int32) (n : Nat) : Nat → Nat → List (Nat × Nat)
  | 0, _ => []
  | f + 1, k => if k < n then (if u k = 32 then tkL u n f (k + 1) else (k, tEnd u n k) :: tkL u n f (tEnd u n k)) else []
theorem runE_b {P : Int32 → Bool} {u : Nat → Int32} {n : Nat} : ∀ f k, k ≤ n → k ≤ runE P u n f k ∧ runE P u n f k ≤ n
  | 0, k, h => ⟨Nat.le_refl k, h⟩
  | f + 1, k, h => by
    rw [runE]
    split
    · rename_i q
      have := runE_b (P := P) (u := u) f (k + 1) q.1
      omega
    · exact ⟨Nat.le_refl k, h⟩
theorem tEnd_b {u : Nat → Int32} {n k : Nat} (h : k < n) : k < tEnd u n k ∧ tEnd u n k ≤ n := by
  unfold tEnd
  split
  · have := runE_b (P := isSm) (u := u) 400 (k + 1) h; omega
  · split
    · have := runE_b (P := isDg) (u := u) 400 (k + 1) h; omega
    · omega
def tm (I : vI) (r t k : Nat) (c v : Int32) : vI := fun a x => if a = r + 11 ∧ x = t then nI k else if a = r + 10 ∧ x = t then v else if a = r + 9 ∧ x = t then c else I a x
theorem tm_1 {I : vI} {r t k : Nat} {c v : Int32} : up2 (up2 (up2 I (r + 11) t (nI k)) (r + 10) t v) (r + 9) t c = tm I r t k c v := by
  funext a x; simp only [up2, tm]
  by_cases h1 : x = t
  · subst h1
    by_cases h2 : a = r + 9
    · subst h2; simp
    · by_cases h3 : a = r + 10
      · subst h3; simp
      · simp [h2, h3]
  · simp [h1]
theorem tm_2 {I : vI} {r t k : Nat} {c v : Int32} : up2 (up2 (up2 I (r + 11) t (nI k)) (r + 9) t c) (r + 10) t v = tm I r t k c v := by
  funext a x; simp only [up2, tm]
  by_cases h1 : x = t
  · subst h1
    by_cases h2 : a = r + 9
    · subst h2; simp
    · by_cases h3 : a = r + 10
      · subst h3; simp
      · simp [h2, h3]
  · simp [h1]
theorem tm_v {I : vI} {r t k : Nat} {c v w : Int32} : up2 (tm I r t k c v) (r + 10) t w = tm I r t k c w := by
  funext a x; simp only [up2, tm]
  by_cases h1 : a = r + 10 ∧ x = t
  · obtain ⟨rfl, rfl⟩ := h1; simp
  · simp [h1]
theorem tm_rv {I : vI} {r t k : Nat} {c v : Int32} : tm I r t k c v (r + 10) t = v := by simp [tm]
theorem tm_o {I : vI} {r t k a x : Nat} {c v : Int32} (h : a ≠ r + 9 ∧ a ≠ r + 10 ∧ a ≠ r + 11) : tm I r t k c v a x = I a x := by simp [tm, h]
theorem tm_x {I : vI} {r t k a x : Nat} {c v : Int32} (h : x ≠ t) : tm I r t k c v a x = I a x := by simp [tm, h]
theorem up2_row {α : Type} {f : Nat → Nat → α} {a k b : Nat} {v : α} (h : b ≠ a) : up2 f a k v b = f b := funext fun j => up2_a h
/-- so far the tokens of pre are laid -/
def SP (I0 I : vI) (r t : Nat) (u : Nat → Int32) (pre : List (Nat × Nat)) : Prop := (∀ a x, a ≠ r + 9 → a ≠ r + 10 → a ≠ r + 11 → ¬ (a = r ∧ x = 16) → I a x = I0 a x) ∧ I r 16 = nI t ∧ pre.length = t ∧ ∀ i s e, pre[i]? = some (s, e) → I (r + 9) i = tCd u s e ∧ I (r + 10) i = tVl u s e ∧ I (r + 11) i = nI s
theorem SP_next {I0 I : vI} {r t k e : Nat} {u : Nat → Int32} {pre : List (Nat × Nat)} (h : SP I0 I r t u pre) : SP I0 (up2 (tm I r t k (tCd u k e) (tVl u k e)) r 16 (nI (t + 1))) r (t + 1) u (pre ++ [(k, e)]) := by
  refine ⟨fun a x h1 h2 h3 h4 => ?_, up2_s _ _ _ _, by simp [h.2.2.1], fun i s e2 hi => ?_⟩
  · rw [up2, if_neg h4, tm_o ⟨h1, h2, h3⟩]; exact h.1 a x h1 h2 h3 h4
  · rw [up2_a (by omega), up2_a (by omega), up2_a (by omega)]
    by_cases q : i < t
    · rw [List.getElem?_append_left (by rw [h.2.2.1]; exact q)] at hi
      rw [tm_x (by omega), tm_x (by omega), tm_x (by omega)]
      exact h.2.2.2 i s e2 hi
    · rw [List.getElem?_append_right (by rw [h.2.2.1]; omega), h.2.2.1] at hi
      have hz : i - t < 1 := (List.getElem?_eq_some_iff.mp hi).1
      have hi2 : i = t := by omega
      subst hi2
      rw [Nat.sub_self] at hi
      cases hi
      simp [tm]
theorem sm_nd {c : Int32} (h : isSm c = true) : zLie c 48 57 = 0 := by
  have h1 : ¬ zLie c 97 122 = 0 := by simpa [isSm] using h
  rw [zLie_iff] at h1
  rcases Classical.em (zLie c 48 57 = 0) with q | q
  · exact q
  · rw [zLie_iff] at q
    have e1 : (97 : Int32).toInt = 97 := rfl
    have e2 : (57 : Int32).toInt = 57 := rfl
    omega
theorem c_X12_splits {d : Nat} {S : vS} {I : vI} {L : vL} {Q : vS → vI → vL → Prop} {r : Nat} {n : Nat} (hM : MS S r) (hn : n ≤ 400) (hW : Wd (I (r + 6)) WL 0) (h : ∀ I2 nt, SP I I2 r nt (I (r + 7)) (tkL (I (r + 7)) n 401 0) → nt ≤ 400 → Q S (tm I2 r nt n 0 0) L) : Vc mX12_splits (d + 1) 0 0 [.ref r, .int (nI n)] S I L (VvQ Q) := by
  refine Vc.of rfl (Nat.le_of_ble_eq_true rfl) ?_
  have B := bs_X12_splits
  show Vw mX12_splits (d + 1) 0 0 0 0 (VvQ Q) 0 [(0, .ref r), (1, .int (nI n))] [] S I L
  have body : ∀ (J : vI) (t k : Nat) (pre : List (Nat × Nat)), SP I J r t (I (r + 7)) pre → t ≤ k → k < n → ¬ I (r + 7) k = 32 → Vw mX12_splits (d + 1) 0 0 0 0 (VvQ Q) 7 [(0, .ref r), (1, .int (nI n)), (2, .int (nI (tEnd (I (r + 7)) n k)))] [] S (up2 (tm J r t k (tCd (I (r + 7)) k (tEnd (I (r + 7)) n k)) (tVl (I (r + 7)) k (tEnd (I (r + 7)) n k))) r 16 (nI (t + 1))) L → Vw mX12_splits (d + 1) 0 0 0 0 (VvQ Q) 31 [(0, .ref r), (1, .int (nI n)), (2, .int (nI k)), (3, .int (I (r + 7) k))] [] S J L := by
    intro J t k pre hs htk hkn h32 hk
    have hu : ∀ x, J (r + 7) x = I (r + 7) x := fun x => hs.1 _ _ (by omega) (by omega) (by omega) (by omega)
    have huF : J (r + 7) = I (r + 7) := funext hu
    have hwF : J (r + 6) = I (r + 6) := funext fun x => hs.1 _ _ (by omega) (by omega) (by omega) (by omega)
    have ht := hs.2.1
    obtain ⟨hE1, hE2⟩ := tEnd_b (u := I (r + 7)) hkn
    generalize hE : tEnd (I (r + 7)) n k = E at hk hE1 hE2
    have vals : ∀ cc, isDg (I (r + 7) k) = true → ∀ j, k ≤ j → j ≤ E → Vw mX12_splits (d + 1) 0 0 0 0 (VvQ Q) 247 [(0, .ref r), (1, .int (nI n)), (2, .int (nI k)), (3, .int (I (r + 7) k)), (4, .int (nI E))] [] S (tm J r t k cc (tVs (I (r + 7)) k (E - k))) L → Vw mX12_splits (d + 1) 0 0 0 0 (VvQ Q) 169 [(0, .ref r), (1, .int (nI n)), (2, .int (nI k)), (3, .int (I (r + 7) k)), (4, .int (nI E)), (5, .int (nI j))] [] S (tm J r t k cc (tVs (I (r + 7)) k (j - k))) L := by
      intro cc hdg j hj1 hj2 hend
      have hdz : ¬ zLie (I (r + 7) k) 48 57 = 0 := by simpa [isDg] using hdg
      revert hj1
      refine loop_up (P := fun j => k ≤ j → Vw mX12_splits (d + 1) 0 0 0 0 (VvQ Q) 169 [(0, .ref r), (1, .int (nI n)), (2, .int (nI k)), (3, .int (I (r + 7) k)), (4, .int (nI E)), (5, .int (nI j))] [] S (tm J r t k cc (tVs (I (r + 7)) k (j - k))) L) (fun j hj ih hkj => ?_) j hj2
      have e16 : tm J r t k cc (tVs (I (r + 7)) k (j - k)) r 16 = nI t := by rw [tm_o (by omega)]; exact ht
      refine Vw.iload (de_iload (B 169 _ rfl) (B 170 _ rfl)) 5 rfl (n := 171) rfl ?_
      refine Vw.iload (de_iload (B 171 _ rfl) (B 172 _ rfl)) 4 rfl (n := 173) rfl ?_
      refine Vw.icmp_ge (tgt := 247) (n := 176) (de_icmp_ge (B 173 _ rfl) (B 174 _ rfl) (B 175 _ rfl)) rfl rfl (fun c_173 => ?_) (fun c_173 => ?_)
      · refine Vw.lvs (lv2 := [(0, _), (1, _), (2, _), (3, _), (4, _)]) [0, 1, 2, 3, 4] rfl ?_
        have z_173 : E ≤ j := ((nI_leI (a := E) (b := j) (by omega) (by omega)).mp c_173)
        obtain rfl : j = E := by omega
        exact hend
      have z_173 : j < E := by rcases Nat.lt_or_ge j E with z | z; exact z; exact absurd ((nI_leI (a := E) (b := j) (by omega) (by omega)).mpr z) c_173
      refine Vw.iload_n (de_iload_3 (B 176 _ rfl)) 3 rfl (n := 177) rfl ?_
      refine Vw.isi1 (mi' := mX12_isDigit) (de_invokestatic (B 177 _ rfl) (B 178 _ rfl) (B 179 _ rfl)) ml_X12_181 ms_X12_isDigit (Nat.le_of_ble_eq_true rfl) (n := 180) rfl (c_X12_isDigit ?_)
      refine Vw.if_eq (tgt := 247) (n := 183) (de_if_eq (B 180 _ rfl) (B 181 _ rfl) (B 182 _ rfl)) rfl rfl (fun c_180 => ?_) (fun c_180 => ?_)
      · exact absurd c_180 hdz
      refine Vw.aload_n (de_aload_0 (B 183 _ rfl)) 0 rfl (n := 184) rfl ?_
      refine Vw.getR (de_getfield (B 184 _ rfl) (B 185 _ rfl) (B 186 _ rfl)) fl_X12_53 rfl hM.k (MS_value hM).1 (n := 187) rfl ?_
      refine Vw.aload_n (de_aload_0 (B 187 _ rfl)) 0 rfl (n := 188) rfl ?_
      refine Vw.getI (de_getfield (B 188 _ rfl) (B 189 _ rfl) (B 190 _ rfl)) fl_X12_175 rfl hM.k (n := 191) rfl ?_
      rw [e16]
      refine Vw.aload_n (de_aload_0 (B 191 _ rfl)) 0 rfl (n := 192) rfl ?_
      refine Vw.getR (de_getfield (B 192 _ rfl) (B 193 _ rfl) (B 194 _ rfl)) fl_X12_53 rfl hM.k (MS_value hM).1 (n := 195) rfl ?_
      refine Vw.aload_n (de_aload_0 (B 195 _ rfl)) 0 rfl (n := 196) rfl ?_
      refine Vw.getI (de_getfield (B 196 _ rfl) (B 197 _ rfl) (B 198 _ rfl)) fl_X12_175 rfl hM.k (n := 199) rfl ?_
      rw [e16]
      refine Vw.iald (de_iaload (B 199 _ rfl)) (MS_value hM).2 (vIx_nI (j := t) (by omega) (by decide)) (n := 200) rfl ?_
      rw [tm_rv]
      refine Vw.ldc (de_ldc (B 200 _ rfl) (B 201 _ rfl)) kc_X12_187 (n := 202) rfl ?_
      refine Vw.icmp_le (tgt := 217) (n := 205) (de_icmp_le (B 202 _ rfl) (B 203 _ rfl) (B 204 _ rfl)) rfl rfl (fun c_202 => ?_) (fun c_202 => ?_)
      · refine Vw.bipush (v := 10) (de_bipush (B 217 _ rfl) (B 218 _ rfl)) rfl (n := 219) rfl ?_
        refine Vw.aload_n (de_aload_0 (B 219 _ rfl)) 0 rfl (n := 220) rfl ?_
        refine Vw.getR (de_getfield (B 220 _ rfl) (B 221 _ rfl) (B 222 _ rfl)) fl_X12_53 rfl hM.k (MS_value hM).1 (n := 223) rfl ?_
        refine Vw.aload_n (de_aload_0 (B 223 _ rfl)) 0 rfl (n := 224) rfl ?_
        refine Vw.getI (de_getfield (B 224 _ rfl) (B 225 _ rfl) (B 226 _ rfl)) fl_X12_175 rfl hM.k (n := 227) rfl ?_
        rw [e16]
        refine Vw.iald (de_iaload (B 227 _ rfl)) (MS_value hM).2 (vIx_nI (j := t) (by omega) (by decide)) (n := 228) rfl ?_
        rw [tm_rv]
        refine Vw.imul (de_imul (B 228 _ rfl)) (n := 229) rfl ?_
        refine Vw.aload_n (de_aload_0 (B 229 _ rfl)) 0 rfl (n := 230) rfl ?_
        refine Vw.getR (de_getfield (B 230 _ rfl) (B 231 _ rfl) (B 232 _ rfl)) fl_X12_41 rfl hM.k (MS_tape hM).1 (n := 233) rfl ?_
        refine Vw.iload (de_iload (B 233 _ rfl) (B 234 _ rfl)) 5 rfl (n := 235) rfl ?_
        refine Vw.bald (de_baload (B 235 _ rfl)) (MS_tape hM).2 (vIx_n (k := j) (by simp only [nI_A, nI_M, Int32.zero_add, Int32.add_zero] <;> rfl) (by omega)) (n := 236) rfl ?_
        rw [tm_o (by omega), hu]
        refine Vw.iadd (de_iadd (B 236 _ rfl)) (n := 237) rfl ?_
        refine Vw.bipush (v := 48) (de_bipush (B 237 _ rfl) (B 238 _ rfl)) rfl (n := 239) rfl ?_
        refine Vw.isub (de_isub (B 239 _ rfl)) (n := 240) rfl ?_
        refine Vw.iast (de_iastore (B 240 _ rfl)) (MS_value hM).2 (vIx_nI (j := t) (by omega) (by decide)) (n := 241) rfl ?_
        refine Vw.iinc (v := nI (j + 1)) (lv2 := [(0, _), (1, _), (2, _), (3, _), (4, _), (5, _)]) (de_iinc (B 241 _ rfl) (B 242 _ rfl) (B 243 _ rfl)) 5 rfl (nI_1 j) (by decide) [1, 2, 3, 4, 5, 0] rfl (n := 244) rfl ?_
        refine Vw.goto_ (n := 169) (de_goto_ (B 244 _ rfl) (B 245 _ rfl) (B 246 _ rfl)) rfl ?_
        rw [tm_v]
        have e1 : j + 1 - k = (j - k) + 1 := by omega
        have e2 := ih z_173 (by omega)
        rw [e1, tVs, show k + (j - k) = j by omega] at e2
        first
        | (rw [tV1, if_pos c_202] at e2; exact e2)
        | (rw [tV1, if_neg c_202] at e2; exact e2)
      refine Vw.aload_n (de_aload_0 (B 205 _ rfl)) 0 rfl (n := 206) rfl ?_
      refine Vw.getR (de_getfield (B 206 _ rfl) (B 207 _ rfl) (B 208 _ rfl)) fl_X12_53 rfl hM.k (MS_value hM).1 (n := 209) rfl ?_
      refine Vw.aload_n (de_aload_0 (B 209 _ rfl)) 0 rfl (n := 210) rfl ?_
      refine Vw.getI (de_getfield (B 210 _ rfl) (B 211 _ rfl) (B 212 _ rfl)) fl_X12_175 rfl hM.k (n := 213) rfl ?_
      rw [e16]
      refine Vw.iald (de_iaload (B 213 _ rfl)) (MS_value hM).2 (vIx_nI (j := t) (by omega) (by decide)) (n := 214) rfl ?_
      rw [tm_rv]
      refine Vw.goto_ (n := 240) (de_goto_ (B 214 _ rfl) (B 215 _ rfl) (B 216 _ rfl)) rfl ?_
      refine Vw.iast (de_iastore (B 240 _ rfl)) (MS_value hM).2 (vIx_nI (j := t) (by omega) (by decide)) (n := 241) rfl ?_
      refine Vw.iinc (v := nI (j + 1)) (lv2 := [(0, _), (1, _), (2, _), (3, _), (4, _), (5, _)]) (de_iinc (B 241 _ rfl) (B 242 _ rfl) (B 243 _ rfl)) 5 rfl (nI_1 j) (by decide) [1, 2, 3, 4, 5, 0] rfl (n := 244) rfl ?_
      refine Vw.goto_ (n := 169) (de_goto_ (B 244 _ rfl) (B 245 _ rfl) (B 246 _ rfl)) rfl ?_
      rw [tm_v]
      have e1 : j + 1 - k = (j - k) + 1 := by omega
      have e2 := ih z_173 (by omega)
      rw [e1, tVs, show k + (j - k) = j by omega] at e2
      first
      | (rw [tV1, if_pos c_202] at e2; exact e2)
      | (rw [tV1, if_neg c_202] at e2; exact e2)
    have store : Vw mX12_splits (d + 1) 0 0 0 0 (VvQ Q) 165 [(0, .ref r), (1, .int (nI n)), (2, .int (nI k)), (3, .int (I (r + 7) k)), (4, .int (nI E))] [.int (tCd (I (r + 7)) k E), .int (nI t), .ref (r + 9)] S (up2 (up2 J (r + 11) t (nI k)) (r + 10) t 0) L := by
      have last : Vw mX12_splits (d + 1) 0 0 0 0 (VvQ Q) 247 [(0, .ref r), (1, .int (nI n)), (2, .int (nI k)), (3, .int (I (r + 7) k)), (4, .int (nI E))] [] S (tm J r t k (tCd (I (r + 7)) k E) (tVl (I (r + 7)) k E)) L := by
        refine Vw.aload_n (de_aload_0 (B 247 _ rfl)) 0 rfl (n := 248) rfl ?_
        refine Vw.dup (de_dup (B 248 _ rfl)) rfl (n := 249) rfl ?_
        refine Vw.getI (de_getfield (B 249 _ rfl) (B 250 _ rfl) (B 251 _ rfl)) fl_X12_175 rfl hM.k (n := 252) rfl ?_
        rw [tm_o (by omega), ht]
        refine Vw.iconst (v := 1) (de_iconst_1 (B 252 _ rfl)) rfl (n := 253) rfl ?_
        refine Vw.iadd (de_iadd (B 253 _ rfl)) (n := 254) rfl ?_
        rw [nI_1]
        refine Vw.putI (de_putfield (B 254 _ rfl) (B 255 _ rfl) (B 256 _ rfl)) fl_X12_175 hM.k rfl rfl (n := 257) rfl ?_
        refine Vw.iload (de_iload (B 257 _ rfl) (B 258 _ rfl)) 4 rfl (n := 259) rfl ?_
        refine Vw.istore_n (lv2 := [(0, _), (1, _), (2, _), (3, _), (4, _)]) (de_istore_2 (B 259 _ rfl)) rfl (by decide) [1, 2, 0, 3, 4] rfl (n := 260) rfl ?_
        refine Vw.goto_ (n := 7) (de_goto_ (B 260 _ rfl) (B 261 _ rfl) (B 262 _ rfl)) rfl ?_
        refine Vw.lvs (lv2 := [(0, _), (1, _), (2, _)]) [0, 1, 2] rfl ?_
        exact hk
      refine Vw.iast (de_iastore (B 165 _ rfl)) (MS_code hM).2 (vIx_nI (j := t) (by omega) (by decide)) (n := 166) rfl ?_
      refine Vw.iload_n (de_iload_2 (B 166 _ rfl)) 2 rfl (n := 167) rfl ?_
      refine Vw.istore (lv2 := [(0, _), (1, _), (2, _), (3, _), (4, _), (5, _)]) (de_istore (B 167 _ rfl) (B 168 _ rfl)) (by decide) [1, 2, 3, 4, 5, 0] rfl (n := 169) rfl ?_
      rw [tm_1]
      by_cases hdg : isDg (I (r + 7) k) = true
      · have z := vals (tCd (I (r + 7)) k E) hdg k (Nat.le_refl k) (by omega)
        rw [tVl, if_pos hdg] at last
        rw [Nat.sub_self, tVs] at z
        exact z last
      · rw [tVl, if_neg hdg] at last
        have hdz : zLie (I (r + 7) k) 48 57 = 0 := by simpa [isDg] using hdg
        refine Vw.iload (de_iload (B 169 _ rfl) (B 170 _ rfl)) 5 rfl (n := 171) rfl ?_
        refine Vw.iload (de_iload (B 171 _ rfl) (B 172 _ rfl)) 4 rfl (n := 173) rfl ?_
        refine Vw.icmp_ge (tgt := 247) (n := 176) (de_icmp_ge (B 173 _ rfl) (B 174 _ rfl) (B 175 _ rfl)) rfl rfl (fun c_173 => ?_) (fun c_173 => ?_)
        · exact absurd ((nI_leI (a := E) (b := k) (by omega) (by omega)).mp c_173) (by omega)
        refine Vw.iload_n (de_iload_3 (B 176 _ rfl)) 3 rfl (n := 177) rfl ?_
        refine Vw.isi1 (mi' := mX12_isDigit) (de_invokestatic (B 177 _ rfl) (B 178 _ rfl) (B 179 _ rfl)) ml_X12_181 ms_X12_isDigit (Nat.le_of_ble_eq_true rfl) (n := 180) rfl (c_X12_isDigit ?_)
        refine Vw.if_eq (tgt := 247) (n := 183) (de_if_eq (B 180 _ rfl) (B 181 _ rfl) (B 182 _ rfl)) rfl rfl (fun c_180 => ?_) (fun c_180 => ?_)
        · refine Vw.lvs (lv2 := [(0, _), (1, _), (2, _), (3, _), (4, _)]) [0, 1, 2, 3, 4] rfl ?_
          exact last
        exact absurd hdz c_180
    have laid : Vw mX12_splits (d + 1) 0 0 0 0 (VvQ Q) 100 [(0, .ref r), (1, .int (nI n)), (2, .int (nI k)), (3, .int (I (r + 7) k)), (4, .int (nI E))] [] S J L := by
      refine Vw.aload_n (de_aload_0 (B 100 _ rfl)) 0 rfl (n := 101) rfl ?_
      refine Vw.getR (de_getfield (B 101 _ rfl) (B 102 _ rfl) (B 103 _ rfl)) fl_X12_56 rfl hM.k (MS_placed hM).1 (n := 104) rfl ?_
      refine Vw.aload_n (de_aload_0 (B 104 _ rfl)) 0 rfl (n := 105) rfl ?_
      refine Vw.getI (de_getfield (B 105 _ rfl) (B 106 _ rfl) (B 107 _ rfl)) fl_X12_175 rfl hM.k (n := 108) rfl ?_
      rw [ht]
      refine Vw.iload_n (de_iload_2 (B 108 _ rfl)) 2 rfl (n := 109) rfl ?_
      refine Vw.iast (de_iastore (B 109 _ rfl)) (MS_placed hM).2 (vIx_nI (j := t) (by omega) (by decide)) (n := 110) rfl ?_
      refine Vw.aload_n (de_aload_0 (B 110 _ rfl)) 0 rfl (n := 111) rfl ?_
      refine Vw.getR (de_getfield (B 111 _ rfl) (B 112 _ rfl) (B 113 _ rfl)) fl_X12_53 rfl hM.k (MS_value hM).1 (n := 114) rfl ?_
      refine Vw.aload_n (de_aload_0 (B 114 _ rfl)) 0 rfl (n := 115) rfl ?_
      refine Vw.getI (de_getfield (B 115 _ rfl) (B 116 _ rfl) (B 117 _ rfl)) fl_X12_175 rfl hM.k (n := 118) rfl ?_
      rw [up2_a (by omega), ht]
      refine Vw.iconst (v := 0) (de_iconst_0 (B 118 _ rfl)) rfl (n := 119) rfl ?_
      refine Vw.iast (de_iastore (B 119 _ rfl)) (MS_value hM).2 (vIx_nI (j := t) (by omega) (by decide)) (n := 120) rfl ?_
      refine Vw.aload_n (de_aload_0 (B 120 _ rfl)) 0 rfl (n := 121) rfl ?_
      refine Vw.getR (de_getfield (B 121 _ rfl) (B 122 _ rfl) (B 123 _ rfl)) fl_X12_50 rfl hM.k (MS_code hM).1 (n := 124) rfl ?_
      refine Vw.aload_n (de_aload_0 (B 124 _ rfl)) 0 rfl (n := 125) rfl ?_
      refine Vw.getI (de_getfield (B 125 _ rfl) (B 126 _ rfl) (B 127 _ rfl)) fl_X12_175 rfl hM.k (n := 128) rfl ?_
      rw [up2_a (by omega), up2_a (by omega), ht]
      refine Vw.iload_n (de_iload_3 (B 128 _ rfl)) 3 rfl (n := 129) rfl ?_
      refine Vw.isi1 (mi' := mX12_isSmall) (de_invokestatic (B 129 _ rfl) (B 130 _ rfl) (B 131 _ rfl)) ml_X12_178 ms_X12_isSmall (Nat.le_of_ble_eq_true rfl) (n := 132) rfl (c_X12_isSmall ?_)
      refine Vw.if_eq (tgt := 145) (n := 135) (de_if_eq (B 132 _ rfl) (B 133 _ rfl) (B 134 _ rfl)) rfl rfl (fun c_132 => ?_) (fun c_132 => ?_)
      · refine Vw.iload_n (de_iload_3 (B 145 _ rfl)) 3 rfl (n := 146) rfl ?_
        refine Vw.isi1 (mi' := mX12_isDigit) (de_invokestatic (B 146 _ rfl) (B 147 _ rfl) (B 148 _ rfl)) ml_X12_181 ms_X12_isDigit (Nat.le_of_ble_eq_true rfl) (n := 149) rfl (c_X12_isDigit ?_)
        refine Vw.if_eq (tgt := 157) (n := 152) (de_if_eq (B 149 _ rfl) (B 150 _ rfl) (B 151 _ rfl)) rfl rfl (fun c_149 => ?_) (fun c_149 => ?_)
        · refine Vw.bipush (v := 100) (de_bipush (B 157 _ rfl) (B 158 _ rfl)) rfl (n := 159) rfl ?_
          refine Vw.iload_n (de_iload_3 (B 159 _ rfl)) 3 rfl (n := 160) rfl ?_
          refine Vw.sipush (v := 255) (de_sipush (B 160 _ rfl) (B 161 _ rfl) (B 162 _ rfl)) rfl (n := 163) rfl ?_
          refine Vw.iand (de_iand (B 163 _ rfl)) (n := 164) rfl ?_
          refine Vw.iadd (de_iadd (B 164 _ rfl)) (n := 165) rfl ?_
          first
          | (rw [up2_row (by omega), up2_row (by omega), huF]; rw [tCd, if_pos (by simpa [isSm] using c_132)] at store; exact store)
          | (rw [tCd, if_neg (by simp [isSm, c_132]), if_pos (by simpa [isDg] using c_149)] at store; exact store)
          | (rw [tCd, if_neg (by simp [isSm, c_132]), if_neg (by simp [isDg, c_149])] at store; exact store)
        refine Vw.bipush (v := 50) (de_bipush (B 152 _ rfl) (B 153 _ rfl)) rfl (n := 154) rfl ?_
        refine Vw.goto_ (n := 165) (de_goto_ (B 154 _ rfl) (B 155 _ rfl) (B 156 _ rfl)) rfl ?_
        first
        | (rw [up2_row (by omega), up2_row (by omega), huF]; rw [tCd, if_pos (by simpa [isSm] using c_132)] at store; exact store)
        | (rw [tCd, if_neg (by simp [isSm, c_132]), if_pos (by simpa [isDg] using c_149)] at store; exact store)
        | (rw [tCd, if_neg (by simp [isSm, c_132]), if_neg (by simp [isDg, c_149])] at store; exact store)
      refine Vw.aload_n (de_aload_0 (B 135 _ rfl)) 0 rfl (n := 136) rfl ?_
      refine Vw.iload_n (de_iload_2 (B 136 _ rfl)) 2 rfl (n := 137) rfl ?_
      refine Vw.iload (de_iload (B 137 _ rfl) (B 138 _ rfl)) 4 rfl (n := 139) rfl ?_
      refine Vw.ivi2 (mi' := mX12_wordOf) (de_invokevirtual (B 139 _ rfl) (B 140 _ rfl) (B 141 _ rfl)) ml_X12_184 mv_X12_wordOf hM.k (Nat.le_of_ble_eq_true rfl) (n := 142) rfl (c_X12_wordOf hM (by omega) (by omega) (by rw [up2_row (by omega), up2_row (by omega), hwF]; exact hW) ?_)
      refine Vw.goto_ (n := 165) (de_goto_ (B 142 _ rfl) (B 143 _ rfl) (B 144 _ rfl)) rfl ?_
      first
      | (rw [up2_row (by omega), up2_row (by omega), huF]; rw [tCd, if_pos (by simpa [isSm] using c_132)] at store; exact store)
      | (rw [tCd, if_neg (by simp [isSm, c_132]), if_pos (by simpa [isDg] using c_149)] at store; exact store)
      | (rw [tCd, if_neg (by simp [isSm, c_132]), if_neg (by simp [isDg, c_149])] at store; exact store)
    have runS : ∀ f e, e ≤ n → n ≤ e + f → Vw mX12_splits (d + 1) 0 0 0 0 (VvQ Q) 68 [(0, .ref r), (1, .int (nI n)), (2, .int (nI k)), (3, .int (I (r + 7) k)), (4, .int (nI (runE isSm (I (r + 7)) n f e)))] [] S J L → Vw mX12_splits (d + 1) 0 0 0 0 (VvQ Q) 43 [(0, .ref r), (1, .int (nI n)), (2, .int (nI k)), (3, .int (I (r + 7) k)), (4, .int (nI e))] [] S J L := by
      intro f
      induction f with
      | zero =>
        intro e he1 he2 hq
        rw [runE] at hq
        obtain rfl : e = n := by omega
        refine Vw.iload (de_iload (B 43 _ rfl) (B 44 _ rfl)) 4 rfl (n := 45) rfl ?_
        refine Vw.iload_n (de_iload_1 (B 45 _ rfl)) 1 rfl (n := 46) rfl ?_
        refine Vw.icmp_ge (tgt := 68) (n := 49) (de_icmp_ge (B 46 _ rfl) (B 47 _ rfl) (B 48 _ rfl)) rfl rfl (fun c_46 => ?_) (fun c_46 => ?_)
        · exact hq
        exact absurd ((nI_leI (by omega) (by omega)).mpr (Nat.le_refl _)) c_46
      | succ f ih =>
        intro e he1 he2 hq
        rw [runE] at hq
        refine Vw.iload (de_iload (B 43 _ rfl) (B 44 _ rfl)) 4 rfl (n := 45) rfl ?_
        refine Vw.iload_n (de_iload_1 (B 45 _ rfl)) 1 rfl (n := 46) rfl ?_
        refine Vw.icmp_ge (tgt := 68) (n := 49) (de_icmp_ge (B 46 _ rfl) (B 47 _ rfl) (B 48 _ rfl)) rfl rfl (fun c_46 => ?_) (fun c_46 => ?_)
        · first
          | (rw [if_neg (fun q => absurd ((nI_leI (a := n) (b := e) (by omega) (by omega)).mp c_46) (by omega))] at hq; exact hq)
          | (rw [if_neg (fun q => by have q2 := q.2; simp [isSm, c_59] at q2)] at hq; exact hq)
        have z_46 : e < n := by rcases Nat.lt_or_ge e n with z | z; exact z; exact absurd ((nI_leI (a := n) (b := e) (by omega) (by omega)).mpr z) c_46
        refine Vw.aload_n (de_aload_0 (B 49 _ rfl)) 0 rfl (n := 50) rfl ?_
        refine Vw.getR (de_getfield (B 50 _ rfl) (B 51 _ rfl) (B 52 _ rfl)) fl_X12_41 rfl hM.k (MS_tape hM).1 (n := 53) rfl ?_
        refine Vw.iload (de_iload (B 53 _ rfl) (B 54 _ rfl)) 4 rfl (n := 55) rfl ?_
        refine Vw.bald (de_baload (B 55 _ rfl)) (MS_tape hM).2 (vIx_n (k := e) (by simp only [nI_A, nI_M, Int32.zero_add, Int32.add_zero] <;> rfl) (by omega)) (n := 56) rfl ?_
        rw [hu]
        refine Vw.isi1 (mi' := mX12_isSmall) (de_invokestatic (B 56 _ rfl) (B 57 _ rfl) (B 58 _ rfl)) ml_X12_178 ms_X12_isSmall (Nat.le_of_ble_eq_true rfl) (n := 59) rfl (c_X12_isSmall ?_)
        refine Vw.if_eq (tgt := 68) (n := 62) (de_if_eq (B 59 _ rfl) (B 60 _ rfl) (B 61 _ rfl)) rfl rfl (fun c_59 => ?_) (fun c_59 => ?_)
        · first
          | (rw [if_neg (fun q => absurd ((nI_leI (a := n) (b := e) (by omega) (by omega)).mp c_46) (by omega))] at hq; exact hq)
          | (rw [if_neg (fun q => by have q2 := q.2; simp [isSm, c_59] at q2)] at hq; exact hq)
        refine Vw.iinc (v := nI (e + 1)) (lv2 := [(0, _), (1, _), (2, _), (3, _), (4, _)]) (de_iinc (B 62 _ rfl) (B 63 _ rfl) (B 64 _ rfl)) 4 rfl (nI_1 e) (by decide) [1, 2, 3, 4, 0] rfl (n := 65) rfl ?_
        refine Vw.goto_ (n := 43) (de_goto_ (B 65 _ rfl) (B 66 _ rfl) (B 67 _ rfl)) rfl ?_
        rw [if_pos ⟨z_46, by simpa [isSm] using c_59⟩] at hq
        exact ih (e + 1) z_46 (by omega) hq
    have runD : ∀ f e, e ≤ n → n ≤ e + f → Vw mX12_splits (d + 1) 0 0 0 0 (VvQ Q) 100 [(0, .ref r), (1, .int (nI n)), (2, .int (nI k)), (3, .int (I (r + 7) k)), (4, .int (nI (runE isDg (I (r + 7)) n f e)))] [] S J L → Vw mX12_splits (d + 1) 0 0 0 0 (VvQ Q) 75 [(0, .ref r), (1, .int (nI n)), (2, .int (nI k)), (3, .int (I (r + 7) k)), (4, .int (nI e))] [] S J L := by
      intro f
      induction f with
      | zero =>
        intro e he1 he2 hq
        rw [runE] at hq
        obtain rfl : e = n := by omega
        refine Vw.iload (de_iload (B 75 _ rfl) (B 76 _ rfl)) 4 rfl (n := 77) rfl ?_
        refine Vw.iload_n (de_iload_1 (B 77 _ rfl)) 1 rfl (n := 78) rfl ?_
        refine Vw.icmp_ge (tgt := 100) (n := 81) (de_icmp_ge (B 78 _ rfl) (B 79 _ rfl) (B 80 _ rfl)) rfl rfl (fun c_78 => ?_) (fun c_78 => ?_)
        · exact hq
        exact absurd ((nI_leI (by omega) (by omega)).mpr (Nat.le_refl _)) c_78
      | succ f ih =>
        intro e he1 he2 hq
        rw [runE] at hq
        refine Vw.iload (de_iload (B 75 _ rfl) (B 76 _ rfl)) 4 rfl (n := 77) rfl ?_
        refine Vw.iload_n (de_iload_1 (B 77 _ rfl)) 1 rfl (n := 78) rfl ?_
        refine Vw.icmp_ge (tgt := 100) (n := 81) (de_icmp_ge (B 78 _ rfl) (B 79 _ rfl) (B 80 _ rfl)) rfl rfl (fun c_78 => ?_) (fun c_78 => ?_)
        · first
          | (rw [if_neg (fun q => absurd ((nI_leI (a := n) (b := e) (by omega) (by omega)).mp c_78) (by omega))] at hq; exact hq)
          | (rw [if_neg (fun q => by have q2 := q.2; simp [isDg, c_91] at q2)] at hq; exact hq)
        have z_78 : e < n := by rcases Nat.lt_or_ge e n with z | z; exact z; exact absurd ((nI_leI (a := n) (b := e) (by omega) (by omega)).mpr z) c_78
        refine Vw.aload_n (de_aload_0 (B 81 _ rfl)) 0 rfl (n := 82) rfl ?_
        refine Vw.getR (de_getfield (B 82 _ rfl) (B 83 _ rfl) (B 84 _ rfl)) fl_X12_41 rfl hM.k (MS_tape hM).1 (n := 85) rfl ?_
        refine Vw.iload (de_iload (B 85 _ rfl) (B 86 _ rfl)) 4 rfl (n := 87) rfl ?_
        refine Vw.bald (de_baload (B 87 _ rfl)) (MS_tape hM).2 (vIx_n (k := e) (by simp only [nI_A, nI_M, Int32.zero_add, Int32.add_zero] <;> rfl) (by omega)) (n := 88) rfl ?_
        rw [hu]
        refine Vw.isi1 (mi' := mX12_isDigit) (de_invokestatic (B 88 _ rfl) (B 89 _ rfl) (B 90 _ rfl)) ml_X12_181 ms_X12_isDigit (Nat.le_of_ble_eq_true rfl) (n := 91) rfl (c_X12_isDigit ?_)
        refine Vw.if_eq (tgt := 100) (n := 94) (de_if_eq (B 91 _ rfl) (B 92 _ rfl) (B 93 _ rfl)) rfl rfl (fun c_91 => ?_) (fun c_91 => ?_)
        · first
          | (rw [if_neg (fun q => absurd ((nI_leI (a := n) (b := e) (by omega) (by omega)).mp c_78) (by omega))] at hq; exact hq)
          | (rw [if_neg (fun q => by have q2 := q.2; simp [isDg, c_91] at q2)] at hq; exact hq)
        refine Vw.iinc (v := nI (e + 1)) (lv2 := [(0, _), (1, _), (2, _), (3, _), (4, _)]) (de_iinc (B 94 _ rfl) (B 95 _ rfl) (B 96 _ rfl)) 4 rfl (nI_1 e) (by decide) [1, 2, 3, 4, 0] rfl (n := 97) rfl ?_
        refine Vw.goto_ (n := 75) (de_goto_ (B 97 _ rfl) (B 98 _ rfl) (B 99 _ rfl)) rfl ?_
        rw [if_pos ⟨z_78, by simpa [isDg] using c_91⟩] at hq
        exact ih (e + 1) z_78 (by omega) hq
    refine Vw.iload_n (de_iload_2 (B 31 _ rfl)) 2 rfl (n := 32) rfl ?_
    refine Vw.iconst (v := 1) (de_iconst_1 (B 32 _ rfl)) rfl (n := 33) rfl ?_
    refine Vw.iadd (de_iadd (B 33 _ rfl)) (n := 34) rfl ?_
    rw [nI_1 k]
    refine Vw.istore (lv2 := [(0, _), (1, _), (2, _), (3, _), (4, _)]) (de_istore (B 34 _ rfl) (B 35 _ rfl)) (by decide) [1, 2, 3, 4, 0] rfl (n := 36) rfl ?_
    refine Vw.iload_n (de_iload_3 (B 36 _ rfl)) 3 rfl (n := 37) rfl ?_
    refine Vw.isi1 (mi' := mX12_isSmall) (de_invokestatic (B 37 _ rfl) (B 38 _ rfl) (B 39 _ rfl)) ml_X12_178 ms_X12_isSmall (Nat.le_of_ble_eq_true rfl) (n := 40) rfl (c_X12_isSmall ?_)
    refine Vw.if_eq (tgt := 68) (n := 43) (de_if_eq (B 40 _ rfl) (B 41 _ rfl) (B 42 _ rfl)) rfl rfl (fun c_40 => ?_) (fun c_40 => ?_)
    · refine Vw.iload_n (de_iload_3 (B 68 _ rfl)) 3 rfl (n := 69) rfl ?_
      refine Vw.isi1 (mi' := mX12_isDigit) (de_invokestatic (B 69 _ rfl) (B 70 _ rfl) (B 71 _ rfl)) ml_X12_181 ms_X12_isDigit (Nat.le_of_ble_eq_true rfl) (n := 72) rfl (c_X12_isDigit ?_)
      refine Vw.if_eq (tgt := 100) (n := 75) (de_if_eq (B 72 _ rfl) (B 73 _ rfl) (B 74 _ rfl)) rfl rfl (fun c_72 => ?_) (fun c_72 => ?_)
      · have hsm : ¬ isSm (I (r + 7) k) = true := by simp [isSm, c_40]
        have hdg : ¬ isDg (I (r + 7) k) = true := by simp [isDg, c_72]
        rw [tEnd, if_neg hsm, if_neg hdg] at hE
        rw [hE]
        exact laid
      have hsm : ¬ isSm (I (r + 7) k) = true := by simp [isSm, c_40]
      have hdg : isDg (I (r + 7) k) = true := by simpa [isDg] using c_72
      refine runD 400 (k + 1) (by omega) (by omega) ?_
      rw [tEnd, if_neg hsm, if_pos hdg] at hE
      rw [hE]
      exact laid
    have hsm : isSm (I (r + 7) k) = true := by simpa [isSm] using c_40
    refine runS 400 (k + 1) (by omega) (by omega) ?_
    rw [tEnd, if_pos hsm] at hE
    rw [hE]
    refine Vw.iload_n (de_iload_3 (B 68 _ rfl)) 3 rfl (n := 69) rfl ?_
    refine Vw.isi1 (mi' := mX12_isDigit) (de_invokestatic (B 69 _ rfl) (B 70 _ rfl) (B 71 _ rfl)) ml_X12_181 ms_X12_isDigit (Nat.le_of_ble_eq_true rfl) (n := 72) rfl (c_X12_isDigit ?_)
    refine Vw.if_eq (tgt := 100) (n := 75) (de_if_eq (B 72 _ rfl) (B 73 _ rfl) (B 74 _ rfl)) rfl rfl (fun c_72 => ?_) (fun c_72 => ?_)
    · exact laid
    exact absurd (sm_nd hsm) c_72
  have loop : ∀ (f : Nat) (J : vI) (t k : Nat) (pre : List (Nat × Nat)), SP I J r t (I (r + 7)) pre → t ≤ k → k ≤ n → n < k + f → (∀ I2 nt, SP I I2 r nt (I (r + 7)) (pre ++ tkL (I (r + 7)) n f k) → nt ≤ 400 → Q S (tm I2 r nt n 0 0) L) → Vw mX12_splits (d + 1) 0 0 0 0 (VvQ Q) 7 [(0, .ref r), (1, .int (nI n)), (2, .int (nI k))] [] S J L := by
    intro f
    induction f with
    | zero => intro J t k pre h1 h2 h3 h4; exact absurd h4 (by omega)
    | succ f ih =>
      intro J t k pre hs htk hkn hf hq
      have hu : ∀ x, J (r + 7) x = I (r + 7) x := fun x => hs.1 _ _ (by omega) (by omega) (by omega) (by omega)
      have ht := hs.2.1
      rw [tkL] at hq
      refine Vw.iload_n (de_iload_2 (B 7 _ rfl)) 2 rfl (n := 8) rfl ?_
      refine Vw.iload_n (de_iload_1 (B 8 _ rfl)) 1 rfl (n := 9) rfl ?_
      refine Vw.icmp_ge (tgt := 263) (n := 12) (de_icmp_ge (B 9 _ rfl) (B 10 _ rfl) (B 11 _ rfl)) rfl rfl (fun c_9 => ?_) (fun c_9 => ?_)
      · have z_9 : n ≤ k := ((nI_leI (a := n) (b := k) (by omega) (by omega)).mp c_9)
        obtain rfl : k = n := by omega
        rw [if_neg (Nat.lt_irrefl _), List.append_nil] at hq
        refine Vw.aload_n (de_aload_0 (B 263 _ rfl)) 0 rfl (n := 264) rfl ?_
        refine Vw.getR (de_getfield (B 264 _ rfl) (B 265 _ rfl) (B 266 _ rfl)) fl_X12_56 rfl hM.k (MS_placed hM).1 (n := 267) rfl ?_
        refine Vw.aload_n (de_aload_0 (B 267 _ rfl)) 0 rfl (n := 268) rfl ?_
        refine Vw.getI (de_getfield (B 268 _ rfl) (B 269 _ rfl) (B 270 _ rfl)) fl_X12_175 rfl hM.k (n := 271) rfl ?_
        rw [ht]
        refine Vw.iload_n (de_iload_1 (B 271 _ rfl)) 1 rfl (n := 272) rfl ?_
        refine Vw.iast (de_iastore (B 272 _ rfl)) (MS_placed hM).2 (vIx_nI (j := t) (by omega) (by decide)) (n := 273) rfl ?_
        refine Vw.aload_n (de_aload_0 (B 273 _ rfl)) 0 rfl (n := 274) rfl ?_
        refine Vw.getR (de_getfield (B 274 _ rfl) (B 275 _ rfl) (B 276 _ rfl)) fl_X12_50 rfl hM.k (MS_code hM).1 (n := 277) rfl ?_
        refine Vw.aload_n (de_aload_0 (B 277 _ rfl)) 0 rfl (n := 278) rfl ?_
        refine Vw.getI (de_getfield (B 278 _ rfl) (B 279 _ rfl) (B 280 _ rfl)) fl_X12_175 rfl hM.k (n := 281) rfl ?_
        rw [up2_a (by omega), ht]
        refine Vw.iconst (v := 0) (de_iconst_0 (B 281 _ rfl)) rfl (n := 282) rfl ?_
        refine Vw.iast (de_iastore (B 282 _ rfl)) (MS_code hM).2 (vIx_nI (j := t) (by omega) (by decide)) (n := 283) rfl ?_
        refine Vw.aload_n (de_aload_0 (B 283 _ rfl)) 0 rfl (n := 284) rfl ?_
        refine Vw.getR (de_getfield (B 284 _ rfl) (B 285 _ rfl) (B 286 _ rfl)) fl_X12_53 rfl hM.k (MS_value hM).1 (n := 287) rfl ?_
        refine Vw.aload_n (de_aload_0 (B 287 _ rfl)) 0 rfl (n := 288) rfl ?_
        refine Vw.getI (de_getfield (B 288 _ rfl) (B 289 _ rfl) (B 290 _ rfl)) fl_X12_175 rfl hM.k (n := 291) rfl ?_
        rw [up2_a (by omega), up2_a (by omega), ht]
        refine Vw.iconst (v := 0) (de_iconst_0 (B 291 _ rfl)) rfl (n := 292) rfl ?_
        refine Vw.iast (de_iastore (B 292 _ rfl)) (MS_value hM).2 (vIx_nI (j := t) (by omega) (by decide)) (n := 293) rfl ?_
        exact Vw.vret (de_return_ (B 293 _ rfl)) rfl ⟨rfl, (by rw [tm_2]; exact hq J t hs (by omega))⟩
      have z_9 : k < n := by rcases Nat.lt_or_ge k n with z | z; exact z; exact absurd ((nI_leI (a := n) (b := k) (by omega) (by omega)).mpr z) c_9
      rw [if_pos z_9] at hq
      refine Vw.aload_n (de_aload_0 (B 12 _ rfl)) 0 rfl (n := 13) rfl ?_
      refine Vw.getR (de_getfield (B 13 _ rfl) (B 14 _ rfl) (B 15 _ rfl)) fl_X12_41 rfl hM.k (MS_tape hM).1 (n := 16) rfl ?_
      refine Vw.iload_n (de_iload_2 (B 16 _ rfl)) 2 rfl (n := 17) rfl ?_
      refine Vw.bald (de_baload (B 17 _ rfl)) (MS_tape hM).2 (vIx_n (k := k) (by simp only [nI_A, nI_M, Int32.zero_add, Int32.add_zero] <;> rfl) (by omega)) (n := 18) rfl ?_
      rw [hu]
      refine Vw.istore_n (lv2 := [(0, _), (1, _), (2, _), (3, _)]) (de_istore_3 (B 18 _ rfl)) rfl (by decide) [1, 2, 3, 0] rfl (n := 19) rfl ?_
      refine Vw.iload_n (de_iload_3 (B 19 _ rfl)) 3 rfl (n := 20) rfl ?_
      refine Vw.bipush (v := 32) (de_bipush (B 20 _ rfl) (B 21 _ rfl)) rfl (n := 22) rfl ?_
      refine Vw.icmp_ne (tgt := 31) (n := 25) (de_icmp_ne (B 22 _ rfl) (B 23 _ rfl) (B 24 _ rfl)) rfl rfl (fun c_22 => ?_) (fun c_22 => ?_)
      · rw [if_neg c_22] at hq
        refine body J t k pre hs htk z_9 c_22 ?_
        have hE := tEnd_b (u := I (r + 7)) z_9
        exact ih _ (t + 1) (tEnd (I (r + 7)) n k) (pre ++ [(k, tEnd (I (r + 7)) n k)]) (SP_next hs) (by omega) hE.2 (by omega) (fun I2 nt g => hq I2 nt (by rw [List.append_assoc] at g; exact g))
      refine Vw.iinc (v := nI (k + 1)) (lv2 := [(0, _), (1, _), (2, _), (3, _)]) (de_iinc (B 25 _ rfl) (B 26 _ rfl) (B 27 _ rfl)) 2 rfl (nI_1 k) (by decide) [1, 2, 0, 3] rfl (n := 28) rfl ?_
      refine Vw.goto_ (n := 7) (de_goto_ (B 28 _ rfl) (B 29 _ rfl) (B 30 _ rfl)) rfl ?_
      refine Vw.lvs (lv2 := [(0, _), (1, _), (2, _)]) [0, 1, 2] rfl ?_
      rw [if_pos c_22] at hq
      exact ih J t (k + 1) pre hs (by omega) z_9 (by omega) hq
  refine Vw.aload_n (de_aload_0 (B 0 _ rfl)) 0 rfl (n := 1) rfl ?_
  refine Vw.iconst (v := 0) (de_iconst_0 (B 1 _ rfl)) rfl (n := 2) rfl ?_
  refine Vw.putI (de_putfield (B 2 _ rfl) (B 3 _ rfl) (B 4 _ rfl)) fl_X12_175 hM.k rfl rfl (n := 5) rfl ?_
  refine Vw.iconst (v := 0) (de_iconst_0 (B 5 _ rfl)) rfl (n := 6) rfl ?_
  refine Vw.istore_n (lv2 := [(0, _), (1, _), (2, _)]) (de_istore_2 (B 6 _ rfl)) rfl (by decide) [1, 2, 0] rfl (n := 7) rfl ?_
  refine loop 401 _ 0 0 [] ⟨fun a x h1 h2 h3 h4 => up2_n h4, up2_s _ _ _ _, rfl, fun i s e q => by simp at q⟩ (Nat.le_refl 0) (Nat.zero_le n) (by omega) (fun I2 nt g1 g2 => h I2 nt g1 g2)
