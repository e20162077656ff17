theorem c_X12_laysOptions {d : Nat} {S : vS} {I : vI} {L : vL} {Q : vS → vI → vL → Prop} {r : Nat} {t : Int32} {n : Nat} {np nc : Nat} {W : tW} (hM : MS S r) (hW : WD (I (r + 2)) W) (hT : TN (I (r + 2)) np nc) (hB : ∀ q, q < np → PBt (perP (I (r + 2)) q)) (hn : n ≤ 40) (h : ∀ I2, Fc r I I2 → (∀ j, j < 16 * np → I2 (r + 18) j = (oCl W (I (r + 2)) t) (j / 16) (j % 16) ∧ I2 (r + 19) j = (oPay W (I (r + 2)) t n) (j / 16) (j % 16)) → (∀ x, 0 ≤ x → x < 1000 * (np + 1) → I2 (r + 20) x = mostR (oCl W (I (r + 2)) t) (oPay W (I (r + 2)) t n) np (np - x / 1000) (x % 1000)) → Q S I2 L) : Vc mX12_laysOptions (d + 46) 0 0 [.ref r, .int t, .int (nI n)] S I L (VvQ Q) := by
  refine Vc.of rfl (Nat.le_of_ble_eq_true rfl) ?_
  have B := bs_X12_laysOptions
  show Vw mX12_laysOptions (d + 46) 0 0 0 0 (VvQ Q) 0 [(0, .ref r), (1, .int t), (2, .int (nI n))] [] S I L
  have hnp := hT.1
  have hnc := hT.2.1
  have e142 := hT.2.2.1
  have e112 := hT.2.2.2.1
  have hCN : CN (oCl W (I (r + 2)) t) np := oCl_n hB
  have fill : ∀ mm, mm ≤ np → ∀ J, Fc r I J → (∀ j, j < 16 * np → J (r + 18) j = (oCl W (I (r + 2)) t) (j / 16) (j % 16) ∧ J (r + 19) j = (oPay W (I (r + 2)) t n) (j / 16) (j % 16)) → (∀ x, 1000 * (np - mm) ≤ x → x < 1000 * (np + 1) → J (r + 20) x = mostR (oCl W (I (r + 2)) t) (oPay W (I (r + 2)) t n) np (np - x / 1000) (x % 1000)) → Vw mX12_laysOptions (d + 46) 0 0 0 0 (VvQ Q) 212 [(0, .ref r), (1, .int t), (2, .int (nI n)), (3, .int 1000), (4, .int (nI (np - mm) - 1))] [] S J L := by
    refine loop_up (fun mm hm ih => ?_)
    intro J fJ oJ mJ
    by_cases hmn : mm = np
    · subst hmn
      rw [Nat.sub_self]
      refine Vw.iload (de_iload (B 212 _ rfl) (B 213 _ rfl)) 4 rfl (n := 214) rfl ?_
      refine Vw.if_lt (tgt := 351) (n := 217) (de_if_lt (B 214 _ rfl) (B 215 _ rfl) (B 216 _ rfl)) rfl rfl (fun c_214 => ?_) (fun c_214 => ?_)
      · exact Vw.vret (de_return_ (B 351 _ rfl)) rfl ⟨rfl, (h J fJ oJ (fun x h1 h2 => mJ x (by omega) h2))⟩
      exact absurd (by decide) c_214
    · obtain ⟨pp, hpp⟩ : ∃ pp, np - mm = pp + 1 := ⟨np - mm - 1, by omega⟩
      have hk2 : np - (mm + 1) = pp := by omega
      have hmm : np - (pp + 1) = mm := by omega
      have hpm : np - pp = mm + 1 := by omega
      rw [hpp, dn_p]
      have rowL : ∀ c, c ≤ 1000 → ∀ J, Fc r I J → (∀ j, j < 16 * np → J (r + 18) j = (oCl W (I (r + 2)) t) (j / 16) (j % 16) ∧ J (r + 19) j = (oPay W (I (r + 2)) t n) (j / 16) (j % 16)) → (∀ x, 1000 * (pp + 1) ≤ x → x < 1000 * (np + 1) → J (r + 20) x = mostR (oCl W (I (r + 2)) t) (oPay W (I (r + 2)) t n) np (np - x / 1000) (x % 1000)) → (∀ x, 1000 * pp ≤ x → x < 1000 * pp + c → J (r + 20) x = mostR (oCl W (I (r + 2)) t) (oPay W (I (r + 2)) t n) np (np - x / 1000) (x % 1000)) → Vw mX12_laysOptions (d + 46) 0 0 0 0 (VvQ Q) 220 [(0, .ref r), (1, .int t), (2, .int (nI n)), (3, .int 1000), (4, .int (nI pp)), (5, .int (nI c))] [] S J L := by
        refine loop_up (fun c hc ih2 => ?_)
        intro J fJ oJ mJ mJ2
        have optL : c < 1000 → ∀ k, k ≤ 16 → Vw mX12_laysOptions (d + 46) 0 0 0 0 (VvQ Q) 245 [(0, .ref r), (1, .int t), (2, .int (nI n)), (3, .int 1000), (4, .int (nI pp)), (5, .int (nI c)), (6, .int (bestO ((oCl W (I (r + 2)) t) pp) ((oPay W (I (r + 2)) t n) pp) (mostR (oCl W (I (r + 2)) t) (oPay W (I (r + 2)) t n) np mm) c k)), (7, .int (nI k))] [] S J L := by
          intro hc9
          refine loop_up (fun k hk ih3 => ?_)
          refine Vw.iload (de_iload (B 245 _ rfl) (B 246 _ rfl)) 7 rfl (n := 247) rfl ?_
          refine Vw.bipush (v := 16) (de_bipush (B 247 _ rfl) (B 248 _ rfl)) rfl (n := 249) rfl ?_
          refine Vw.icmp_ge (tgt := 325) (n := 252) (de_icmp_ge (B 249 _ rfl) (B 250 _ rfl) (B 251 _ rfl)) rfl rfl (fun c_249 => ?_) (fun c_249 => ?_)
          · have z_249 : 16 ≤ k := ((nI_leI (a := 16) (b := k) (by omega) (by omega)).mp c_249)
            obtain rfl : k = 16 := by omega
            refine Vw.aload_n (de_aload_0 (B 325 _ rfl)) 0 rfl (n := 326) rfl ?_
            refine Vw.getR (de_getfield (B 326 _ rfl) (B 327 _ rfl) (B 328 _ rfl)) fl_X12_84 rfl hM.k (MS_most hM).1 (n := 329) rfl ?_
            refine Vw.iload_n (de_iload_3 (B 329 _ rfl)) 3 rfl (n := 330) rfl ?_
            refine Vw.iload (de_iload (B 330 _ rfl) (B 331 _ rfl)) 4 rfl (n := 332) rfl ?_
            refine Vw.imul (de_imul (B 332 _ rfl)) (n := 333) rfl ?_
            refine Vw.iload (de_iload (B 333 _ rfl) (B 334 _ rfl)) 5 rfl (n := 335) rfl ?_
            refine Vw.iadd (de_iadd (B 335 _ rfl)) (n := 336) rfl ?_
            refine Vw.iload (de_iload (B 336 _ rfl) (B 337 _ rfl)) 6 rfl (n := 338) rfl ?_
            refine Vw.iast (de_iastore (B 338 _ rfl)) (MS_most hM).2 (vIx_n (k := 1000 * pp + c) (by simp only [nI_A, nI_M, Int32.zero_add, Int32.add_zero] <;> rfl) (by omega)) (n := 339) rfl ?_
            refine Vw.iinc (v := nI (c + 1)) (lv2 := [(0, _), (1, _), (2, _), (3, _), (4, _), (5, _), (6, _), (7, _)]) (de_iinc (B 339 _ rfl) (B 340 _ rfl) (B 341 _ rfl)) 5 rfl (nI_1 c) (by decide) [1, 2, 3, 4, 5, 0, 6, 7] rfl (n := 342) rfl ?_
            refine Vw.goto_ (n := 220) (de_goto_ (B 342 _ rfl) (B 343 _ rfl) (B 344 _ rfl)) rfl ?_
            refine Vw.lvs (lv2 := [(0, _), (1, _), (2, _), (3, _), (4, _), (5, _)]) [0, 1, 2, 3, 4, 5] rfl ?_
            refine ih2 hc9 _ (fJ.u (by omega)) (fun j hj => by rw [up2_a (by omega), up2_a (by omega)]; exact oJ j hj) (fun x h1 h2 => by rw [up2_k (by omega)]; exact mJ x h1 h2) (fun x h1 h2 => ?_)
            by_cases e : x = 1000 * pp + c
            · rw [e, up2_s, show (1000 * pp + c) / 1000 = pp by omega, show (1000 * pp + c) % 1000 = c by omega, hpm, mostR]
              simp only
              rw [hk2]
            · rw [up2_k e]; exact mJ2 x h1 (by omega)
          have z_249 : k < 16 := by rcases Nat.lt_or_ge k 16 with z | z; exact z; exact absurd ((nI_leI (a := 16) (b := k) (by omega) (by omega)).mpr z) c_249
          have o1 := oJ (16 * pp + k) (by omega)
          rw [show (16 * pp + k) / 16 = pp by omega, show (16 * pp + k) % 16 = k by omega] at o1
          refine Vw.aload_n (de_aload_0 (B 252 _ rfl)) 0 rfl (n := 253) rfl ?_
          refine Vw.getR (de_getfield (B 253 _ rfl) (B 254 _ rfl) (B 255 _ rfl)) fl_X12_78 rfl hM.k (MS_optionCloth hM).1 (n := 256) rfl ?_
          refine Vw.bipush (v := 16) (de_bipush (B 256 _ rfl) (B 257 _ rfl)) rfl (n := 258) rfl ?_
          refine Vw.iload (de_iload (B 258 _ rfl) (B 259 _ rfl)) 4 rfl (n := 260) rfl ?_
          refine Vw.imul (de_imul (B 260 _ rfl)) (n := 261) rfl ?_
          refine Vw.iload (de_iload (B 261 _ rfl) (B 262 _ rfl)) 7 rfl (n := 263) rfl ?_
          refine Vw.iadd (de_iadd (B 263 _ rfl)) (n := 264) rfl ?_
          refine Vw.iald (de_iaload (B 264 _ rfl)) (MS_optionCloth hM).2 (vIx_n (k := 16 * pp + k) (by simp only [nI_A, nI_M, Int32.zero_add, Int32.add_zero] <;> rfl) (by omega)) (n := 265) rfl ?_
          rw [o1.1]
          refine Vw.iload (de_iload (B 265 _ rfl) (B 266 _ rfl)) 5 rfl (n := 267) rfl ?_
          refine Vw.icmp_gt (tgt := 319) (n := 270) (de_icmp_gt (B 267 _ rfl) (B 268 _ rfl) (B 269 _ rfl)) rfl rfl (fun c_267 => ?_) (fun c_267 => ?_)
          · refine Vw.iinc (v := nI (k + 1)) (lv2 := [(0, _), (1, _), (2, _), (3, _), (4, _), (5, _), (6, _), (7, _)]) (de_iinc (B 319 _ rfl) (B 320 _ rfl) (B 321 _ rfl)) 7 rfl (nI_1 k) (by decide) [1, 2, 3, 4, 5, 6, 7, 0] rfl (n := 322) rfl ?_
            refine Vw.goto_ (n := 245) (de_goto_ (B 322 _ rfl) (B 323 _ rfl) (B 324 _ rfl)) rfl ?_
            have g := ih3 z_249
            rw [bestO] at g
            first
            | (rw [if_neg (fun z => absurd c_267 (Int32.not_lt.mpr z))] at g; exact g)
            | (rw [if_pos (Int32.not_lt.mp c_267), ecn, nI_cl (by omega)] at g; exact g)
          obtain ⟨cn, hcn, ecn⟩ := hCN pp k (by omega) z_249
          have hcc : cn ≤ c := (nI_leI (a := cn) (b := c) (by omega) (by omega)).mp (by rw [← ecn]; exact Int32.not_lt.mp c_267)
          refine Vw.iload (de_iload (B 270 _ rfl) (B 271 _ rfl)) 6 rfl (n := 272) rfl ?_
          refine Vw.aload_n (de_aload_0 (B 272 _ rfl)) 0 rfl (n := 273) rfl ?_
          refine Vw.getR (de_getfield (B 273 _ rfl) (B 274 _ rfl) (B 275 _ rfl)) fl_X12_81 rfl hM.k (MS_optionPays hM).1 (n := 276) rfl ?_
          refine Vw.bipush (v := 16) (de_bipush (B 276 _ rfl) (B 277 _ rfl)) rfl (n := 278) rfl ?_
          refine Vw.iload (de_iload (B 278 _ rfl) (B 279 _ rfl)) 4 rfl (n := 280) rfl ?_
          refine Vw.imul (de_imul (B 280 _ rfl)) (n := 281) rfl ?_
          refine Vw.iload (de_iload (B 281 _ rfl) (B 282 _ rfl)) 7 rfl (n := 283) rfl ?_
          refine Vw.iadd (de_iadd (B 283 _ rfl)) (n := 284) rfl ?_
          refine Vw.iald (de_iaload (B 284 _ rfl)) (MS_optionPays hM).2 (vIx_n (k := 16 * pp + k) (by simp only [nI_A, nI_M, Int32.zero_add, Int32.add_zero] <;> rfl) (by omega)) (n := 285) rfl ?_
          rw [o1.2]
          refine Vw.aload_n (de_aload_0 (B 285 _ rfl)) 0 rfl (n := 286) rfl ?_
          refine Vw.getR (de_getfield (B 286 _ rfl) (B 287 _ rfl) (B 288 _ rfl)) fl_X12_84 rfl hM.k (MS_most hM).1 (n := 289) rfl ?_
          refine Vw.iload_n (de_iload_3 (B 289 _ rfl)) 3 rfl (n := 290) rfl ?_
          refine Vw.iload (de_iload (B 290 _ rfl) (B 291 _ rfl)) 4 rfl (n := 292) rfl ?_
          refine Vw.iconst (v := 1) (de_iconst_1 (B 292 _ rfl)) rfl (n := 293) rfl ?_
          refine Vw.iadd (de_iadd (B 293 _ rfl)) (n := 294) rfl ?_
          refine Vw.imul (de_imul (B 294 _ rfl)) (n := 295) rfl ?_
          refine Vw.iload (de_iload (B 295 _ rfl) (B 296 _ rfl)) 5 rfl (n := 297) rfl ?_
          refine Vw.iadd (de_iadd (B 297 _ rfl)) (n := 298) rfl ?_
          refine Vw.aload_n (de_aload_0 (B 298 _ rfl)) 0 rfl (n := 299) rfl ?_
          refine Vw.getR (de_getfield (B 299 _ rfl) (B 300 _ rfl) (B 301 _ rfl)) fl_X12_78 rfl hM.k (MS_optionCloth hM).1 (n := 302) rfl ?_
          refine Vw.bipush (v := 16) (de_bipush (B 302 _ rfl) (B 303 _ rfl)) rfl (n := 304) rfl ?_
          refine Vw.iload (de_iload (B 304 _ rfl) (B 305 _ rfl)) 4 rfl (n := 306) rfl ?_
          refine Vw.imul (de_imul (B 306 _ rfl)) (n := 307) rfl ?_
          refine Vw.iload (de_iload (B 307 _ rfl) (B 308 _ rfl)) 7 rfl (n := 309) rfl ?_
          refine Vw.iadd (de_iadd (B 309 _ rfl)) (n := 310) rfl ?_
          refine Vw.iald (de_iaload (B 310 _ rfl)) (MS_optionCloth hM).2 (vIx_n (k := 16 * pp + k) (by simp only [nI_A, nI_M, Int32.zero_add, Int32.add_zero] <;> rfl) (by omega)) (n := 311) rfl ?_
          rw [o1.1, ecn]
          refine Vw.isub (de_isub (B 311 _ rfl)) (n := 312) rfl ?_
          rw [nI_ms (P := pp + 1) hcc (by omega) (nI_1 pp).symm]
          refine Vw.iald (de_iaload (B 312 _ rfl)) (MS_most hM).2 (vIx_n (k := 1000 * (pp + 1) + (c - cn)) rfl (by omega)) (n := 313) rfl ?_
          rw [mJ (1000 * (pp + 1) + (c - cn)) (by omega) (by omega), show (1000 * (pp + 1) + (c - cn)) / 1000 = pp + 1 by omega, show (1000 * (pp + 1) + (c - cn)) % 1000 = c - cn by omega, hmm]
          refine Vw.iadd (de_iadd (B 313 _ rfl)) (n := 314) rfl ?_
          refine Vw.isi2 (mi' := mX12_greater) (de_invokestatic (B 314 _ rfl) (B 315 _ rfl) (B 316 _ rfl)) ml_X12_410 ms_X12_greater (Nat.le_of_ble_eq_true rfl) (n := 317) rfl (c_X12_greater ?_)
          refine Vw.istore (lv2 := [(0, _), (1, _), (2, _), (3, _), (4, _), (5, _), (6, _), (7, _)]) (de_istore (B 317 _ rfl) (B 318 _ rfl)) (by decide) [1, 2, 3, 4, 5, 6, 0, 7] rfl (n := 319) rfl ?_
          refine Vw.iinc (v := nI (k + 1)) (lv2 := [(0, _), (1, _), (2, _), (3, _), (4, _), (5, _), (6, _), (7, _)]) (de_iinc (B 319 _ rfl) (B 320 _ rfl) (B 321 _ rfl)) 7 rfl (nI_1 k) (by decide) [1, 2, 3, 4, 5, 6, 7, 0] rfl (n := 322) rfl ?_
          refine Vw.goto_ (n := 245) (de_goto_ (B 322 _ rfl) (B 323 _ rfl) (B 324 _ rfl)) rfl ?_
          have g := ih3 z_249
          rw [bestO] at g
          first
          | (rw [if_neg (fun z => absurd c_267 (Int32.not_lt.mpr z))] at g; exact g)
          | (rw [if_pos (Int32.not_lt.mp c_267), ecn, nI_cl (by omega)] at g; exact g)
        refine Vw.iload (de_iload (B 220 _ rfl) (B 221 _ rfl)) 5 rfl (n := 222) rfl ?_
        refine Vw.iload_n (de_iload_3 (B 222 _ rfl)) 3 rfl (n := 223) rfl ?_
        refine Vw.icmp_ge (tgt := 345) (n := 226) (de_icmp_ge (B 223 _ rfl) (B 224 _ rfl) (B 225 _ rfl)) rfl rfl (fun c_223 => ?_) (fun c_223 => ?_)
        · have z_223 : 1000 ≤ c := ((nI_leI (a := 1000) (b := c) (by omega) (by omega)).mp c_223)
          obtain rfl : c = 1000 := by omega
          refine Vw.iinc (v := nI pp - 1) (lv2 := [(0, _), (1, _), (2, _), (3, _), (4, _), (5, _)]) (de_iinc (B 345 _ rfl) (B 346 _ rfl) (B 347 _ rfl)) 4 rfl (inc_m1 _) (by decide) [1, 2, 3, 4, 0, 5] rfl (n := 348) rfl ?_
          refine Vw.goto_ (n := 212) (de_goto_ (B 348 _ rfl) (B 349 _ rfl) (B 350 _ rfl)) rfl ?_
          refine Vw.lvs (lv2 := [(0, _), (1, _), (2, _), (3, _), (4, _)]) [0, 1, 2, 3, 4] rfl ?_
          have g := ih (by omega) J fJ oJ (fun x h1 h2 => by
            rw [hk2] at h1
            rcases Nat.lt_or_ge x (1000 * (pp + 1)) with z | z
            · exact mJ2 x h1 (by omega)
            · exact mJ x z h2)
          rw [hk2] at g
          exact g
        have z_223 : c < 1000 := by rcases Nat.lt_or_ge c 1000 with z | z; exact z; exact absurd ((nI_leI (a := 1000) (b := c) (by omega) (by omega)).mpr z) c_223
        refine Vw.aload_n (de_aload_0 (B 226 _ rfl)) 0 rfl (n := 227) rfl ?_
        refine Vw.getR (de_getfield (B 227 _ rfl) (B 228 _ rfl) (B 229 _ rfl)) fl_X12_84 rfl hM.k (MS_most hM).1 (n := 230) rfl ?_
        refine Vw.iload_n (de_iload_3 (B 230 _ rfl)) 3 rfl (n := 231) rfl ?_
        refine Vw.iload (de_iload (B 231 _ rfl) (B 232 _ rfl)) 4 rfl (n := 233) rfl ?_
        refine Vw.iconst (v := 1) (de_iconst_1 (B 233 _ rfl)) rfl (n := 234) rfl ?_
        refine Vw.iadd (de_iadd (B 234 _ rfl)) (n := 235) rfl ?_
        refine Vw.imul (de_imul (B 235 _ rfl)) (n := 236) rfl ?_
        refine Vw.iload (de_iload (B 236 _ rfl) (B 237 _ rfl)) 5 rfl (n := 238) rfl ?_
        refine Vw.iadd (de_iadd (B 238 _ rfl)) (n := 239) rfl ?_
        refine Vw.iald (de_iaload (B 239 _ rfl)) (MS_most hM).2 (vIx_n (k := 1000 * (pp + 1) + c) (by simp only [nI_A, nI_M, Int32.zero_add, Int32.add_zero] <;> rfl) (by omega)) (n := 240) rfl ?_
        rw [mJ (1000 * (pp + 1) + c) (by omega) (by omega), show (1000 * (pp + 1) + c) / 1000 = pp + 1 by omega, show (1000 * (pp + 1) + c) % 1000 = c by omega, hmm]
        refine Vw.istore (lv2 := [(0, _), (1, _), (2, _), (3, _), (4, _), (5, _), (6, _)]) (de_istore (B 240 _ rfl) (B 241 _ rfl)) (by decide) [1, 2, 3, 4, 5, 6, 0] rfl (n := 242) rfl ?_
        refine Vw.iconst (v := 0) (de_iconst_0 (B 242 _ rfl)) rfl (n := 243) rfl ?_
        refine Vw.istore (lv2 := [(0, _), (1, _), (2, _), (3, _), (4, _), (5, _), (6, _), (7, _)]) (de_istore (B 243 _ rfl) (B 244 _ rfl)) (by decide) [1, 2, 3, 4, 5, 6, 7, 0] rfl (n := 245) rfl ?_
        exact optL z_223 0 (Nat.zero_le _)
      refine Vw.iload (de_iload (B 212 _ rfl) (B 213 _ rfl)) 4 rfl (n := 214) rfl ?_
      refine Vw.if_lt (tgt := 351) (n := 217) (de_if_lt (B 214 _ rfl) (B 215 _ rfl) (B 216 _ rfl)) rfl rfl (fun c_214 => ?_) (fun c_214 => ?_)
      · exact absurd c_214 (Int32.not_lt.mpr ((nI_leI (a := 0) (b := pp) (by omega) (by omega)).mpr (Nat.zero_le _)))
      refine Vw.iconst (v := 0) (de_iconst_0 (B 217 _ rfl)) rfl (n := 218) rfl ?_
      refine Vw.istore (lv2 := [(0, _), (1, _), (2, _), (3, _), (4, _), (5, _)]) (de_istore (B 218 _ rfl) (B 219 _ rfl)) (by decide) [1, 2, 3, 4, 5, 0] rfl (n := 220) rfl ?_
      exact rowL 0 (Nat.zero_le _) J fJ oJ (fun x h1 h2 => mJ x (by omega) h2) (fun x h1 h2 => absurd h2 (by omega))
  have zeroL : ∀ c, c ≤ 1000 → ∀ J, Fc r I J → (∀ j, j < 16 * np → J (r + 18) j = (oCl W (I (r + 2)) t) (j / 16) (j % 16) ∧ J (r + 19) j = (oPay W (I (r + 2)) t n) (j / 16) (j % 16)) → (∀ x, 1000 * np ≤ x → x < 1000 * np + c → J (r + 20) x = 0) → Vw mX12_laysOptions (d + 46) 0 0 0 0 (VvQ Q) 177 [(0, .ref r), (1, .int t), (2, .int (nI n)), (3, .int 1000), (4, .int (nI c))] [] S J L := by
    refine loop_up (fun c hc ih => ?_)
    intro J fJ oJ zJ
    have p142 : J (r + 2) 142 = nI np := by rw [fJ.k]; exact e142
    refine Vw.iload (de_iload (B 177 _ rfl) (B 178 _ rfl)) 4 rfl (n := 179) rfl ?_
    refine Vw.iload_n (de_iload_3 (B 179 _ rfl)) 3 rfl (n := 180) rfl ?_
    refine Vw.icmp_ge (tgt := 204) (n := 183) (de_icmp_ge (B 180 _ rfl) (B 181 _ rfl) (B 182 _ rfl)) rfl rfl (fun c_180 => ?_) (fun c_180 => ?_)
    · have z_180 : 1000 ≤ c := ((nI_leI (a := 1000) (b := c) (by omega) (by omega)).mp c_180)
      obtain rfl : c = 1000 := by omega
      refine Vw.aload_n (de_aload_0 (B 204 _ rfl)) 0 rfl (n := 205) rfl ?_
      refine Vw.ivi0 (mi' := mX12_people) (de_invokevirtual (B 205 _ rfl) (B 206 _ rfl) (B 207 _ rfl)) ml_X12_121 mv_X12_people hM.k (Nat.le_of_ble_eq_true rfl) (n := 208) rfl (c_X12_people hM ?_)
      rw [p142]
      refine Vw.iconst (v := 1) (de_iconst_1 (B 208 _ rfl)) rfl (n := 209) rfl ?_
      refine Vw.isub (de_isub (B 209 _ rfl)) (n := 210) rfl ?_
      refine Vw.istore (lv2 := [(0, _), (1, _), (2, _), (3, _), (4, _)]) (de_istore (B 210 _ rfl) (B 211 _ rfl)) (by decide) [1, 2, 3, 4, 0] rfl (n := 212) rfl ?_
      exact fill 0 (Nat.zero_le _) J fJ oJ (fun x h1 h2 => by
        rw [Nat.sub_zero] at h1
        rw [show np - x / 1000 = 0 by omega]
        exact zJ x h1 (by omega))
    have z_180 : c < 1000 := by rcases Nat.lt_or_ge c 1000 with z | z; exact z; exact absurd ((nI_leI (a := 1000) (b := c) (by omega) (by omega)).mpr z) c_180
    refine Vw.aload_n (de_aload_0 (B 183 _ rfl)) 0 rfl (n := 184) rfl ?_
    refine Vw.getR (de_getfield (B 184 _ rfl) (B 185 _ rfl) (B 186 _ rfl)) fl_X12_84 rfl hM.k (MS_most hM).1 (n := 187) rfl ?_
    refine Vw.iload_n (de_iload_3 (B 187 _ rfl)) 3 rfl (n := 188) rfl ?_
    refine Vw.aload_n (de_aload_0 (B 188 _ rfl)) 0 rfl (n := 189) rfl ?_
    refine Vw.ivi0 (mi' := mX12_people) (de_invokevirtual (B 189 _ rfl) (B 190 _ rfl) (B 191 _ rfl)) ml_X12_121 mv_X12_people hM.k (Nat.le_of_ble_eq_true rfl) (n := 192) rfl (c_X12_people hM ?_)
    rw [p142]
    refine Vw.imul (de_imul (B 192 _ rfl)) (n := 193) rfl ?_
    refine Vw.iload (de_iload (B 193 _ rfl) (B 194 _ rfl)) 4 rfl (n := 195) rfl ?_
    refine Vw.iadd (de_iadd (B 195 _ rfl)) (n := 196) rfl ?_
    refine Vw.iconst (v := 0) (de_iconst_0 (B 196 _ rfl)) rfl (n := 197) rfl ?_
    refine Vw.iast (de_iastore (B 197 _ rfl)) (MS_most hM).2 (vIx_n (k := 1000 * np + c) (by simp only [nI_A, nI_M, Int32.zero_add, Int32.add_zero] <;> rfl) (by omega)) (n := 198) rfl ?_
    refine Vw.iinc (v := nI (c + 1)) (lv2 := [(0, _), (1, _), (2, _), (3, _), (4, _)]) (de_iinc (B 198 _ rfl) (B 199 _ rfl) (B 200 _ rfl)) 4 rfl (nI_1 c) (by decide) [1, 2, 3, 4, 0] rfl (n := 201) rfl ?_
    refine Vw.goto_ (n := 177) (de_goto_ (B 201 _ rfl) (B 202 _ rfl) (B 203 _ rfl)) rfl ?_
    refine ih z_180 _ (fJ.u (by omega)) (fun j hj => by rw [up2_a (by omega), up2_a (by omega)]; exact oJ j hj) (fun x h1 h2 => ?_)
    by_cases e : x = 1000 * np + c
    · rw [e, up2_s]
    · rw [up2_k e]; exact zJ x h1 (by omega)
  have persL : ∀ q, q ≤ np → ∀ J, Fc r I J → (∀ j, j < 16 * q → J (r + 18) j = (oCl W (I (r + 2)) t) (j / 16) (j % 16) ∧ J (r + 19) j = (oPay W (I (r + 2)) t n) (j / 16) (j % 16)) → Vw mX12_laysOptions (d + 46) 0 0 0 0 (VvQ Q) 2 [(0, .ref r), (1, .int t), (2, .int (nI n)), (3, .int (nI q))] [] S J L := by
    refine loop_up (fun q hq ih => ?_)
    intro J fJ oJ
    have p142 : J (r + 2) 142 = nI np := by rw [fJ.k]; exact e142
    have inner : q < np → ∀ k, k ≤ 16 → ∀ J, Fc r I J → (∀ j, j < 16 * q + k → J (r + 18) j = (oCl W (I (r + 2)) t) (j / 16) (j % 16) ∧ J (r + 19) j = (oPay W (I (r + 2)) t n) (j / 16) (j % 16)) → Vw mX12_laysOptions (d + 46) 0 0 0 0 (VvQ Q) 13 [(0, .ref r), (1, .int t), (2, .int (nI n)), (3, .int (nI q)), (4, .int (nI k))] [] S J L := by
      intro hq2
      refine loop_up (fun k hk ih2 => ?_)
      intro J fJ oJ
      have kJ := fJ.k
      have join : k < 16 → ∀ J2, Fc r I J2 → (∀ j, j < 16 * q + k → J2 (r + 18) j = (oCl W (I (r + 2)) t) (j / 16) (j % 16) ∧ J2 (r + 19) j = (oPay W (I (r + 2)) t n) (j / 16) (j % 16)) → J2 (r + 18) (16 * q + k) = (oCl W (I (r + 2)) t) q k → Vw mX12_laysOptions (d + 46) 0 0 0 0 (VvQ Q) 109 [(0, .ref r), (1, .int t), (2, .int (nI n)), (3, .int (nI q)), (4, .int (nI k)), (5, .int (oSz (I (r + 2)) q k)), (6, .int (oWd (I (r + 2)) q k)), (7, .int (16 * nI q + nI k))] [] S J2 L := by
        intro hk6 J2 f2 o2 e2
        have kJ2 := f2.k
        have nx : ∀ I5 v, Fc r I I5 → (∀ j, j < 16 * q + k → I5 (r + 18) j = (oCl W (I (r + 2)) t) (j / 16) (j % 16) ∧ I5 (r + 19) j = (oPay W (I (r + 2)) t n) (j / 16) (j % 16)) → I5 (r + 18) (16 * q + k) = (oCl W (I (r + 2)) t) q k → v = (oPay W (I (r + 2)) t n) q k → Vw mX12_laysOptions (d + 46) 0 0 0 0 (VvQ Q) 13 [(0, .ref r), (1, .int t), (2, .int (nI n)), (3, .int (nI q)), (4, .int (nI (k + 1)))] [] S (up2 I5 (r + 19) (16 * q + k) v) L := by
          intro I5 v f5 o5 e5 ev
          refine ih2 hk6 _ (f5.u (by omega)) (fun j hj => ?_)
          by_cases e : j = 16 * q + k
          · rw [e, up2_a (by omega), up2_s, show (16 * q + k) / 16 = q by omega, show (16 * q + k) % 16 = k by omega]; exact ⟨e5, ev⟩
          · rw [up2_a (by omega), up2_k e]; exact o5 j (by omega)
        refine Vw.aload_n (de_aload_0 (B 109 _ rfl)) 0 rfl (n := 110) rfl ?_
        refine Vw.iload_n (de_iload_3 (B 110 _ rfl)) 3 rfl (n := 111) rfl ?_
        refine Vw.iload (de_iload (B 111 _ rfl) (B 112 _ rfl)) 5 rfl (n := 113) rfl ?_
        refine Vw.iload (de_iload (B 113 _ rfl) (B 114 _ rfl)) 6 rfl (n := 115) rfl ?_
        refine Vw.iload_n (de_iload_2 (B 115 _ rfl)) 2 rfl (n := 116) rfl ?_
        refine Vw.ivi4 (mi' := mX12_dueIn) (de_invokevirtual (B 116 _ rfl) (B 117 _ rfl) (B 118 _ rfl)) ml_X12_403 mv_X12_dueIn hM.k (Nat.le_of_ble_eq_true rfl) (n := 119) rfl (c_X12_dueIn (W := W) hM (by rw [kJ2]; exact hW) (by omega) (by omega) (fun kk I4 h1 h2 f4 e4 p4 => ?_) (fun I4 f4 e4 => ?_))
        · rw [kJ2] at e4 p4
          refine Vw.istore (lv2 := [(0, _), (1, _), (2, _), (3, _), (4, _), (5, _), (6, _), (7, _), (8, _)]) (de_istore (B 119 _ rfl) (B 120 _ rfl)) (by decide) [1, 2, 3, 4, 5, 6, 7, 8, 0] rfl (n := 121) rfl ?_
          refine Vw.aload_n (de_aload_0 (B 121 _ rfl)) 0 rfl (n := 122) rfl ?_
          refine Vw.getR (de_getfield (B 122 _ rfl) (B 123 _ rfl) (B 124 _ rfl)) fl_X12_81 rfl hM.k (MS_optionPays hM).1 (n := 125) rfl ?_
          refine Vw.iload (de_iload (B 125 _ rfl) (B 126 _ rfl)) 7 rfl (n := 127) rfl ?_
          refine Vw.iload (de_iload (B 127 _ rfl) (B 128 _ rfl)) 8 rfl (n := 129) rfl ?_
          refine Vw.iconst (v := -1) (de_iconst_m1 (B 129 _ rfl)) rfl (n := 130) rfl ?_
          refine Vw.icmp_ne (tgt := 137) (n := 133) (de_icmp_ne (B 130 _ rfl) (B 131 _ rfl) (B 132 _ rfl)) rfl rfl (fun c_130 => ?_) (fun c_130 => ?_)
          · refine Vw.aload_n (de_aload_0 (B 137 _ rfl)) 0 rfl (n := 138) rfl ?_
            refine Vw.iload_n (de_iload_3 (B 138 _ rfl)) 3 rfl (n := 139) rfl ?_
            refine Vw.iload_n (de_iload_1 (B 139 _ rfl)) 1 rfl (n := 140) rfl ?_
            refine Vw.iload (de_iload (B 140 _ rfl) (B 141 _ rfl)) 5 rfl (n := 142) rfl ?_
            refine Vw.iload (de_iload (B 142 _ rfl) (B 143 _ rfl)) 6 rfl (n := 144) rfl ?_
            refine Vw.aload_n (de_aload_0 (B 144 _ rfl)) 0 rfl (n := 145) rfl ?_
            refine Vw.getR (de_getfield (B 145 _ rfl) (B 146 _ rfl) (B 147 _ rfl)) fl_X12_24 rfl hM.k (MS_kept hM).1 (n := 148) rfl ?_
            refine Vw.bipush (v := 121) (de_bipush (B 148 _ rfl) (B 149 _ rfl)) rfl (n := 150) rfl ?_
            refine Vw.iald (de_iaload (B 150 _ rfl)) (MS_kept hM).2 (j := 121) ⟨rfl, by decide, by decide⟩ (n := 151) rfl ?_
            rw [f4.k, kJ2]
            refine Vw.iload (de_iload (B 151 _ rfl) (B 152 _ rfl)) 8 rfl (n := 153) rfl ?_
            skip
            refine Vw.iadd (de_iadd (B 153 _ rfl)) (n := 154) rfl ?_
            refine Vw.ivi5 (mi' := mX12_paysOf) (de_invokevirtual (B 154 _ rfl) (B 155 _ rfl) (B 156 _ rfl)) ml_X12_348 mv_X12_paysOf hM.k (Nat.le_of_ble_eq_true rfl) (n := 157) rfl (c_X12_paysOf (W := W) hM (by rw [f4.k, kJ2]; exact hW) (fun I5 f5 e5 => ?_))
            rw [p4]
            refine Vw.iast (de_iastore (B 157 _ rfl)) (MS_optionPays hM).2 (vIx_n (k := 16 * q + k) (by simp only [nI_A, nI_M, Int32.zero_add, Int32.add_zero] <;> rfl) (by omega)) (n := 158) rfl ?_
            refine Vw.iinc (v := nI (k + 1)) (lv2 := [(0, _), (1, _), (2, _), (3, _), (4, _), (5, _), (6, _), (7, _), (8, _)]) (de_iinc (B 158 _ rfl) (B 159 _ rfl) (B 160 _ rfl)) 4 rfl (nI_1 k) (by decide) [1, 2, 3, 4, 0, 5, 6, 7, 8] rfl (n := 161) rfl ?_
            refine Vw.goto_ (n := 13) (de_goto_ (B 161 _ rfl) (B 162 _ rfl) (B 163 _ rfl)) rfl ?_
            refine Vw.lvs (lv2 := [(0, _), (1, _), (2, _), (3, _), (4, _)]) [0, 1, 2, 3, 4] rfl ?_
            have f45 := f4.trans f5
            exact nx I5 _ (f2.trans f45.fc) (fun j hj => by rw [f45 _ _ (by omega) (by omega), f45 _ _ (by omega) (by omega)]; exact o2 j hj) ((f45 _ _ (by omega) (by omega)).trans e2) (by unfold oPay oDue; rw [e4, if_neg (nI_m1 (by omega)), nI_cl (by omega)])
          exact absurd c_130 (nI_m1 (by omega))
        · rw [kJ2] at e4
          refine Vw.istore (lv2 := [(0, _), (1, _), (2, _), (3, _), (4, _), (5, _), (6, _), (7, _), (8, _)]) (de_istore (B 119 _ rfl) (B 120 _ rfl)) (by decide) [1, 2, 3, 4, 5, 6, 7, 8, 0] rfl (n := 121) rfl ?_
          refine Vw.aload_n (de_aload_0 (B 121 _ rfl)) 0 rfl (n := 122) rfl ?_
          refine Vw.getR (de_getfield (B 122 _ rfl) (B 123 _ rfl) (B 124 _ rfl)) fl_X12_81 rfl hM.k (MS_optionPays hM).1 (n := 125) rfl ?_
          refine Vw.iload (de_iload (B 125 _ rfl) (B 126 _ rfl)) 7 rfl (n := 127) rfl ?_
          refine Vw.iload (de_iload (B 127 _ rfl) (B 128 _ rfl)) 8 rfl (n := 129) rfl ?_
          refine Vw.iconst (v := -1) (de_iconst_m1 (B 129 _ rfl)) rfl (n := 130) rfl ?_
          refine Vw.icmp_ne (tgt := 137) (n := 133) (de_icmp_ne (B 130 _ rfl) (B 131 _ rfl) (B 132 _ rfl)) rfl rfl (fun c_130 => ?_) (fun c_130 => ?_)
          · exact absurd rfl c_130
          refine Vw.iconst (v := 0) (de_iconst_0 (B 133 _ rfl)) rfl (n := 134) rfl ?_
          refine Vw.goto_ (n := 157) (de_goto_ (B 134 _ rfl) (B 135 _ rfl) (B 136 _ rfl)) rfl ?_
          refine Vw.iast (de_iastore (B 157 _ rfl)) (MS_optionPays hM).2 (vIx_n (k := 16 * q + k) (by simp only [nI_A, nI_M, Int32.zero_add, Int32.add_zero] <;> rfl) (by omega)) (n := 158) rfl ?_
          refine Vw.iinc (v := nI (k + 1)) (lv2 := [(0, _), (1, _), (2, _), (3, _), (4, _), (5, _), (6, _), (7, _), (8, _)]) (de_iinc (B 158 _ rfl) (B 159 _ rfl) (B 160 _ rfl)) 4 rfl (nI_1 k) (by decide) [1, 2, 3, 4, 0, 5, 6, 7, 8] rfl (n := 161) rfl ?_
          refine Vw.goto_ (n := 13) (de_goto_ (B 161 _ rfl) (B 162 _ rfl) (B 163 _ rfl)) rfl ?_
          refine Vw.lvs (lv2 := [(0, _), (1, _), (2, _), (3, _), (4, _)]) [0, 1, 2, 3, 4] rfl ?_
          exact nx I4 _ (f2.trans f4.fc) (fun j hj => by rw [f4 _ _ (by omega) (by omega), f4 _ _ (by omega) (by omega)]; exact o2 j hj) ((f4 _ _ (by omega) (by omega)).trans e2) (by unfold oPay oDue; rw [e4, if_pos rfl])
      refine Vw.iload (de_iload (B 13 _ rfl) (B 14 _ rfl)) 4 rfl (n := 15) rfl ?_
      refine Vw.bipush (v := 16) (de_bipush (B 15 _ rfl) (B 16 _ rfl)) rfl (n := 17) rfl ?_
      refine Vw.icmp_ge (tgt := 164) (n := 20) (de_icmp_ge (B 17 _ rfl) (B 18 _ rfl) (B 19 _ rfl)) rfl rfl (fun c_17 => ?_) (fun c_17 => ?_)
      · have z_17 : 16 ≤ k := ((nI_leI (a := 16) (b := k) (by omega) (by omega)).mp c_17)
        obtain rfl : k = 16 := by omega
        refine Vw.iinc (v := nI (q + 1)) (lv2 := [(0, _), (1, _), (2, _), (3, _), (4, _)]) (de_iinc (B 164 _ rfl) (B 165 _ rfl) (B 166 _ rfl)) 3 rfl (nI_1 q) (by decide) [1, 2, 3, 0, 4] rfl (n := 167) rfl ?_
        refine Vw.goto_ (n := 2) (de_goto_ (B 167 _ rfl) (B 168 _ rfl) (B 169 _ rfl)) rfl ?_
        refine Vw.lvs (lv2 := [(0, _), (1, _), (2, _), (3, _)]) [0, 1, 2, 3] rfl ?_
        exact ih hq2 J fJ (fun j hj => oJ j (by omega))
      have z_17 : k < 16 := by rcases Nat.lt_or_ge k 16 with z | z; exact z; exact absurd ((nI_leI (a := 16) (b := k) (by omega) (by omega)).mpr z) c_17
      refine Vw.aload_n (de_aload_0 (B 20 _ rfl)) 0 rfl (n := 21) rfl ?_
      refine Vw.iload_n (de_iload_3 (B 21 _ rfl)) 3 rfl (n := 22) rfl ?_
      refine Vw.iconst (v := 1) (de_iconst_1 (B 22 _ rfl)) rfl (n := 23) rfl ?_
      refine Vw.ivi2 (mi' := mX12_fact) (de_invokevirtual (B 23 _ rfl) (B 24 _ rfl) (B 25 _ rfl)) ml_X12_144 mv_X12_fact hM.k (Nat.le_of_ble_eq_true rfl) (n := 26) rfl (c_X12_fact hM (vIx_n (k := 4 * q + 1) (by simp only [nI_A, nI_M, Int32.zero_add, Int32.add_zero] <;> rfl) (by omega)) ?_)
      rw [kJ]
      refine Vw.iload (de_iload (B 26 _ rfl) (B 27 _ rfl)) 4 rfl (n := 28) rfl ?_
      refine Vw.iconst (v := 4) (de_iconst_4 (B 28 _ rfl)) rfl (n := 29) rfl ?_
      refine Vw.idiv (de_idiv (B 29 _ rfl)) (by decide) (n := 30) rfl ?_
      rw [show (4 : Int32) = nI 4 from rfl, nI_div (by omega) (by decide)]
      refine Vw.iadd (de_iadd (B 30 _ rfl)) (n := 31) rfl ?_
      rw [show I (r + 2) (4 * q + 1) + nI (k / 4) = oSz (I (r + 2)) q k from rfl]
      refine Vw.istore (lv2 := [(0, _), (1, _), (2, _), (3, _), (4, _), (5, _)]) (de_istore (B 31 _ rfl) (B 32 _ rfl)) (by decide) [1, 2, 3, 4, 5, 0] rfl (n := 33) rfl ?_
      refine Vw.aload_n (de_aload_0 (B 33 _ rfl)) 0 rfl (n := 34) rfl ?_
      refine Vw.iload_n (de_iload_3 (B 34 _ rfl)) 3 rfl (n := 35) rfl ?_
      refine Vw.iconst (v := 2) (de_iconst_2 (B 35 _ rfl)) rfl (n := 36) rfl ?_
      refine Vw.ivi2 (mi' := mX12_fact) (de_invokevirtual (B 36 _ rfl) (B 37 _ rfl) (B 38 _ rfl)) ml_X12_144 mv_X12_fact hM.k (Nat.le_of_ble_eq_true rfl) (n := 39) rfl (c_X12_fact hM (vIx_n (k := 4 * q + 2) (by simp only [nI_A, nI_M, Int32.zero_add, Int32.add_zero] <;> rfl) (by omega)) ?_)
      rw [kJ]
      refine Vw.iload (de_iload (B 39 _ rfl) (B 40 _ rfl)) 4 rfl (n := 41) rfl ?_
      refine Vw.iconst (v := 4) (de_iconst_4 (B 41 _ rfl)) rfl (n := 42) rfl ?_
      refine Vw.irem (de_irem (B 42 _ rfl)) (by decide) (n := 43) rfl ?_
      rw [show (4 : Int32) = nI 4 from rfl, nI_rem (by omega) (by decide)]
      refine Vw.iadd (de_iadd (B 43 _ rfl)) (n := 44) rfl ?_
      rw [show I (r + 2) (4 * q + 2) + nI (k % 4) = oWd (I (r + 2)) q k from rfl]
      refine Vw.istore (lv2 := [(0, _), (1, _), (2, _), (3, _), (4, _), (5, _), (6, _)]) (de_istore (B 44 _ rfl) (B 45 _ rfl)) (by decide) [1, 2, 3, 4, 5, 6, 0] rfl (n := 46) rfl ?_
      refine Vw.bipush (v := 16) (de_bipush (B 46 _ rfl) (B 47 _ rfl)) rfl (n := 48) rfl ?_
      refine Vw.iload_n (de_iload_3 (B 48 _ rfl)) 3 rfl (n := 49) rfl ?_
      refine Vw.imul (de_imul (B 49 _ rfl)) (n := 50) rfl ?_
      refine Vw.iload (de_iload (B 50 _ rfl) (B 51 _ rfl)) 4 rfl (n := 52) rfl ?_
      refine Vw.iadd (de_iadd (B 52 _ rfl)) (n := 53) rfl ?_
      refine Vw.istore (lv2 := [(0, _), (1, _), (2, _), (3, _), (4, _), (5, _), (6, _), (7, _)]) (de_istore (B 53 _ rfl) (B 54 _ rfl)) (by decide) [1, 2, 3, 4, 5, 6, 7, 0] rfl (n := 55) rfl ?_
      refine Vw.aload_n (de_aload_0 (B 55 _ rfl)) 0 rfl (n := 56) rfl ?_
      refine Vw.iload_n (de_iload_3 (B 56 _ rfl)) 3 rfl (n := 57) rfl ?_
      refine Vw.ivv1 (mi' := mX12_takes) (de_invokevirtual (B 57 _ rfl) (B 58 _ rfl) (B 59 _ rfl)) ml_X12_140 mv_X12_takes hM.k (Nat.le_of_ble_eq_true rfl) (n := 60) rfl (c_X12_takes hM (by omega) (fun I2 f2 e2 => ?_))
      refine Vw.aload_n (de_aload_0 (B 60 _ rfl)) 0 rfl (n := 61) rfl ?_
      refine Vw.getR (de_getfield (B 61 _ rfl) (B 62 _ rfl) (B 63 _ rfl)) fl_X12_78 rfl hM.k (MS_optionCloth hM).1 (n := 64) rfl ?_
      refine Vw.iload (de_iload (B 64 _ rfl) (B 65 _ rfl)) 7 rfl (n := 66) rfl ?_
      refine Vw.aload_n (de_aload_0 (B 66 _ rfl)) 0 rfl (n := 67) rfl ?_
      refine Vw.iload_n (de_iload_3 (B 67 _ rfl)) 3 rfl (n := 68) rfl ?_
      refine Vw.iload_n (de_iload_1 (B 68 _ rfl)) 1 rfl (n := 69) rfl ?_
      refine Vw.iload (de_iload (B 69 _ rfl) (B 70 _ rfl)) 5 rfl (n := 71) rfl ?_
      refine Vw.iload (de_iload (B 71 _ rfl) (B 72 _ rfl)) 6 rfl (n := 73) rfl ?_
      refine Vw.aload_n (de_aload_0 (B 73 _ rfl)) 0 rfl (n := 74) rfl ?_
      refine Vw.getR (de_getfield (B 74 _ rfl) (B 75 _ rfl) (B 76 _ rfl)) fl_X12_24 rfl hM.k (MS_kept hM).1 (n := 77) rfl ?_
      refine Vw.bipush (v := 121) (de_bipush (B 77 _ rfl) (B 78 _ rfl)) rfl (n := 79) rfl ?_
      refine Vw.iald (de_iaload (B 79 _ rfl)) (MS_kept hM).2 (j := 121) ⟨rfl, by decide, by decide⟩ (n := 80) rfl ?_
      rw [f2.k, kJ]
      refine Vw.ivi5 (mi' := mX12_isBarred) (de_invokevirtual (B 80 _ rfl) (B 81 _ rfl) (B 82 _ rfl)) ml_X12_362 mv_X12_isBarred hM.k (Nat.le_of_ble_eq_true rfl) (n := 83) rfl (c_X12_isBarred (W := W) hM (by rw [f2.k, kJ]; exact hW) (fun I3 f3 e3 => ?_))
      rw [e2, kJ]
      refine Vw.if_eq (tgt := 91) (n := 86) (de_if_eq (B 83 _ rfl) (B 84 _ rfl) (B 85 _ rfl)) rfl rfl (fun c_83 => ?_) (fun c_83 => ?_)
      · refine Vw.aload_n (de_aload_0 (B 91 _ rfl)) 0 rfl (n := 92) rfl ?_
        refine Vw.iload_n (de_iload_3 (B 92 _ rfl)) 3 rfl (n := 93) rfl ?_
        refine Vw.iload_n (de_iload_1 (B 93 _ rfl)) 1 rfl (n := 94) rfl ?_
        refine Vw.iload (de_iload (B 94 _ rfl) (B 95 _ rfl)) 5 rfl (n := 96) rfl ?_
        refine Vw.iload (de_iload (B 96 _ rfl) (B 97 _ rfl)) 6 rfl (n := 98) rfl ?_
        refine Vw.aload_n (de_aload_0 (B 98 _ rfl)) 0 rfl (n := 99) rfl ?_
        refine Vw.getR (de_getfield (B 99 _ rfl) (B 100 _ rfl) (B 101 _ rfl)) fl_X12_24 rfl hM.k (MS_kept hM).1 (n := 102) rfl ?_
        refine Vw.bipush (v := 121) (de_bipush (B 102 _ rfl) (B 103 _ rfl)) rfl (n := 104) rfl ?_
        refine Vw.iald (de_iaload (B 104 _ rfl)) (MS_kept hM).2 (j := 121) ⟨rfl, by decide, by decide⟩ (n := 105) rfl ?_
        rw [f3.k, f2.k, kJ]
        refine Vw.ivi5 (mi' := mX12_clothOf) (de_invokevirtual (B 105 _ rfl) (B 106 _ rfl) (B 107 _ rfl)) ml_X12_359 mv_X12_clothOf hM.k (Nat.le_of_ble_eq_true rfl) (n := 108) rfl (c_X12_clothOf (W := W) hM (by rw [f3.k, f2.k, kJ]; exact hW) (fun I4 f4 e4 => ?_))
        skip
        refine Vw.iast (de_iastore (B 108 _ rfl)) (MS_optionCloth hM).2 (vIx_n (k := 16 * q + k) (by simp only [nI_A, nI_M, Int32.zero_add, Int32.add_zero] <;> rfl) (by omega)) (n := 109) rfl ?_
        first
        | (have ff := f2.trans f3
           exact join z_17 _ ((fJ.trans ff.fc).u (by omega)) (fun j hj => by rw [up2_k (by omega), up2_a (by omega), ff _ _ (by omega) (by omega), ff _ _ (by omega) (by omega)]; exact oJ j hj) (by rw [up2_s]; unfold oCl; rw [if_neg c_83]))
        | (have ff := (f2.trans f3).trans f4
           exact join z_17 _ ((fJ.trans ff.fc).u (by omega)) (fun j hj => by rw [up2_k (by omega), up2_a (by omega), ff _ _ (by omega) (by omega), ff _ _ (by omega) (by omega)]; exact oJ j hj) (by rw [up2_s, e3, e2, kJ]; unfold oCl; rw [if_pos c_83]))
      refine Vw.ldc (de_ldc (B 86 _ rfl) (B 87 _ rfl)) kc_X12_187 (n := 88) rfl ?_
      refine Vw.goto_ (n := 108) (de_goto_ (B 88 _ rfl) (B 89 _ rfl) (B 90 _ rfl)) rfl ?_
      skip
      refine Vw.iast (de_iastore (B 108 _ rfl)) (MS_optionCloth hM).2 (vIx_n (k := 16 * q + k) (by simp only [nI_A, nI_M, Int32.zero_add, Int32.add_zero] <;> rfl) (by omega)) (n := 109) rfl ?_
      first
      | (have ff := f2.trans f3
         exact join z_17 _ ((fJ.trans ff.fc).u (by omega)) (fun j hj => by rw [up2_k (by omega), up2_a (by omega), ff _ _ (by omega) (by omega), ff _ _ (by omega) (by omega)]; exact oJ j hj) (by rw [up2_s]; unfold oCl; rw [if_neg c_83]))
      | (have ff := (f2.trans f3).trans f4
         exact join z_17 _ ((fJ.trans ff.fc).u (by omega)) (fun j hj => by rw [up2_k (by omega), up2_a (by omega), ff _ _ (by omega) (by omega), ff _ _ (by omega) (by omega)]; exact oJ j hj) (by rw [up2_s, e3, e2, kJ]; unfold oCl; rw [if_pos c_83]))
    refine Vw.iload_n (de_iload_3 (B 2 _ rfl)) 3 rfl (n := 3) rfl ?_
    refine Vw.aload_n (de_aload_0 (B 3 _ rfl)) 0 rfl (n := 4) rfl ?_
    refine Vw.ivi0 (mi' := mX12_people) (de_invokevirtual (B 4 _ rfl) (B 5 _ rfl) (B 6 _ rfl)) ml_X12_121 mv_X12_people hM.k (Nat.le_of_ble_eq_true rfl) (n := 7) rfl (c_X12_people hM ?_)
    rw [p142]
    refine Vw.icmp_ge (tgt := 170) (n := 10) (de_icmp_ge (B 7 _ rfl) (B 8 _ rfl) (B 9 _ rfl)) rfl rfl (fun c_7 => ?_) (fun c_7 => ?_)
    · have z_7 : np ≤ q := ((nI_leI (a := np) (b := q) (by omega) (by omega)).mp c_7)
      refine Vw.sipush (v := 1000) (de_sipush (B 170 _ rfl) (B 171 _ rfl) (B 172 _ rfl)) rfl (n := 173) rfl ?_
      refine Vw.istore_n (lv2 := [(0, _), (1, _), (2, _), (3, _)]) (de_istore_3 (B 173 _ rfl)) rfl (by decide) [1, 2, 3, 0] rfl (n := 174) rfl ?_
      refine Vw.iconst (v := 0) (de_iconst_0 (B 174 _ rfl)) rfl (n := 175) rfl ?_
      refine Vw.istore (lv2 := [(0, _), (1, _), (2, _), (3, _), (4, _)]) (de_istore (B 175 _ rfl) (B 176 _ rfl)) (by decide) [1, 2, 3, 4, 0] rfl (n := 177) rfl ?_
      exact zeroL 0 (Nat.zero_le _) J fJ (fun j hj => oJ j (by omega)) (fun x h1 h2 => absurd h2 (by omega))
    have z_7 : q < np := by rcases Nat.lt_or_ge q np with z | z; exact z; exact absurd ((nI_leI (a := np) (b := q) (by omega) (by omega)).mpr z) c_7
    refine Vw.iconst (v := 0) (de_iconst_0 (B 10 _ rfl)) rfl (n := 11) rfl ?_
    refine Vw.istore (lv2 := [(0, _), (1, _), (2, _), (3, _), (4, _)]) (de_istore (B 11 _ rfl) (B 12 _ rfl)) (by decide) [1, 2, 3, 4, 0] rfl (n := 13) rfl ?_
    exact inner z_7 0 (Nat.zero_le _) J fJ oJ
  refine Vw.iconst (v := 0) (de_iconst_0 (B 0 _ rfl)) rfl (n := 1) rfl ?_
  refine Vw.istore_n (lv2 := [(0, _), (1, _), (2, _), (3, _)]) (de_istore_3 (B 1 _ rfl)) rfl (by decide) [1, 2, 3, 0] rfl (n := 2) rfl ?_
  exact persL 0 (Nat.zero_le _) I Fc.rfl (fun j hj => absurd hj (by omega))
