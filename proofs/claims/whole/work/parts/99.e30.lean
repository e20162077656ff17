/-! The reference is made -/
def wBl : List Int32 := [103, 114, 111, 119, 115, 32, 119, 105, 100, 101, 110, 115, 32, 99, 108, 111, 116, 104, 32, 112, 97, 121, 115, 32, 98, 97, 114, 115, 32, 105, 102, 32, 111, 114, 32, 97, 110, 100, 32, 110, 111, 116, 32, 112, 101, 114, 115, 111, 110, 32, 97, 103, 101, 32, 102, 101, 100, 32, 108, 111, 110, 103, 32, 119, 105, 100, 101, 32, 116, 97, 105, 108, 111, 114, 32, 113, 117, 97, 114, 116, 101, 114, 32, 109, 111, 111, 100, 32, 110, 111, 119, 32, 100, 111, 110, 101, 32, 112, 97, 105, 100, 32, 102, 101, 101, 100, 32, 98, 121, 32, 104, 97, 110, 100, 32, 116, 111, 32, 104, 101, 109, 32, 98, 117, 116, 116, 111, 110, 32, 116, 105, 109, 101, 115, 32]
def wB (j : Nat) : Int32 := wBl.getD j 0
def wr (I : vI) (b : Nat) (f : Nat → Int32) (n : Nat) : vI := fun a j => if a = b ∧ j < n then f j else I a j
theorem wr_0 (I : vI) (b : Nat) (f : Nat → Int32) : wr I b f 0 = I := by funext a j; exact if_neg (by omega)
theorem wr_s {I : vI} {b n : Nat} {f : Nat → Int32} {v : Int32} (h : f n = v) : up2 (wr I b f n) b n v = wr I b f (n + 1) := by
  funext a j
  by_cases z : a = b ∧ j = n
  · rw [z.1, z.2, up2_s]; unfold wr; rw [if_pos ⟨rfl, by omega⟩]; exact h.symm
  · rw [up2_n z]; unfold wr
    by_cases y : a = b ∧ j < n
    · rw [if_pos y, if_pos ⟨y.1, by omega⟩]
    · rw [if_neg y, if_neg (by omega)]
theorem wr_o {I : vI} {a b n : Nat} {f : Nat → Int32} (h : a ≠ b) : wr I b f n a = I a := funext fun j => if_neg (fun q => h q.1)
theorem wr_i {I : vI} {b n j : Nat} {f : Nat → Int32} (h : j < n) : wr I b f n b j = f j := if_pos ⟨rfl, h⟩
theorem nb_ {x : Int32} (h : x.toInt8.toInt32 = x) : narrow .byte (.int x) = .int x := by
  show Value.int x.toInt8.toInt32 = _
  rw [h]
def WdB (l : List Int32) : List (List Int32) → Nat → Bool
  | [], k => k == 135
  | w :: ws, k => (List.range w.length).all (fun x => l.getD (k + x) 0 == w.getD x 0 && !(w.getD x 0 == 32)) && (l.getD (k + w.length) 0 == 32 && (decide (k + w.length < 135) && WdB l ws (k + w.length + 1)))
theorem WdB.ok {g : Nat → Int32} {l : List Int32} (hg : ∀ j, j < 135 → g j = l.getD j 0) : ∀ ws k, WdB l ws k = true → Wd g ws k
  | [], k, h => by unfold WdB at h; exact beq_iff_eq.mp h
  | w :: ws, k, h => by
    unfold WdB at h
    simp only [Bool.and_eq_true, decide_eq_true_eq, List.all_eq_true, List.mem_range, beq_iff_eq, Bool.not_eq_true', beq_eq_false_iff_ne] at h
    obtain ⟨h1, h2, h3, h4⟩ := h
    exact ⟨fun x hx => ⟨by rw [hg _ (by omega)]; exact (h1 x hx).1, (h1 x hx).2⟩, by rw [hg _ (by omega)]; exact h2, h3, WdB.ok hg ws _ h4⟩
set_option maxRecDepth 100000 in
theorem wB_ok : WdB wBl WL 0 = true := by decide +kernel
set_option maxRecDepth 100000 in
theorem X12_b0 {d mc ms cr sr r : Nat} {S : vS} {I : vI} {L : vL} {Q : Option Value → vS → vI → vL → Prop} (hA : S.1 (r + 6) = (102, 135)) (k : Vw mX12_init d mc ms cr sr Q 208 [(0, .ref r)] [.ref (r + 6), .ref r] S (wr I (r + 6) wB 27) L) : Vw mX12_init d mc ms cr sr Q 52 [(0, .ref r)] [.ref (r + 6), .ref r] S (wr I (r + 6) wB 0) L := by
  have B := bs_X12_init
  refine Vw.dup (de_dup (B 52 _ rfl)) rfl (n := 53) rfl ?_
  refine Vw.iconst (v := 0) (de_iconst_0 (B 53 _ rfl)) rfl (n := 54) rfl ?_
  refine Vw.bipush (v := 103) (de_bipush (B 54 _ rfl) (B 55 _ rfl)) rfl (n := 56) rfl ?_
  refine Vw.bast (j := 0) (y := 103) (de_bastore (B 56 _ rfl)) hA ⟨rfl, by decide, by decide⟩ (nb_ (by decide)) (n := 57) rfl ?_
  rw [wr_s (n := 0) (v := 103) rfl]
  refine Vw.dup (de_dup (B 57 _ rfl)) rfl (n := 58) rfl ?_
  refine Vw.iconst (v := 1) (de_iconst_1 (B 58 _ rfl)) rfl (n := 59) rfl ?_
  refine Vw.bipush (v := 114) (de_bipush (B 59 _ rfl) (B 60 _ rfl)) rfl (n := 61) rfl ?_
  refine Vw.bast (j := 1) (y := 114) (de_bastore (B 61 _ rfl)) hA ⟨rfl, by decide, by decide⟩ (nb_ (by decide)) (n := 62) rfl ?_
  rw [wr_s (n := 1) (v := 114) rfl]
  refine Vw.dup (de_dup (B 62 _ rfl)) rfl (n := 63) rfl ?_
  refine Vw.iconst (v := 2) (de_iconst_2 (B 63 _ rfl)) rfl (n := 64) rfl ?_
  refine Vw.bipush (v := 111) (de_bipush (B 64 _ rfl) (B 65 _ rfl)) rfl (n := 66) rfl ?_
  refine Vw.bast (j := 2) (y := 111) (de_bastore (B 66 _ rfl)) hA ⟨rfl, by decide, by decide⟩ (nb_ (by decide)) (n := 67) rfl ?_
  rw [wr_s (n := 2) (v := 111) rfl]
  refine Vw.dup (de_dup (B 67 _ rfl)) rfl (n := 68) rfl ?_
  refine Vw.iconst (v := 3) (de_iconst_3 (B 68 _ rfl)) rfl (n := 69) rfl ?_
  refine Vw.bipush (v := 119) (de_bipush (B 69 _ rfl) (B 70 _ rfl)) rfl (n := 71) rfl ?_
  refine Vw.bast (j := 3) (y := 119) (de_bastore (B 71 _ rfl)) hA ⟨rfl, by decide, by decide⟩ (nb_ (by decide)) (n := 72) rfl ?_
  rw [wr_s (n := 3) (v := 119) rfl]
  refine Vw.dup (de_dup (B 72 _ rfl)) rfl (n := 73) rfl ?_
  refine Vw.iconst (v := 4) (de_iconst_4 (B 73 _ rfl)) rfl (n := 74) rfl ?_
  refine Vw.bipush (v := 115) (de_bipush (B 74 _ rfl) (B 75 _ rfl)) rfl (n := 76) rfl ?_
  refine Vw.bast (j := 4) (y := 115) (de_bastore (B 76 _ rfl)) hA ⟨rfl, by decide, by decide⟩ (nb_ (by decide)) (n := 77) rfl ?_
  rw [wr_s (n := 4) (v := 115) rfl]
  refine Vw.dup (de_dup (B 77 _ rfl)) rfl (n := 78) rfl ?_
  refine Vw.iconst (v := 5) (de_iconst_5 (B 78 _ rfl)) rfl (n := 79) rfl ?_
  refine Vw.bipush (v := 32) (de_bipush (B 79 _ rfl) (B 80 _ rfl)) rfl (n := 81) rfl ?_
  refine Vw.bast (j := 5) (y := 32) (de_bastore (B 81 _ rfl)) hA ⟨rfl, by decide, by decide⟩ (nb_ (by decide)) (n := 82) rfl ?_
  rw [wr_s (n := 5) (v := 32) rfl]
  refine Vw.dup (de_dup (B 82 _ rfl)) rfl (n := 83) rfl ?_
  refine Vw.bipush (v := 6) (de_bipush (B 83 _ rfl) (B 84 _ rfl)) rfl (n := 85) rfl ?_
  refine Vw.bipush (v := 119) (de_bipush (B 85 _ rfl) (B 86 _ rfl)) rfl (n := 87) rfl ?_
  refine Vw.bast (j := 6) (y := 119) (de_bastore (B 87 _ rfl)) hA ⟨rfl, by decide, by decide⟩ (nb_ (by decide)) (n := 88) rfl ?_
  rw [wr_s (n := 6) (v := 119) rfl]
  refine Vw.dup (de_dup (B 88 _ rfl)) rfl (n := 89) rfl ?_
  refine Vw.bipush (v := 7) (de_bipush (B 89 _ rfl) (B 90 _ rfl)) rfl (n := 91) rfl ?_
  refine Vw.bipush (v := 105) (de_bipush (B 91 _ rfl) (B 92 _ rfl)) rfl (n := 93) rfl ?_
  refine Vw.bast (j := 7) (y := 105) (de_bastore (B 93 _ rfl)) hA ⟨rfl, by decide, by decide⟩ (nb_ (by decide)) (n := 94) rfl ?_
  rw [wr_s (n := 7) (v := 105) rfl]
  refine Vw.dup (de_dup (B 94 _ rfl)) rfl (n := 95) rfl ?_
  refine Vw.bipush (v := 8) (de_bipush (B 95 _ rfl) (B 96 _ rfl)) rfl (n := 97) rfl ?_
  refine Vw.bipush (v := 100) (de_bipush (B 97 _ rfl) (B 98 _ rfl)) rfl (n := 99) rfl ?_
  refine Vw.bast (j := 8) (y := 100) (de_bastore (B 99 _ rfl)) hA ⟨rfl, by decide, by decide⟩ (nb_ (by decide)) (n := 100) rfl ?_
  rw [wr_s (n := 8) (v := 100) rfl]
  refine Vw.dup (de_dup (B 100 _ rfl)) rfl (n := 101) rfl ?_
  refine Vw.bipush (v := 9) (de_bipush (B 101 _ rfl) (B 102 _ rfl)) rfl (n := 103) rfl ?_
  refine Vw.bipush (v := 101) (de_bipush (B 103 _ rfl) (B 104 _ rfl)) rfl (n := 105) rfl ?_
  refine Vw.bast (j := 9) (y := 101) (de_bastore (B 105 _ rfl)) hA ⟨rfl, by decide, by decide⟩ (nb_ (by decide)) (n := 106) rfl ?_
  rw [wr_s (n := 9) (v := 101) rfl]
  refine Vw.dup (de_dup (B 106 _ rfl)) rfl (n := 107) rfl ?_
  refine Vw.bipush (v := 10) (de_bipush (B 107 _ rfl) (B 108 _ rfl)) rfl (n := 109) rfl ?_
  refine Vw.bipush (v := 110) (de_bipush (B 109 _ rfl) (B 110 _ rfl)) rfl (n := 111) rfl ?_
  refine Vw.bast (j := 10) (y := 110) (de_bastore (B 111 _ rfl)) hA ⟨rfl, by decide, by decide⟩ (nb_ (by decide)) (n := 112) rfl ?_
  rw [wr_s (n := 10) (v := 110) rfl]
  refine Vw.dup (de_dup (B 112 _ rfl)) rfl (n := 113) rfl ?_
  refine Vw.bipush (v := 11) (de_bipush (B 113 _ rfl) (B 114 _ rfl)) rfl (n := 115) rfl ?_
  refine Vw.bipush (v := 115) (de_bipush (B 115 _ rfl) (B 116 _ rfl)) rfl (n := 117) rfl ?_
  refine Vw.bast (j := 11) (y := 115) (de_bastore (B 117 _ rfl)) hA ⟨rfl, by decide, by decide⟩ (nb_ (by decide)) (n := 118) rfl ?_
  rw [wr_s (n := 11) (v := 115) rfl]
  refine Vw.dup (de_dup (B 118 _ rfl)) rfl (n := 119) rfl ?_
  refine Vw.bipush (v := 12) (de_bipush (B 119 _ rfl) (B 120 _ rfl)) rfl (n := 121) rfl ?_
  refine Vw.bipush (v := 32) (de_bipush (B 121 _ rfl) (B 122 _ rfl)) rfl (n := 123) rfl ?_
  refine Vw.bast (j := 12) (y := 32) (de_bastore (B 123 _ rfl)) hA ⟨rfl, by decide, by decide⟩ (nb_ (by decide)) (n := 124) rfl ?_
  rw [wr_s (n := 12) (v := 32) rfl]
  refine Vw.dup (de_dup (B 124 _ rfl)) rfl (n := 125) rfl ?_
  refine Vw.bipush (v := 13) (de_bipush (B 125 _ rfl) (B 126 _ rfl)) rfl (n := 127) rfl ?_
  refine Vw.bipush (v := 99) (de_bipush (B 127 _ rfl) (B 128 _ rfl)) rfl (n := 129) rfl ?_
  refine Vw.bast (j := 13) (y := 99) (de_bastore (B 129 _ rfl)) hA ⟨rfl, by decide, by decide⟩ (nb_ (by decide)) (n := 130) rfl ?_
  rw [wr_s (n := 13) (v := 99) rfl]
  refine Vw.dup (de_dup (B 130 _ rfl)) rfl (n := 131) rfl ?_
  refine Vw.bipush (v := 14) (de_bipush (B 131 _ rfl) (B 132 _ rfl)) rfl (n := 133) rfl ?_
  refine Vw.bipush (v := 108) (de_bipush (B 133 _ rfl) (B 134 _ rfl)) rfl (n := 135) rfl ?_
  refine Vw.bast (j := 14) (y := 108) (de_bastore (B 135 _ rfl)) hA ⟨rfl, by decide, by decide⟩ (nb_ (by decide)) (n := 136) rfl ?_
  rw [wr_s (n := 14) (v := 108) rfl]
  refine Vw.dup (de_dup (B 136 _ rfl)) rfl (n := 137) rfl ?_
  refine Vw.bipush (v := 15) (de_bipush (B 137 _ rfl) (B 138 _ rfl)) rfl (n := 139) rfl ?_
  refine Vw.bipush (v := 111) (de_bipush (B 139 _ rfl) (B 140 _ rfl)) rfl (n := 141) rfl ?_
  refine Vw.bast (j := 15) (y := 111) (de_bastore (B 141 _ rfl)) hA ⟨rfl, by decide, by decide⟩ (nb_ (by decide)) (n := 142) rfl ?_
  rw [wr_s (n := 15) (v := 111) rfl]
  refine Vw.dup (de_dup (B 142 _ rfl)) rfl (n := 143) rfl ?_
  refine Vw.bipush (v := 16) (de_bipush (B 143 _ rfl) (B 144 _ rfl)) rfl (n := 145) rfl ?_
  refine Vw.bipush (v := 116) (de_bipush (B 145 _ rfl) (B 146 _ rfl)) rfl (n := 147) rfl ?_
  refine Vw.bast (j := 16) (y := 116) (de_bastore (B 147 _ rfl)) hA ⟨rfl, by decide, by decide⟩ (nb_ (by decide)) (n := 148) rfl ?_
  rw [wr_s (n := 16) (v := 116) rfl]
  refine Vw.dup (de_dup (B 148 _ rfl)) rfl (n := 149) rfl ?_
  refine Vw.bipush (v := 17) (de_bipush (B 149 _ rfl) (B 150 _ rfl)) rfl (n := 151) rfl ?_
  refine Vw.bipush (v := 104) (de_bipush (B 151 _ rfl) (B 152 _ rfl)) rfl (n := 153) rfl ?_
  refine Vw.bast (j := 17) (y := 104) (de_bastore (B 153 _ rfl)) hA ⟨rfl, by decide, by decide⟩ (nb_ (by decide)) (n := 154) rfl ?_
  rw [wr_s (n := 17) (v := 104) rfl]
  refine Vw.dup (de_dup (B 154 _ rfl)) rfl (n := 155) rfl ?_
  refine Vw.bipush (v := 18) (de_bipush (B 155 _ rfl) (B 156 _ rfl)) rfl (n := 157) rfl ?_
  refine Vw.bipush (v := 32) (de_bipush (B 157 _ rfl) (B 158 _ rfl)) rfl (n := 159) rfl ?_
  refine Vw.bast (j := 18) (y := 32) (de_bastore (B 159 _ rfl)) hA ⟨rfl, by decide, by decide⟩ (nb_ (by decide)) (n := 160) rfl ?_
  rw [wr_s (n := 18) (v := 32) rfl]
  refine Vw.dup (de_dup (B 160 _ rfl)) rfl (n := 161) rfl ?_
  refine Vw.bipush (v := 19) (de_bipush (B 161 _ rfl) (B 162 _ rfl)) rfl (n := 163) rfl ?_
  refine Vw.bipush (v := 112) (de_bipush (B 163 _ rfl) (B 164 _ rfl)) rfl (n := 165) rfl ?_
  refine Vw.bast (j := 19) (y := 112) (de_bastore (B 165 _ rfl)) hA ⟨rfl, by decide, by decide⟩ (nb_ (by decide)) (n := 166) rfl ?_
  rw [wr_s (n := 19) (v := 112) rfl]
  refine Vw.dup (de_dup (B 166 _ rfl)) rfl (n := 167) rfl ?_
  refine Vw.bipush (v := 20) (de_bipush (B 167 _ rfl) (B 168 _ rfl)) rfl (n := 169) rfl ?_
  refine Vw.bipush (v := 97) (de_bipush (B 169 _ rfl) (B 170 _ rfl)) rfl (n := 171) rfl ?_
  refine Vw.bast (j := 20) (y := 97) (de_bastore (B 171 _ rfl)) hA ⟨rfl, by decide, by decide⟩ (nb_ (by decide)) (n := 172) rfl ?_
  rw [wr_s (n := 20) (v := 97) rfl]
  refine Vw.dup (de_dup (B 172 _ rfl)) rfl (n := 173) rfl ?_
  refine Vw.bipush (v := 21) (de_bipush (B 173 _ rfl) (B 174 _ rfl)) rfl (n := 175) rfl ?_
  refine Vw.bipush (v := 121) (de_bipush (B 175 _ rfl) (B 176 _ rfl)) rfl (n := 177) rfl ?_
  refine Vw.bast (j := 21) (y := 121) (de_bastore (B 177 _ rfl)) hA ⟨rfl, by decide, by decide⟩ (nb_ (by decide)) (n := 178) rfl ?_
  rw [wr_s (n := 21) (v := 121) rfl]
  refine Vw.dup (de_dup (B 178 _ rfl)) rfl (n := 179) rfl ?_
  refine Vw.bipush (v := 22) (de_bipush (B 179 _ rfl) (B 180 _ rfl)) rfl (n := 181) rfl ?_
  refine Vw.bipush (v := 115) (de_bipush (B 181 _ rfl) (B 182 _ rfl)) rfl (n := 183) rfl ?_
  refine Vw.bast (j := 22) (y := 115) (de_bastore (B 183 _ rfl)) hA ⟨rfl, by decide, by decide⟩ (nb_ (by decide)) (n := 184) rfl ?_
  rw [wr_s (n := 22) (v := 115) rfl]
  refine Vw.dup (de_dup (B 184 _ rfl)) rfl (n := 185) rfl ?_
  refine Vw.bipush (v := 23) (de_bipush (B 185 _ rfl) (B 186 _ rfl)) rfl (n := 187) rfl ?_
  refine Vw.bipush (v := 32) (de_bipush (B 187 _ rfl) (B 188 _ rfl)) rfl (n := 189) rfl ?_
  refine Vw.bast (j := 23) (y := 32) (de_bastore (B 189 _ rfl)) hA ⟨rfl, by decide, by decide⟩ (nb_ (by decide)) (n := 190) rfl ?_
  rw [wr_s (n := 23) (v := 32) rfl]
  refine Vw.dup (de_dup (B 190 _ rfl)) rfl (n := 191) rfl ?_
  refine Vw.bipush (v := 24) (de_bipush (B 191 _ rfl) (B 192 _ rfl)) rfl (n := 193) rfl ?_
  refine Vw.bipush (v := 98) (de_bipush (B 193 _ rfl) (B 194 _ rfl)) rfl (n := 195) rfl ?_
  refine Vw.bast (j := 24) (y := 98) (de_bastore (B 195 _ rfl)) hA ⟨rfl, by decide, by decide⟩ (nb_ (by decide)) (n := 196) rfl ?_
  rw [wr_s (n := 24) (v := 98) rfl]
  refine Vw.dup (de_dup (B 196 _ rfl)) rfl (n := 197) rfl ?_
  refine Vw.bipush (v := 25) (de_bipush (B 197 _ rfl) (B 198 _ rfl)) rfl (n := 199) rfl ?_
  refine Vw.bipush (v := 97) (de_bipush (B 199 _ rfl) (B 200 _ rfl)) rfl (n := 201) rfl ?_
  refine Vw.bast (j := 25) (y := 97) (de_bastore (B 201 _ rfl)) hA ⟨rfl, by decide, by decide⟩ (nb_ (by decide)) (n := 202) rfl ?_
  rw [wr_s (n := 25) (v := 97) rfl]
  refine Vw.dup (de_dup (B 202 _ rfl)) rfl (n := 203) rfl ?_
  refine Vw.bipush (v := 26) (de_bipush (B 203 _ rfl) (B 204 _ rfl)) rfl (n := 205) rfl ?_
  refine Vw.bipush (v := 114) (de_bipush (B 205 _ rfl) (B 206 _ rfl)) rfl (n := 207) rfl ?_
  refine Vw.bast (j := 26) (y := 114) (de_bastore (B 207 _ rfl)) hA ⟨rfl, by decide, by decide⟩ (nb_ (by decide)) (n := 208) rfl ?_
  rw [wr_s (n := 26) (v := 114) rfl]
  exact k
set_option maxRecDepth 100000 in
theorem X12_b1 {d mc ms cr sr r : Nat} {S : vS} {I : vI} {L : vL} {Q : Option Value → vS → vI → vL → Prop} (hA : S.1 (r + 6) = (102, 135)) (k : Vw mX12_init d mc ms cr sr Q 370 [(0, .ref r)] [.ref (r + 6), .ref r] S (wr I (r + 6) wB 54) L) : Vw mX12_init d mc ms cr sr Q 208 [(0, .ref r)] [.ref (r + 6), .ref r] S (wr I (r + 6) wB 27) L := by
  have B := bs_X12_init
  refine Vw.dup (de_dup (B 208 _ rfl)) rfl (n := 209) rfl ?_
  refine Vw.bipush (v := 27) (de_bipush (B 209 _ rfl) (B 210 _ rfl)) rfl (n := 211) rfl ?_
  refine Vw.bipush (v := 115) (de_bipush (B 211 _ rfl) (B 212 _ rfl)) rfl (n := 213) rfl ?_
  refine Vw.bast (j := 27) (y := 115) (de_bastore (B 213 _ rfl)) hA ⟨rfl, by decide, by decide⟩ (nb_ (by decide)) (n := 214) rfl ?_
  rw [wr_s (n := 27) (v := 115) rfl]
  refine Vw.dup (de_dup (B 214 _ rfl)) rfl (n := 215) rfl ?_
  refine Vw.bipush (v := 28) (de_bipush (B 215 _ rfl) (B 216 _ rfl)) rfl (n := 217) rfl ?_
  refine Vw.bipush (v := 32) (de_bipush (B 217 _ rfl) (B 218 _ rfl)) rfl (n := 219) rfl ?_
  refine Vw.bast (j := 28) (y := 32) (de_bastore (B 219 _ rfl)) hA ⟨rfl, by decide, by decide⟩ (nb_ (by decide)) (n := 220) rfl ?_
  rw [wr_s (n := 28) (v := 32) rfl]
  refine Vw.dup (de_dup (B 220 _ rfl)) rfl (n := 221) rfl ?_
  refine Vw.bipush (v := 29) (de_bipush (B 221 _ rfl) (B 222 _ rfl)) rfl (n := 223) rfl ?_
  refine Vw.bipush (v := 105) (de_bipush (B 223 _ rfl) (B 224 _ rfl)) rfl (n := 225) rfl ?_
  refine Vw.bast (j := 29) (y := 105) (de_bastore (B 225 _ rfl)) hA ⟨rfl, by decide, by decide⟩ (nb_ (by decide)) (n := 226) rfl ?_
  rw [wr_s (n := 29) (v := 105) rfl]
  refine Vw.dup (de_dup (B 226 _ rfl)) rfl (n := 227) rfl ?_
  refine Vw.bipush (v := 30) (de_bipush (B 227 _ rfl) (B 228 _ rfl)) rfl (n := 229) rfl ?_
  refine Vw.bipush (v := 102) (de_bipush (B 229 _ rfl) (B 230 _ rfl)) rfl (n := 231) rfl ?_
  refine Vw.bast (j := 30) (y := 102) (de_bastore (B 231 _ rfl)) hA ⟨rfl, by decide, by decide⟩ (nb_ (by decide)) (n := 232) rfl ?_
  rw [wr_s (n := 30) (v := 102) rfl]
  refine Vw.dup (de_dup (B 232 _ rfl)) rfl (n := 233) rfl ?_
  refine Vw.bipush (v := 31) (de_bipush (B 233 _ rfl) (B 234 _ rfl)) rfl (n := 235) rfl ?_
  refine Vw.bipush (v := 32) (de_bipush (B 235 _ rfl) (B 236 _ rfl)) rfl (n := 237) rfl ?_
  refine Vw.bast (j := 31) (y := 32) (de_bastore (B 237 _ rfl)) hA ⟨rfl, by decide, by decide⟩ (nb_ (by decide)) (n := 238) rfl ?_
  rw [wr_s (n := 31) (v := 32) rfl]
  refine Vw.dup (de_dup (B 238 _ rfl)) rfl (n := 239) rfl ?_
  refine Vw.bipush (v := 32) (de_bipush (B 239 _ rfl) (B 240 _ rfl)) rfl (n := 241) rfl ?_
  refine Vw.bipush (v := 111) (de_bipush (B 241 _ rfl) (B 242 _ rfl)) rfl (n := 243) rfl ?_
  refine Vw.bast (j := 32) (y := 111) (de_bastore (B 243 _ rfl)) hA ⟨rfl, by decide, by decide⟩ (nb_ (by decide)) (n := 244) rfl ?_
  rw [wr_s (n := 32) (v := 111) rfl]
  refine Vw.dup (de_dup (B 244 _ rfl)) rfl (n := 245) rfl ?_
  refine Vw.bipush (v := 33) (de_bipush (B 245 _ rfl) (B 246 _ rfl)) rfl (n := 247) rfl ?_
  refine Vw.bipush (v := 114) (de_bipush (B 247 _ rfl) (B 248 _ rfl)) rfl (n := 249) rfl ?_
  refine Vw.bast (j := 33) (y := 114) (de_bastore (B 249 _ rfl)) hA ⟨rfl, by decide, by decide⟩ (nb_ (by decide)) (n := 250) rfl ?_
  rw [wr_s (n := 33) (v := 114) rfl]
  refine Vw.dup (de_dup (B 250 _ rfl)) rfl (n := 251) rfl ?_
  refine Vw.bipush (v := 34) (de_bipush (B 251 _ rfl) (B 252 _ rfl)) rfl (n := 253) rfl ?_
  refine Vw.bipush (v := 32) (de_bipush (B 253 _ rfl) (B 254 _ rfl)) rfl (n := 255) rfl ?_
  refine Vw.bast (j := 34) (y := 32) (de_bastore (B 255 _ rfl)) hA ⟨rfl, by decide, by decide⟩ (nb_ (by decide)) (n := 256) rfl ?_
  rw [wr_s (n := 34) (v := 32) rfl]
  refine Vw.dup (de_dup (B 256 _ rfl)) rfl (n := 257) rfl ?_
  refine Vw.bipush (v := 35) (de_bipush (B 257 _ rfl) (B 258 _ rfl)) rfl (n := 259) rfl ?_
  refine Vw.bipush (v := 97) (de_bipush (B 259 _ rfl) (B 260 _ rfl)) rfl (n := 261) rfl ?_
  refine Vw.bast (j := 35) (y := 97) (de_bastore (B 261 _ rfl)) hA ⟨rfl, by decide, by decide⟩ (nb_ (by decide)) (n := 262) rfl ?_
  rw [wr_s (n := 35) (v := 97) rfl]
  refine Vw.dup (de_dup (B 262 _ rfl)) rfl (n := 263) rfl ?_
  refine Vw.bipush (v := 36) (de_bipush (B 263 _ rfl) (B 264 _ rfl)) rfl (n := 265) rfl ?_
  refine Vw.bipush (v := 110) (de_bipush (B 265 _ rfl) (B 266 _ rfl)) rfl (n := 267) rfl ?_
  refine Vw.bast (j := 36) (y := 110) (de_bastore (B 267 _ rfl)) hA ⟨rfl, by decide, by decide⟩ (nb_ (by decide)) (n := 268) rfl ?_
  rw [wr_s (n := 36) (v := 110) rfl]
  refine Vw.dup (de_dup (B 268 _ rfl)) rfl (n := 269) rfl ?_
  refine Vw.bipush (v := 37) (de_bipush (B 269 _ rfl) (B 270 _ rfl)) rfl (n := 271) rfl ?_
  refine Vw.bipush (v := 100) (de_bipush (B 271 _ rfl) (B 272 _ rfl)) rfl (n := 273) rfl ?_
  refine Vw.bast (j := 37) (y := 100) (de_bastore (B 273 _ rfl)) hA ⟨rfl, by decide, by decide⟩ (nb_ (by decide)) (n := 274) rfl ?_
  rw [wr_s (n := 37) (v := 100) rfl]
  refine Vw.dup (de_dup (B 274 _ rfl)) rfl (n := 275) rfl ?_
  refine Vw.bipush (v := 38) (de_bipush (B 275 _ rfl) (B 276 _ rfl)) rfl (n := 277) rfl ?_
  refine Vw.bipush (v := 32) (de_bipush (B 277 _ rfl) (B 278 _ rfl)) rfl (n := 279) rfl ?_
  refine Vw.bast (j := 38) (y := 32) (de_bastore (B 279 _ rfl)) hA ⟨rfl, by decide, by decide⟩ (nb_ (by decide)) (n := 280) rfl ?_
  rw [wr_s (n := 38) (v := 32) rfl]
  refine Vw.dup (de_dup (B 280 _ rfl)) rfl (n := 281) rfl ?_
  refine Vw.bipush (v := 39) (de_bipush (B 281 _ rfl) (B 282 _ rfl)) rfl (n := 283) rfl ?_
  refine Vw.bipush (v := 110) (de_bipush (B 283 _ rfl) (B 284 _ rfl)) rfl (n := 285) rfl ?_
  refine Vw.bast (j := 39) (y := 110) (de_bastore (B 285 _ rfl)) hA ⟨rfl, by decide, by decide⟩ (nb_ (by decide)) (n := 286) rfl ?_
  rw [wr_s (n := 39) (v := 110) rfl]
  refine Vw.dup (de_dup (B 286 _ rfl)) rfl (n := 287) rfl ?_
  refine Vw.bipush (v := 40) (de_bipush (B 287 _ rfl) (B 288 _ rfl)) rfl (n := 289) rfl ?_
  refine Vw.bipush (v := 111) (de_bipush (B 289 _ rfl) (B 290 _ rfl)) rfl (n := 291) rfl ?_
  refine Vw.bast (j := 40) (y := 111) (de_bastore (B 291 _ rfl)) hA ⟨rfl, by decide, by decide⟩ (nb_ (by decide)) (n := 292) rfl ?_
  rw [wr_s (n := 40) (v := 111) rfl]
  refine Vw.dup (de_dup (B 292 _ rfl)) rfl (n := 293) rfl ?_
  refine Vw.bipush (v := 41) (de_bipush (B 293 _ rfl) (B 294 _ rfl)) rfl (n := 295) rfl ?_
  refine Vw.bipush (v := 116) (de_bipush (B 295 _ rfl) (B 296 _ rfl)) rfl (n := 297) rfl ?_
  refine Vw.bast (j := 41) (y := 116) (de_bastore (B 297 _ rfl)) hA ⟨rfl, by decide, by decide⟩ (nb_ (by decide)) (n := 298) rfl ?_
  rw [wr_s (n := 41) (v := 116) rfl]
  refine Vw.dup (de_dup (B 298 _ rfl)) rfl (n := 299) rfl ?_
  refine Vw.bipush (v := 42) (de_bipush (B 299 _ rfl) (B 300 _ rfl)) rfl (n := 301) rfl ?_
  refine Vw.bipush (v := 32) (de_bipush (B 301 _ rfl) (B 302 _ rfl)) rfl (n := 303) rfl ?_
  refine Vw.bast (j := 42) (y := 32) (de_bastore (B 303 _ rfl)) hA ⟨rfl, by decide, by decide⟩ (nb_ (by decide)) (n := 304) rfl ?_
  rw [wr_s (n := 42) (v := 32) rfl]
  refine Vw.dup (de_dup (B 304 _ rfl)) rfl (n := 305) rfl ?_
  refine Vw.bipush (v := 43) (de_bipush (B 305 _ rfl) (B 306 _ rfl)) rfl (n := 307) rfl ?_
  refine Vw.bipush (v := 112) (de_bipush (B 307 _ rfl) (B 308 _ rfl)) rfl (n := 309) rfl ?_
  refine Vw.bast (j := 43) (y := 112) (de_bastore (B 309 _ rfl)) hA ⟨rfl, by decide, by decide⟩ (nb_ (by decide)) (n := 310) rfl ?_
  rw [wr_s (n := 43) (v := 112) rfl]
  refine Vw.dup (de_dup (B 310 _ rfl)) rfl (n := 311) rfl ?_
  refine Vw.bipush (v := 44) (de_bipush (B 311 _ rfl) (B 312 _ rfl)) rfl (n := 313) rfl ?_
  refine Vw.bipush (v := 101) (de_bipush (B 313 _ rfl) (B 314 _ rfl)) rfl (n := 315) rfl ?_
  refine Vw.bast (j := 44) (y := 101) (de_bastore (B 315 _ rfl)) hA ⟨rfl, by decide, by decide⟩ (nb_ (by decide)) (n := 316) rfl ?_
  rw [wr_s (n := 44) (v := 101) rfl]
  refine Vw.dup (de_dup (B 316 _ rfl)) rfl (n := 317) rfl ?_
  refine Vw.bipush (v := 45) (de_bipush (B 317 _ rfl) (B 318 _ rfl)) rfl (n := 319) rfl ?_
  refine Vw.bipush (v := 114) (de_bipush (B 319 _ rfl) (B 320 _ rfl)) rfl (n := 321) rfl ?_
  refine Vw.bast (j := 45) (y := 114) (de_bastore (B 321 _ rfl)) hA ⟨rfl, by decide, by decide⟩ (nb_ (by decide)) (n := 322) rfl ?_
  rw [wr_s (n := 45) (v := 114) rfl]
  refine Vw.dup (de_dup (B 322 _ rfl)) rfl (n := 323) rfl ?_
  refine Vw.bipush (v := 46) (de_bipush (B 323 _ rfl) (B 324 _ rfl)) rfl (n := 325) rfl ?_
  refine Vw.bipush (v := 115) (de_bipush (B 325 _ rfl) (B 326 _ rfl)) rfl (n := 327) rfl ?_
  refine Vw.bast (j := 46) (y := 115) (de_bastore (B 327 _ rfl)) hA ⟨rfl, by decide, by decide⟩ (nb_ (by decide)) (n := 328) rfl ?_
  rw [wr_s (n := 46) (v := 115) rfl]
  refine Vw.dup (de_dup (B 328 _ rfl)) rfl (n := 329) rfl ?_
  refine Vw.bipush (v := 47) (de_bipush (B 329 _ rfl) (B 330 _ rfl)) rfl (n := 331) rfl ?_
  refine Vw.bipush (v := 111) (de_bipush (B 331 _ rfl) (B 332 _ rfl)) rfl (n := 333) rfl ?_
  refine Vw.bast (j := 47) (y := 111) (de_bastore (B 333 _ rfl)) hA ⟨rfl, by decide, by decide⟩ (nb_ (by decide)) (n := 334) rfl ?_
  rw [wr_s (n := 47) (v := 111) rfl]
  refine Vw.dup (de_dup (B 334 _ rfl)) rfl (n := 335) rfl ?_
  refine Vw.bipush (v := 48) (de_bipush (B 335 _ rfl) (B 336 _ rfl)) rfl (n := 337) rfl ?_
  refine Vw.bipush (v := 110) (de_bipush (B 337 _ rfl) (B 338 _ rfl)) rfl (n := 339) rfl ?_
  refine Vw.bast (j := 48) (y := 110) (de_bastore (B 339 _ rfl)) hA ⟨rfl, by decide, by decide⟩ (nb_ (by decide)) (n := 340) rfl ?_
  rw [wr_s (n := 48) (v := 110) rfl]
  refine Vw.dup (de_dup (B 340 _ rfl)) rfl (n := 341) rfl ?_
  refine Vw.bipush (v := 49) (de_bipush (B 341 _ rfl) (B 342 _ rfl)) rfl (n := 343) rfl ?_
  refine Vw.bipush (v := 32) (de_bipush (B 343 _ rfl) (B 344 _ rfl)) rfl (n := 345) rfl ?_
  refine Vw.bast (j := 49) (y := 32) (de_bastore (B 345 _ rfl)) hA ⟨rfl, by decide, by decide⟩ (nb_ (by decide)) (n := 346) rfl ?_
  rw [wr_s (n := 49) (v := 32) rfl]
  refine Vw.dup (de_dup (B 346 _ rfl)) rfl (n := 347) rfl ?_
  refine Vw.bipush (v := 50) (de_bipush (B 347 _ rfl) (B 348 _ rfl)) rfl (n := 349) rfl ?_
  refine Vw.bipush (v := 97) (de_bipush (B 349 _ rfl) (B 350 _ rfl)) rfl (n := 351) rfl ?_
  refine Vw.bast (j := 50) (y := 97) (de_bastore (B 351 _ rfl)) hA ⟨rfl, by decide, by decide⟩ (nb_ (by decide)) (n := 352) rfl ?_
  rw [wr_s (n := 50) (v := 97) rfl]
  refine Vw.dup (de_dup (B 352 _ rfl)) rfl (n := 353) rfl ?_
  refine Vw.bipush (v := 51) (de_bipush (B 353 _ rfl) (B 354 _ rfl)) rfl (n := 355) rfl ?_
  refine Vw.bipush (v := 103) (de_bipush (B 355 _ rfl) (B 356 _ rfl)) rfl (n := 357) rfl ?_
  refine Vw.bast (j := 51) (y := 103) (de_bastore (B 357 _ rfl)) hA ⟨rfl, by decide, by decide⟩ (nb_ (by decide)) (n := 358) rfl ?_
  rw [wr_s (n := 51) (v := 103) rfl]
  refine Vw.dup (de_dup (B 358 _ rfl)) rfl (n := 359) rfl ?_
  refine Vw.bipush (v := 52) (de_bipush (B 359 _ rfl) (B 360 _ rfl)) rfl (n := 361) rfl ?_
  refine Vw.bipush (v := 101) (de_bipush (B 361 _ rfl) (B 362 _ rfl)) rfl (n := 363) rfl ?_
  refine Vw.bast (j := 52) (y := 101) (de_bastore (B 363 _ rfl)) hA ⟨rfl, by decide, by decide⟩ (nb_ (by decide)) (n := 364) rfl ?_
  rw [wr_s (n := 52) (v := 101) rfl]
  refine Vw.dup (de_dup (B 364 _ rfl)) rfl (n := 365) rfl ?_
  refine Vw.bipush (v := 53) (de_bipush (B 365 _ rfl) (B 366 _ rfl)) rfl (n := 367) rfl ?_
  refine Vw.bipush (v := 32) (de_bipush (B 367 _ rfl) (B 368 _ rfl)) rfl (n := 369) rfl ?_
  refine Vw.bast (j := 53) (y := 32) (de_bastore (B 369 _ rfl)) hA ⟨rfl, by decide, by decide⟩ (nb_ (by decide)) (n := 370) rfl ?_
  rw [wr_s (n := 53) (v := 32) rfl]
  exact k
set_option maxRecDepth 100000 in
theorem X12_b2 {d mc ms cr sr r : Nat} {S : vS} {I : vI} {L : vL} {Q : Option Value → vS → vI → vL → Prop} (hA : S.1 (r + 6) = (102, 135)) (k : Vw mX12_init d mc ms cr sr Q 532 [(0, .ref r)] [.ref (r + 6), .ref r] S (wr I (r + 6) wB 81) L) : Vw mX12_init d mc ms cr sr Q 370 [(0, .ref r)] [.ref (r + 6), .ref r] S (wr I (r + 6) wB 54) L := by
  have B := bs_X12_init
  refine Vw.dup (de_dup (B 370 _ rfl)) rfl (n := 371) rfl ?_
  refine Vw.bipush (v := 54) (de_bipush (B 371 _ rfl) (B 372 _ rfl)) rfl (n := 373) rfl ?_
  refine Vw.bipush (v := 102) (de_bipush (B 373 _ rfl) (B 374 _ rfl)) rfl (n := 375) rfl ?_
  refine Vw.bast (j := 54) (y := 102) (de_bastore (B 375 _ rfl)) hA ⟨rfl, by decide, by decide⟩ (nb_ (by decide)) (n := 376) rfl ?_
  rw [wr_s (n := 54) (v := 102) rfl]
  refine Vw.dup (de_dup (B 376 _ rfl)) rfl (n := 377) rfl ?_
  refine Vw.bipush (v := 55) (de_bipush (B 377 _ rfl) (B 378 _ rfl)) rfl (n := 379) rfl ?_
  refine Vw.bipush (v := 101) (de_bipush (B 379 _ rfl) (B 380 _ rfl)) rfl (n := 381) rfl ?_
  refine Vw.bast (j := 55) (y := 101) (de_bastore (B 381 _ rfl)) hA ⟨rfl, by decide, by decide⟩ (nb_ (by decide)) (n := 382) rfl ?_
  rw [wr_s (n := 55) (v := 101) rfl]
  refine Vw.dup (de_dup (B 382 _ rfl)) rfl (n := 383) rfl ?_
  refine Vw.bipush (v := 56) (de_bipush (B 383 _ rfl) (B 384 _ rfl)) rfl (n := 385) rfl ?_
  refine Vw.bipush (v := 100) (de_bipush (B 385 _ rfl) (B 386 _ rfl)) rfl (n := 387) rfl ?_
  refine Vw.bast (j := 56) (y := 100) (de_bastore (B 387 _ rfl)) hA ⟨rfl, by decide, by decide⟩ (nb_ (by decide)) (n := 388) rfl ?_
  rw [wr_s (n := 56) (v := 100) rfl]
  refine Vw.dup (de_dup (B 388 _ rfl)) rfl (n := 389) rfl ?_
  refine Vw.bipush (v := 57) (de_bipush (B 389 _ rfl) (B 390 _ rfl)) rfl (n := 391) rfl ?_
  refine Vw.bipush (v := 32) (de_bipush (B 391 _ rfl) (B 392 _ rfl)) rfl (n := 393) rfl ?_
  refine Vw.bast (j := 57) (y := 32) (de_bastore (B 393 _ rfl)) hA ⟨rfl, by decide, by decide⟩ (nb_ (by decide)) (n := 394) rfl ?_
  rw [wr_s (n := 57) (v := 32) rfl]
  refine Vw.dup (de_dup (B 394 _ rfl)) rfl (n := 395) rfl ?_
  refine Vw.bipush (v := 58) (de_bipush (B 395 _ rfl) (B 396 _ rfl)) rfl (n := 397) rfl ?_
  refine Vw.bipush (v := 108) (de_bipush (B 397 _ rfl) (B 398 _ rfl)) rfl (n := 399) rfl ?_
  refine Vw.bast (j := 58) (y := 108) (de_bastore (B 399 _ rfl)) hA ⟨rfl, by decide, by decide⟩ (nb_ (by decide)) (n := 400) rfl ?_
  rw [wr_s (n := 58) (v := 108) rfl]
  refine Vw.dup (de_dup (B 400 _ rfl)) rfl (n := 401) rfl ?_
  refine Vw.bipush (v := 59) (de_bipush (B 401 _ rfl) (B 402 _ rfl)) rfl (n := 403) rfl ?_
  refine Vw.bipush (v := 111) (de_bipush (B 403 _ rfl) (B 404 _ rfl)) rfl (n := 405) rfl ?_
  refine Vw.bast (j := 59) (y := 111) (de_bastore (B 405 _ rfl)) hA ⟨rfl, by decide, by decide⟩ (nb_ (by decide)) (n := 406) rfl ?_
  rw [wr_s (n := 59) (v := 111) rfl]
  refine Vw.dup (de_dup (B 406 _ rfl)) rfl (n := 407) rfl ?_
  refine Vw.bipush (v := 60) (de_bipush (B 407 _ rfl) (B 408 _ rfl)) rfl (n := 409) rfl ?_
  refine Vw.bipush (v := 110) (de_bipush (B 409 _ rfl) (B 410 _ rfl)) rfl (n := 411) rfl ?_
  refine Vw.bast (j := 60) (y := 110) (de_bastore (B 411 _ rfl)) hA ⟨rfl, by decide, by decide⟩ (nb_ (by decide)) (n := 412) rfl ?_
  rw [wr_s (n := 60) (v := 110) rfl]
  refine Vw.dup (de_dup (B 412 _ rfl)) rfl (n := 413) rfl ?_
  refine Vw.bipush (v := 61) (de_bipush (B 413 _ rfl) (B 414 _ rfl)) rfl (n := 415) rfl ?_
  refine Vw.bipush (v := 103) (de_bipush (B 415 _ rfl) (B 416 _ rfl)) rfl (n := 417) rfl ?_
  refine Vw.bast (j := 61) (y := 103) (de_bastore (B 417 _ rfl)) hA ⟨rfl, by decide, by decide⟩ (nb_ (by decide)) (n := 418) rfl ?_
  rw [wr_s (n := 61) (v := 103) rfl]
  refine Vw.dup (de_dup (B 418 _ rfl)) rfl (n := 419) rfl ?_
  refine Vw.bipush (v := 62) (de_bipush (B 419 _ rfl) (B 420 _ rfl)) rfl (n := 421) rfl ?_
  refine Vw.bipush (v := 32) (de_bipush (B 421 _ rfl) (B 422 _ rfl)) rfl (n := 423) rfl ?_
  refine Vw.bast (j := 62) (y := 32) (de_bastore (B 423 _ rfl)) hA ⟨rfl, by decide, by decide⟩ (nb_ (by decide)) (n := 424) rfl ?_
  rw [wr_s (n := 62) (v := 32) rfl]
  refine Vw.dup (de_dup (B 424 _ rfl)) rfl (n := 425) rfl ?_
  refine Vw.bipush (v := 63) (de_bipush (B 425 _ rfl) (B 426 _ rfl)) rfl (n := 427) rfl ?_
  refine Vw.bipush (v := 119) (de_bipush (B 427 _ rfl) (B 428 _ rfl)) rfl (n := 429) rfl ?_
  refine Vw.bast (j := 63) (y := 119) (de_bastore (B 429 _ rfl)) hA ⟨rfl, by decide, by decide⟩ (nb_ (by decide)) (n := 430) rfl ?_
  rw [wr_s (n := 63) (v := 119) rfl]
  refine Vw.dup (de_dup (B 430 _ rfl)) rfl (n := 431) rfl ?_
  refine Vw.bipush (v := 64) (de_bipush (B 431 _ rfl) (B 432 _ rfl)) rfl (n := 433) rfl ?_
  refine Vw.bipush (v := 105) (de_bipush (B 433 _ rfl) (B 434 _ rfl)) rfl (n := 435) rfl ?_
  refine Vw.bast (j := 64) (y := 105) (de_bastore (B 435 _ rfl)) hA ⟨rfl, by decide, by decide⟩ (nb_ (by decide)) (n := 436) rfl ?_
  rw [wr_s (n := 64) (v := 105) rfl]
  refine Vw.dup (de_dup (B 436 _ rfl)) rfl (n := 437) rfl ?_
  refine Vw.bipush (v := 65) (de_bipush (B 437 _ rfl) (B 438 _ rfl)) rfl (n := 439) rfl ?_
  refine Vw.bipush (v := 100) (de_bipush (B 439 _ rfl) (B 440 _ rfl)) rfl (n := 441) rfl ?_
  refine Vw.bast (j := 65) (y := 100) (de_bastore (B 441 _ rfl)) hA ⟨rfl, by decide, by decide⟩ (nb_ (by decide)) (n := 442) rfl ?_
  rw [wr_s (n := 65) (v := 100) rfl]
  refine Vw.dup (de_dup (B 442 _ rfl)) rfl (n := 443) rfl ?_
  refine Vw.bipush (v := 66) (de_bipush (B 443 _ rfl) (B 444 _ rfl)) rfl (n := 445) rfl ?_
  refine Vw.bipush (v := 101) (de_bipush (B 445 _ rfl) (B 446 _ rfl)) rfl (n := 447) rfl ?_
  refine Vw.bast (j := 66) (y := 101) (de_bastore (B 447 _ rfl)) hA ⟨rfl, by decide, by decide⟩ (nb_ (by decide)) (n := 448) rfl ?_
  rw [wr_s (n := 66) (v := 101) rfl]
  refine Vw.dup (de_dup (B 448 _ rfl)) rfl (n := 449) rfl ?_
  refine Vw.bipush (v := 67) (de_bipush (B 449 _ rfl) (B 450 _ rfl)) rfl (n := 451) rfl ?_
  refine Vw.bipush (v := 32) (de_bipush (B 451 _ rfl) (B 452 _ rfl)) rfl (n := 453) rfl ?_
  refine Vw.bast (j := 67) (y := 32) (de_bastore (B 453 _ rfl)) hA ⟨rfl, by decide, by decide⟩ (nb_ (by decide)) (n := 454) rfl ?_
  rw [wr_s (n := 67) (v := 32) rfl]
  refine Vw.dup (de_dup (B 454 _ rfl)) rfl (n := 455) rfl ?_
  refine Vw.bipush (v := 68) (de_bipush (B 455 _ rfl) (B 456 _ rfl)) rfl (n := 457) rfl ?_
  refine Vw.bipush (v := 116) (de_bipush (B 457 _ rfl) (B 458 _ rfl)) rfl (n := 459) rfl ?_
  refine Vw.bast (j := 68) (y := 116) (de_bastore (B 459 _ rfl)) hA ⟨rfl, by decide, by decide⟩ (nb_ (by decide)) (n := 460) rfl ?_
  rw [wr_s (n := 68) (v := 116) rfl]
  refine Vw.dup (de_dup (B 460 _ rfl)) rfl (n := 461) rfl ?_
  refine Vw.bipush (v := 69) (de_bipush (B 461 _ rfl) (B 462 _ rfl)) rfl (n := 463) rfl ?_
  refine Vw.bipush (v := 97) (de_bipush (B 463 _ rfl) (B 464 _ rfl)) rfl (n := 465) rfl ?_
  refine Vw.bast (j := 69) (y := 97) (de_bastore (B 465 _ rfl)) hA ⟨rfl, by decide, by decide⟩ (nb_ (by decide)) (n := 466) rfl ?_
  rw [wr_s (n := 69) (v := 97) rfl]
  refine Vw.dup (de_dup (B 466 _ rfl)) rfl (n := 467) rfl ?_
  refine Vw.bipush (v := 70) (de_bipush (B 467 _ rfl) (B 468 _ rfl)) rfl (n := 469) rfl ?_
  refine Vw.bipush (v := 105) (de_bipush (B 469 _ rfl) (B 470 _ rfl)) rfl (n := 471) rfl ?_
  refine Vw.bast (j := 70) (y := 105) (de_bastore (B 471 _ rfl)) hA ⟨rfl, by decide, by decide⟩ (nb_ (by decide)) (n := 472) rfl ?_
  rw [wr_s (n := 70) (v := 105) rfl]
  refine Vw.dup (de_dup (B 472 _ rfl)) rfl (n := 473) rfl ?_
  refine Vw.bipush (v := 71) (de_bipush (B 473 _ rfl) (B 474 _ rfl)) rfl (n := 475) rfl ?_
  refine Vw.bipush (v := 108) (de_bipush (B 475 _ rfl) (B 476 _ rfl)) rfl (n := 477) rfl ?_
  refine Vw.bast (j := 71) (y := 108) (de_bastore (B 477 _ rfl)) hA ⟨rfl, by decide, by decide⟩ (nb_ (by decide)) (n := 478) rfl ?_
  rw [wr_s (n := 71) (v := 108) rfl]
  refine Vw.dup (de_dup (B 478 _ rfl)) rfl (n := 479) rfl ?_
  refine Vw.bipush (v := 72) (de_bipush (B 479 _ rfl) (B 480 _ rfl)) rfl (n := 481) rfl ?_
  refine Vw.bipush (v := 111) (de_bipush (B 481 _ rfl) (B 482 _ rfl)) rfl (n := 483) rfl ?_
  refine Vw.bast (j := 72) (y := 111) (de_bastore (B 483 _ rfl)) hA ⟨rfl, by decide, by decide⟩ (nb_ (by decide)) (n := 484) rfl ?_
  rw [wr_s (n := 72) (v := 111) rfl]
  refine Vw.dup (de_dup (B 484 _ rfl)) rfl (n := 485) rfl ?_
  refine Vw.bipush (v := 73) (de_bipush (B 485 _ rfl) (B 486 _ rfl)) rfl (n := 487) rfl ?_
  refine Vw.bipush (v := 114) (de_bipush (B 487 _ rfl) (B 488 _ rfl)) rfl (n := 489) rfl ?_
  refine Vw.bast (j := 73) (y := 114) (de_bastore (B 489 _ rfl)) hA ⟨rfl, by decide, by decide⟩ (nb_ (by decide)) (n := 490) rfl ?_
  rw [wr_s (n := 73) (v := 114) rfl]
  refine Vw.dup (de_dup (B 490 _ rfl)) rfl (n := 491) rfl ?_
  refine Vw.bipush (v := 74) (de_bipush (B 491 _ rfl) (B 492 _ rfl)) rfl (n := 493) rfl ?_
  refine Vw.bipush (v := 32) (de_bipush (B 493 _ rfl) (B 494 _ rfl)) rfl (n := 495) rfl ?_
  refine Vw.bast (j := 74) (y := 32) (de_bastore (B 495 _ rfl)) hA ⟨rfl, by decide, by decide⟩ (nb_ (by decide)) (n := 496) rfl ?_
  rw [wr_s (n := 74) (v := 32) rfl]
  refine Vw.dup (de_dup (B 496 _ rfl)) rfl (n := 497) rfl ?_
  refine Vw.bipush (v := 75) (de_bipush (B 497 _ rfl) (B 498 _ rfl)) rfl (n := 499) rfl ?_
  refine Vw.bipush (v := 113) (de_bipush (B 499 _ rfl) (B 500 _ rfl)) rfl (n := 501) rfl ?_
  refine Vw.bast (j := 75) (y := 113) (de_bastore (B 501 _ rfl)) hA ⟨rfl, by decide, by decide⟩ (nb_ (by decide)) (n := 502) rfl ?_
  rw [wr_s (n := 75) (v := 113) rfl]
  refine Vw.dup (de_dup (B 502 _ rfl)) rfl (n := 503) rfl ?_
  refine Vw.bipush (v := 76) (de_bipush (B 503 _ rfl) (B 504 _ rfl)) rfl (n := 505) rfl ?_
  refine Vw.bipush (v := 117) (de_bipush (B 505 _ rfl) (B 506 _ rfl)) rfl (n := 507) rfl ?_
  refine Vw.bast (j := 76) (y := 117) (de_bastore (B 507 _ rfl)) hA ⟨rfl, by decide, by decide⟩ (nb_ (by decide)) (n := 508) rfl ?_
  rw [wr_s (n := 76) (v := 117) rfl]
  refine Vw.dup (de_dup (B 508 _ rfl)) rfl (n := 509) rfl ?_
  refine Vw.bipush (v := 77) (de_bipush (B 509 _ rfl) (B 510 _ rfl)) rfl (n := 511) rfl ?_
  refine Vw.bipush (v := 97) (de_bipush (B 511 _ rfl) (B 512 _ rfl)) rfl (n := 513) rfl ?_
  refine Vw.bast (j := 77) (y := 97) (de_bastore (B 513 _ rfl)) hA ⟨rfl, by decide, by decide⟩ (nb_ (by decide)) (n := 514) rfl ?_
  rw [wr_s (n := 77) (v := 97) rfl]
  refine Vw.dup (de_dup (B 514 _ rfl)) rfl (n := 515) rfl ?_
  refine Vw.bipush (v := 78) (de_bipush (B 515 _ rfl) (B 516 _ rfl)) rfl (n := 517) rfl ?_
  refine Vw.bipush (v := 114) (de_bipush (B 517 _ rfl) (B 518 _ rfl)) rfl (n := 519) rfl ?_
  refine Vw.bast (j := 78) (y := 114) (de_bastore (B 519 _ rfl)) hA ⟨rfl, by decide, by decide⟩ (nb_ (by decide)) (n := 520) rfl ?_
  rw [wr_s (n := 78) (v := 114) rfl]
  refine Vw.dup (de_dup (B 520 _ rfl)) rfl (n := 521) rfl ?_
  refine Vw.bipush (v := 79) (de_bipush (B 521 _ rfl) (B 522 _ rfl)) rfl (n := 523) rfl ?_
  refine Vw.bipush (v := 116) (de_bipush (B 523 _ rfl) (B 524 _ rfl)) rfl (n := 525) rfl ?_
  refine Vw.bast (j := 79) (y := 116) (de_bastore (B 525 _ rfl)) hA ⟨rfl, by decide, by decide⟩ (nb_ (by decide)) (n := 526) rfl ?_
  rw [wr_s (n := 79) (v := 116) rfl]
  refine Vw.dup (de_dup (B 526 _ rfl)) rfl (n := 527) rfl ?_
  refine Vw.bipush (v := 80) (de_bipush (B 527 _ rfl) (B 528 _ rfl)) rfl (n := 529) rfl ?_
  refine Vw.bipush (v := 101) (de_bipush (B 529 _ rfl) (B 530 _ rfl)) rfl (n := 531) rfl ?_
  refine Vw.bast (j := 80) (y := 101) (de_bastore (B 531 _ rfl)) hA ⟨rfl, by decide, by decide⟩ (nb_ (by decide)) (n := 532) rfl ?_
  rw [wr_s (n := 80) (v := 101) rfl]
  exact k
set_option maxRecDepth 100000 in
theorem X12_b3 {d mc ms cr sr r : Nat} {S : vS} {I : vI} {L : vL} {Q : Option Value → vS → vI → vL → Prop} (hA : S.1 (r + 6) = (102, 135)) (k : Vw mX12_init d mc ms cr sr Q 694 [(0, .ref r)] [.ref (r + 6), .ref r] S (wr I (r + 6) wB 108) L) : Vw mX12_init d mc ms cr sr Q 532 [(0, .ref r)] [.ref (r + 6), .ref r] S (wr I (r + 6) wB 81) L := by
  have B := bs_X12_init
  refine Vw.dup (de_dup (B 532 _ rfl)) rfl (n := 533) rfl ?_
  refine Vw.bipush (v := 81) (de_bipush (B 533 _ rfl) (B 534 _ rfl)) rfl (n := 535) rfl ?_
  refine Vw.bipush (v := 114) (de_bipush (B 535 _ rfl) (B 536 _ rfl)) rfl (n := 537) rfl ?_
  refine Vw.bast (j := 81) (y := 114) (de_bastore (B 537 _ rfl)) hA ⟨rfl, by decide, by decide⟩ (nb_ (by decide)) (n := 538) rfl ?_
  rw [wr_s (n := 81) (v := 114) rfl]
  refine Vw.dup (de_dup (B 538 _ rfl)) rfl (n := 539) rfl ?_
  refine Vw.bipush (v := 82) (de_bipush (B 539 _ rfl) (B 540 _ rfl)) rfl (n := 541) rfl ?_
  refine Vw.bipush (v := 32) (de_bipush (B 541 _ rfl) (B 542 _ rfl)) rfl (n := 543) rfl ?_
  refine Vw.bast (j := 82) (y := 32) (de_bastore (B 543 _ rfl)) hA ⟨rfl, by decide, by decide⟩ (nb_ (by decide)) (n := 544) rfl ?_
  rw [wr_s (n := 82) (v := 32) rfl]
  refine Vw.dup (de_dup (B 544 _ rfl)) rfl (n := 545) rfl ?_
  refine Vw.bipush (v := 83) (de_bipush (B 545 _ rfl) (B 546 _ rfl)) rfl (n := 547) rfl ?_
  refine Vw.bipush (v := 109) (de_bipush (B 547 _ rfl) (B 548 _ rfl)) rfl (n := 549) rfl ?_
  refine Vw.bast (j := 83) (y := 109) (de_bastore (B 549 _ rfl)) hA ⟨rfl, by decide, by decide⟩ (nb_ (by decide)) (n := 550) rfl ?_
  rw [wr_s (n := 83) (v := 109) rfl]
  refine Vw.dup (de_dup (B 550 _ rfl)) rfl (n := 551) rfl ?_
  refine Vw.bipush (v := 84) (de_bipush (B 551 _ rfl) (B 552 _ rfl)) rfl (n := 553) rfl ?_
  refine Vw.bipush (v := 111) (de_bipush (B 553 _ rfl) (B 554 _ rfl)) rfl (n := 555) rfl ?_
  refine Vw.bast (j := 84) (y := 111) (de_bastore (B 555 _ rfl)) hA ⟨rfl, by decide, by decide⟩ (nb_ (by decide)) (n := 556) rfl ?_
  rw [wr_s (n := 84) (v := 111) rfl]
  refine Vw.dup (de_dup (B 556 _ rfl)) rfl (n := 557) rfl ?_
  refine Vw.bipush (v := 85) (de_bipush (B 557 _ rfl) (B 558 _ rfl)) rfl (n := 559) rfl ?_
  refine Vw.bipush (v := 111) (de_bipush (B 559 _ rfl) (B 560 _ rfl)) rfl (n := 561) rfl ?_
  refine Vw.bast (j := 85) (y := 111) (de_bastore (B 561 _ rfl)) hA ⟨rfl, by decide, by decide⟩ (nb_ (by decide)) (n := 562) rfl ?_
  rw [wr_s (n := 85) (v := 111) rfl]
  refine Vw.dup (de_dup (B 562 _ rfl)) rfl (n := 563) rfl ?_
  refine Vw.bipush (v := 86) (de_bipush (B 563 _ rfl) (B 564 _ rfl)) rfl (n := 565) rfl ?_
  refine Vw.bipush (v := 100) (de_bipush (B 565 _ rfl) (B 566 _ rfl)) rfl (n := 567) rfl ?_
  refine Vw.bast (j := 86) (y := 100) (de_bastore (B 567 _ rfl)) hA ⟨rfl, by decide, by decide⟩ (nb_ (by decide)) (n := 568) rfl ?_
  rw [wr_s (n := 86) (v := 100) rfl]
  refine Vw.dup (de_dup (B 568 _ rfl)) rfl (n := 569) rfl ?_
  refine Vw.bipush (v := 87) (de_bipush (B 569 _ rfl) (B 570 _ rfl)) rfl (n := 571) rfl ?_
  refine Vw.bipush (v := 32) (de_bipush (B 571 _ rfl) (B 572 _ rfl)) rfl (n := 573) rfl ?_
  refine Vw.bast (j := 87) (y := 32) (de_bastore (B 573 _ rfl)) hA ⟨rfl, by decide, by decide⟩ (nb_ (by decide)) (n := 574) rfl ?_
  rw [wr_s (n := 87) (v := 32) rfl]
  refine Vw.dup (de_dup (B 574 _ rfl)) rfl (n := 575) rfl ?_
  refine Vw.bipush (v := 88) (de_bipush (B 575 _ rfl) (B 576 _ rfl)) rfl (n := 577) rfl ?_
  refine Vw.bipush (v := 110) (de_bipush (B 577 _ rfl) (B 578 _ rfl)) rfl (n := 579) rfl ?_
  refine Vw.bast (j := 88) (y := 110) (de_bastore (B 579 _ rfl)) hA ⟨rfl, by decide, by decide⟩ (nb_ (by decide)) (n := 580) rfl ?_
  rw [wr_s (n := 88) (v := 110) rfl]
  refine Vw.dup (de_dup (B 580 _ rfl)) rfl (n := 581) rfl ?_
  refine Vw.bipush (v := 89) (de_bipush (B 581 _ rfl) (B 582 _ rfl)) rfl (n := 583) rfl ?_
  refine Vw.bipush (v := 111) (de_bipush (B 583 _ rfl) (B 584 _ rfl)) rfl (n := 585) rfl ?_
  refine Vw.bast (j := 89) (y := 111) (de_bastore (B 585 _ rfl)) hA ⟨rfl, by decide, by decide⟩ (nb_ (by decide)) (n := 586) rfl ?_
  rw [wr_s (n := 89) (v := 111) rfl]
  refine Vw.dup (de_dup (B 586 _ rfl)) rfl (n := 587) rfl ?_
  refine Vw.bipush (v := 90) (de_bipush (B 587 _ rfl) (B 588 _ rfl)) rfl (n := 589) rfl ?_
  refine Vw.bipush (v := 119) (de_bipush (B 589 _ rfl) (B 590 _ rfl)) rfl (n := 591) rfl ?_
  refine Vw.bast (j := 90) (y := 119) (de_bastore (B 591 _ rfl)) hA ⟨rfl, by decide, by decide⟩ (nb_ (by decide)) (n := 592) rfl ?_
  rw [wr_s (n := 90) (v := 119) rfl]
  refine Vw.dup (de_dup (B 592 _ rfl)) rfl (n := 593) rfl ?_
  refine Vw.bipush (v := 91) (de_bipush (B 593 _ rfl) (B 594 _ rfl)) rfl (n := 595) rfl ?_
  refine Vw.bipush (v := 32) (de_bipush (B 595 _ rfl) (B 596 _ rfl)) rfl (n := 597) rfl ?_
  refine Vw.bast (j := 91) (y := 32) (de_bastore (B 597 _ rfl)) hA ⟨rfl, by decide, by decide⟩ (nb_ (by decide)) (n := 598) rfl ?_
  rw [wr_s (n := 91) (v := 32) rfl]
  refine Vw.dup (de_dup (B 598 _ rfl)) rfl (n := 599) rfl ?_
  refine Vw.bipush (v := 92) (de_bipush (B 599 _ rfl) (B 600 _ rfl)) rfl (n := 601) rfl ?_
  refine Vw.bipush (v := 100) (de_bipush (B 601 _ rfl) (B 602 _ rfl)) rfl (n := 603) rfl ?_
  refine Vw.bast (j := 92) (y := 100) (de_bastore (B 603 _ rfl)) hA ⟨rfl, by decide, by decide⟩ (nb_ (by decide)) (n := 604) rfl ?_
  rw [wr_s (n := 92) (v := 100) rfl]
  refine Vw.dup (de_dup (B 604 _ rfl)) rfl (n := 605) rfl ?_
  refine Vw.bipush (v := 93) (de_bipush (B 605 _ rfl) (B 606 _ rfl)) rfl (n := 607) rfl ?_
  refine Vw.bipush (v := 111) (de_bipush (B 607 _ rfl) (B 608 _ rfl)) rfl (n := 609) rfl ?_
  refine Vw.bast (j := 93) (y := 111) (de_bastore (B 609 _ rfl)) hA ⟨rfl, by decide, by decide⟩ (nb_ (by decide)) (n := 610) rfl ?_
  rw [wr_s (n := 93) (v := 111) rfl]
  refine Vw.dup (de_dup (B 610 _ rfl)) rfl (n := 611) rfl ?_
  refine Vw.bipush (v := 94) (de_bipush (B 611 _ rfl) (B 612 _ rfl)) rfl (n := 613) rfl ?_
  refine Vw.bipush (v := 110) (de_bipush (B 613 _ rfl) (B 614 _ rfl)) rfl (n := 615) rfl ?_
  refine Vw.bast (j := 94) (y := 110) (de_bastore (B 615 _ rfl)) hA ⟨rfl, by decide, by decide⟩ (nb_ (by decide)) (n := 616) rfl ?_
  rw [wr_s (n := 94) (v := 110) rfl]
  refine Vw.dup (de_dup (B 616 _ rfl)) rfl (n := 617) rfl ?_
  refine Vw.bipush (v := 95) (de_bipush (B 617 _ rfl) (B 618 _ rfl)) rfl (n := 619) rfl ?_
  refine Vw.bipush (v := 101) (de_bipush (B 619 _ rfl) (B 620 _ rfl)) rfl (n := 621) rfl ?_
  refine Vw.bast (j := 95) (y := 101) (de_bastore (B 621 _ rfl)) hA ⟨rfl, by decide, by decide⟩ (nb_ (by decide)) (n := 622) rfl ?_
  rw [wr_s (n := 95) (v := 101) rfl]
  refine Vw.dup (de_dup (B 622 _ rfl)) rfl (n := 623) rfl ?_
  refine Vw.bipush (v := 96) (de_bipush (B 623 _ rfl) (B 624 _ rfl)) rfl (n := 625) rfl ?_
  refine Vw.bipush (v := 32) (de_bipush (B 625 _ rfl) (B 626 _ rfl)) rfl (n := 627) rfl ?_
  refine Vw.bast (j := 96) (y := 32) (de_bastore (B 627 _ rfl)) hA ⟨rfl, by decide, by decide⟩ (nb_ (by decide)) (n := 628) rfl ?_
  rw [wr_s (n := 96) (v := 32) rfl]
  refine Vw.dup (de_dup (B 628 _ rfl)) rfl (n := 629) rfl ?_
  refine Vw.bipush (v := 97) (de_bipush (B 629 _ rfl) (B 630 _ rfl)) rfl (n := 631) rfl ?_
  refine Vw.bipush (v := 112) (de_bipush (B 631 _ rfl) (B 632 _ rfl)) rfl (n := 633) rfl ?_
  refine Vw.bast (j := 97) (y := 112) (de_bastore (B 633 _ rfl)) hA ⟨rfl, by decide, by decide⟩ (nb_ (by decide)) (n := 634) rfl ?_
  rw [wr_s (n := 97) (v := 112) rfl]
  refine Vw.dup (de_dup (B 634 _ rfl)) rfl (n := 635) rfl ?_
  refine Vw.bipush (v := 98) (de_bipush (B 635 _ rfl) (B 636 _ rfl)) rfl (n := 637) rfl ?_
  refine Vw.bipush (v := 97) (de_bipush (B 637 _ rfl) (B 638 _ rfl)) rfl (n := 639) rfl ?_
  refine Vw.bast (j := 98) (y := 97) (de_bastore (B 639 _ rfl)) hA ⟨rfl, by decide, by decide⟩ (nb_ (by decide)) (n := 640) rfl ?_
  rw [wr_s (n := 98) (v := 97) rfl]
  refine Vw.dup (de_dup (B 640 _ rfl)) rfl (n := 641) rfl ?_
  refine Vw.bipush (v := 99) (de_bipush (B 641 _ rfl) (B 642 _ rfl)) rfl (n := 643) rfl ?_
  refine Vw.bipush (v := 105) (de_bipush (B 643 _ rfl) (B 644 _ rfl)) rfl (n := 645) rfl ?_
  refine Vw.bast (j := 99) (y := 105) (de_bastore (B 645 _ rfl)) hA ⟨rfl, by decide, by decide⟩ (nb_ (by decide)) (n := 646) rfl ?_
  rw [wr_s (n := 99) (v := 105) rfl]
  refine Vw.dup (de_dup (B 646 _ rfl)) rfl (n := 647) rfl ?_
  refine Vw.bipush (v := 100) (de_bipush (B 647 _ rfl) (B 648 _ rfl)) rfl (n := 649) rfl ?_
  refine Vw.bipush (v := 100) (de_bipush (B 649 _ rfl) (B 650 _ rfl)) rfl (n := 651) rfl ?_
  refine Vw.bast (j := 100) (y := 100) (de_bastore (B 651 _ rfl)) hA ⟨rfl, by decide, by decide⟩ (nb_ (by decide)) (n := 652) rfl ?_
  rw [wr_s (n := 100) (v := 100) rfl]
  refine Vw.dup (de_dup (B 652 _ rfl)) rfl (n := 653) rfl ?_
  refine Vw.bipush (v := 101) (de_bipush (B 653 _ rfl) (B 654 _ rfl)) rfl (n := 655) rfl ?_
  refine Vw.bipush (v := 32) (de_bipush (B 655 _ rfl) (B 656 _ rfl)) rfl (n := 657) rfl ?_
  refine Vw.bast (j := 101) (y := 32) (de_bastore (B 657 _ rfl)) hA ⟨rfl, by decide, by decide⟩ (nb_ (by decide)) (n := 658) rfl ?_
  rw [wr_s (n := 101) (v := 32) rfl]
  refine Vw.dup (de_dup (B 658 _ rfl)) rfl (n := 659) rfl ?_
  refine Vw.bipush (v := 102) (de_bipush (B 659 _ rfl) (B 660 _ rfl)) rfl (n := 661) rfl ?_
  refine Vw.bipush (v := 102) (de_bipush (B 661 _ rfl) (B 662 _ rfl)) rfl (n := 663) rfl ?_
  refine Vw.bast (j := 102) (y := 102) (de_bastore (B 663 _ rfl)) hA ⟨rfl, by decide, by decide⟩ (nb_ (by decide)) (n := 664) rfl ?_
  rw [wr_s (n := 102) (v := 102) rfl]
  refine Vw.dup (de_dup (B 664 _ rfl)) rfl (n := 665) rfl ?_
  refine Vw.bipush (v := 103) (de_bipush (B 665 _ rfl) (B 666 _ rfl)) rfl (n := 667) rfl ?_
  refine Vw.bipush (v := 101) (de_bipush (B 667 _ rfl) (B 668 _ rfl)) rfl (n := 669) rfl ?_
  refine Vw.bast (j := 103) (y := 101) (de_bastore (B 669 _ rfl)) hA ⟨rfl, by decide, by decide⟩ (nb_ (by decide)) (n := 670) rfl ?_
  rw [wr_s (n := 103) (v := 101) rfl]
  refine Vw.dup (de_dup (B 670 _ rfl)) rfl (n := 671) rfl ?_
  refine Vw.bipush (v := 104) (de_bipush (B 671 _ rfl) (B 672 _ rfl)) rfl (n := 673) rfl ?_
  refine Vw.bipush (v := 101) (de_bipush (B 673 _ rfl) (B 674 _ rfl)) rfl (n := 675) rfl ?_
  refine Vw.bast (j := 104) (y := 101) (de_bastore (B 675 _ rfl)) hA ⟨rfl, by decide, by decide⟩ (nb_ (by decide)) (n := 676) rfl ?_
  rw [wr_s (n := 104) (v := 101) rfl]
  refine Vw.dup (de_dup (B 676 _ rfl)) rfl (n := 677) rfl ?_
  refine Vw.bipush (v := 105) (de_bipush (B 677 _ rfl) (B 678 _ rfl)) rfl (n := 679) rfl ?_
  refine Vw.bipush (v := 100) (de_bipush (B 679 _ rfl) (B 680 _ rfl)) rfl (n := 681) rfl ?_
  refine Vw.bast (j := 105) (y := 100) (de_bastore (B 681 _ rfl)) hA ⟨rfl, by decide, by decide⟩ (nb_ (by decide)) (n := 682) rfl ?_
  rw [wr_s (n := 105) (v := 100) rfl]
  refine Vw.dup (de_dup (B 682 _ rfl)) rfl (n := 683) rfl ?_
  refine Vw.bipush (v := 106) (de_bipush (B 683 _ rfl) (B 684 _ rfl)) rfl (n := 685) rfl ?_
  refine Vw.bipush (v := 32) (de_bipush (B 685 _ rfl) (B 686 _ rfl)) rfl (n := 687) rfl ?_
  refine Vw.bast (j := 106) (y := 32) (de_bastore (B 687 _ rfl)) hA ⟨rfl, by decide, by decide⟩ (nb_ (by decide)) (n := 688) rfl ?_
  rw [wr_s (n := 106) (v := 32) rfl]
  refine Vw.dup (de_dup (B 688 _ rfl)) rfl (n := 689) rfl ?_
  refine Vw.bipush (v := 107) (de_bipush (B 689 _ rfl) (B 690 _ rfl)) rfl (n := 691) rfl ?_
  refine Vw.bipush (v := 98) (de_bipush (B 691 _ rfl) (B 692 _ rfl)) rfl (n := 693) rfl ?_
  refine Vw.bast (j := 107) (y := 98) (de_bastore (B 693 _ rfl)) hA ⟨rfl, by decide, by decide⟩ (nb_ (by decide)) (n := 694) rfl ?_
  rw [wr_s (n := 107) (v := 98) rfl]
  exact k
set_option maxRecDepth 100000 in
theorem X12_b4 {d mc ms cr sr r : Nat} {S : vS} {I : vI} {L : vL} {Q : Option Value → vS → vI → vL → Prop} (hA : S.1 (r + 6) = (102, 135)) (k : Vw mX12_init d mc ms cr sr Q 863 [(0, .ref r)] [.ref (r + 6), .ref r] S (wr I (r + 6) wB 135) L) : Vw mX12_init d mc ms cr sr Q 694 [(0, .ref r)] [.ref (r + 6), .ref r] S (wr I (r + 6) wB 108) L := by
  have B := bs_X12_init
  refine Vw.dup (de_dup (B 694 _ rfl)) rfl (n := 695) rfl ?_
  refine Vw.bipush (v := 108) (de_bipush (B 695 _ rfl) (B 696 _ rfl)) rfl (n := 697) rfl ?_
  refine Vw.bipush (v := 121) (de_bipush (B 697 _ rfl) (B 698 _ rfl)) rfl (n := 699) rfl ?_
  refine Vw.bast (j := 108) (y := 121) (de_bastore (B 699 _ rfl)) hA ⟨rfl, by decide, by decide⟩ (nb_ (by decide)) (n := 700) rfl ?_
  rw [wr_s (n := 108) (v := 121) rfl]
  refine Vw.dup (de_dup (B 700 _ rfl)) rfl (n := 701) rfl ?_
  refine Vw.bipush (v := 109) (de_bipush (B 701 _ rfl) (B 702 _ rfl)) rfl (n := 703) rfl ?_
  refine Vw.bipush (v := 32) (de_bipush (B 703 _ rfl) (B 704 _ rfl)) rfl (n := 705) rfl ?_
  refine Vw.bast (j := 109) (y := 32) (de_bastore (B 705 _ rfl)) hA ⟨rfl, by decide, by decide⟩ (nb_ (by decide)) (n := 706) rfl ?_
  rw [wr_s (n := 109) (v := 32) rfl]
  refine Vw.dup (de_dup (B 706 _ rfl)) rfl (n := 707) rfl ?_
  refine Vw.bipush (v := 110) (de_bipush (B 707 _ rfl) (B 708 _ rfl)) rfl (n := 709) rfl ?_
  refine Vw.bipush (v := 104) (de_bipush (B 709 _ rfl) (B 710 _ rfl)) rfl (n := 711) rfl ?_
  refine Vw.bast (j := 110) (y := 104) (de_bastore (B 711 _ rfl)) hA ⟨rfl, by decide, by decide⟩ (nb_ (by decide)) (n := 712) rfl ?_
  rw [wr_s (n := 110) (v := 104) rfl]
  refine Vw.dup (de_dup (B 712 _ rfl)) rfl (n := 713) rfl ?_
  refine Vw.bipush (v := 111) (de_bipush (B 713 _ rfl) (B 714 _ rfl)) rfl (n := 715) rfl ?_
  refine Vw.bipush (v := 97) (de_bipush (B 715 _ rfl) (B 716 _ rfl)) rfl (n := 717) rfl ?_
  refine Vw.bast (j := 111) (y := 97) (de_bastore (B 717 _ rfl)) hA ⟨rfl, by decide, by decide⟩ (nb_ (by decide)) (n := 718) rfl ?_
  rw [wr_s (n := 111) (v := 97) rfl]
  refine Vw.dup (de_dup (B 718 _ rfl)) rfl (n := 719) rfl ?_
  refine Vw.bipush (v := 112) (de_bipush (B 719 _ rfl) (B 720 _ rfl)) rfl (n := 721) rfl ?_
  refine Vw.bipush (v := 110) (de_bipush (B 721 _ rfl) (B 722 _ rfl)) rfl (n := 723) rfl ?_
  refine Vw.bast (j := 112) (y := 110) (de_bastore (B 723 _ rfl)) hA ⟨rfl, by decide, by decide⟩ (nb_ (by decide)) (n := 724) rfl ?_
  rw [wr_s (n := 112) (v := 110) rfl]
  refine Vw.dup (de_dup (B 724 _ rfl)) rfl (n := 725) rfl ?_
  refine Vw.bipush (v := 113) (de_bipush (B 725 _ rfl) (B 726 _ rfl)) rfl (n := 727) rfl ?_
  refine Vw.bipush (v := 100) (de_bipush (B 727 _ rfl) (B 728 _ rfl)) rfl (n := 729) rfl ?_
  refine Vw.bast (j := 113) (y := 100) (de_bastore (B 729 _ rfl)) hA ⟨rfl, by decide, by decide⟩ (nb_ (by decide)) (n := 730) rfl ?_
  rw [wr_s (n := 113) (v := 100) rfl]
  refine Vw.dup (de_dup (B 730 _ rfl)) rfl (n := 731) rfl ?_
  refine Vw.bipush (v := 114) (de_bipush (B 731 _ rfl) (B 732 _ rfl)) rfl (n := 733) rfl ?_
  refine Vw.bipush (v := 32) (de_bipush (B 733 _ rfl) (B 734 _ rfl)) rfl (n := 735) rfl ?_
  refine Vw.bast (j := 114) (y := 32) (de_bastore (B 735 _ rfl)) hA ⟨rfl, by decide, by decide⟩ (nb_ (by decide)) (n := 736) rfl ?_
  rw [wr_s (n := 114) (v := 32) rfl]
  refine Vw.dup (de_dup (B 736 _ rfl)) rfl (n := 737) rfl ?_
  refine Vw.bipush (v := 115) (de_bipush (B 737 _ rfl) (B 738 _ rfl)) rfl (n := 739) rfl ?_
  refine Vw.bipush (v := 116) (de_bipush (B 739 _ rfl) (B 740 _ rfl)) rfl (n := 741) rfl ?_
  refine Vw.bast (j := 115) (y := 116) (de_bastore (B 741 _ rfl)) hA ⟨rfl, by decide, by decide⟩ (nb_ (by decide)) (n := 742) rfl ?_
  rw [wr_s (n := 115) (v := 116) rfl]
  refine Vw.dup (de_dup (B 742 _ rfl)) rfl (n := 743) rfl ?_
  refine Vw.bipush (v := 116) (de_bipush (B 743 _ rfl) (B 744 _ rfl)) rfl (n := 745) rfl ?_
  refine Vw.bipush (v := 111) (de_bipush (B 745 _ rfl) (B 746 _ rfl)) rfl (n := 747) rfl ?_
  refine Vw.bast (j := 116) (y := 111) (de_bastore (B 747 _ rfl)) hA ⟨rfl, by decide, by decide⟩ (nb_ (by decide)) (n := 748) rfl ?_
  rw [wr_s (n := 116) (v := 111) rfl]
  refine Vw.dup (de_dup (B 748 _ rfl)) rfl (n := 749) rfl ?_
  refine Vw.bipush (v := 117) (de_bipush (B 749 _ rfl) (B 750 _ rfl)) rfl (n := 751) rfl ?_
  refine Vw.bipush (v := 32) (de_bipush (B 751 _ rfl) (B 752 _ rfl)) rfl (n := 753) rfl ?_
  refine Vw.bast (j := 117) (y := 32) (de_bastore (B 753 _ rfl)) hA ⟨rfl, by decide, by decide⟩ (nb_ (by decide)) (n := 754) rfl ?_
  rw [wr_s (n := 117) (v := 32) rfl]
  refine Vw.dup (de_dup (B 754 _ rfl)) rfl (n := 755) rfl ?_
  refine Vw.bipush (v := 118) (de_bipush (B 755 _ rfl) (B 756 _ rfl)) rfl (n := 757) rfl ?_
  refine Vw.bipush (v := 104) (de_bipush (B 757 _ rfl) (B 758 _ rfl)) rfl (n := 759) rfl ?_
  refine Vw.bast (j := 118) (y := 104) (de_bastore (B 759 _ rfl)) hA ⟨rfl, by decide, by decide⟩ (nb_ (by decide)) (n := 760) rfl ?_
  rw [wr_s (n := 118) (v := 104) rfl]
  refine Vw.dup (de_dup (B 760 _ rfl)) rfl (n := 761) rfl ?_
  refine Vw.bipush (v := 119) (de_bipush (B 761 _ rfl) (B 762 _ rfl)) rfl (n := 763) rfl ?_
  refine Vw.bipush (v := 101) (de_bipush (B 763 _ rfl) (B 764 _ rfl)) rfl (n := 765) rfl ?_
  refine Vw.bast (j := 119) (y := 101) (de_bastore (B 765 _ rfl)) hA ⟨rfl, by decide, by decide⟩ (nb_ (by decide)) (n := 766) rfl ?_
  rw [wr_s (n := 119) (v := 101) rfl]
  refine Vw.dup (de_dup (B 766 _ rfl)) rfl (n := 767) rfl ?_
  refine Vw.bipush (v := 120) (de_bipush (B 767 _ rfl) (B 768 _ rfl)) rfl (n := 769) rfl ?_
  refine Vw.bipush (v := 109) (de_bipush (B 769 _ rfl) (B 770 _ rfl)) rfl (n := 771) rfl ?_
  refine Vw.bast (j := 120) (y := 109) (de_bastore (B 771 _ rfl)) hA ⟨rfl, by decide, by decide⟩ (nb_ (by decide)) (n := 772) rfl ?_
  rw [wr_s (n := 120) (v := 109) rfl]
  refine Vw.dup (de_dup (B 772 _ rfl)) rfl (n := 773) rfl ?_
  refine Vw.bipush (v := 121) (de_bipush (B 773 _ rfl) (B 774 _ rfl)) rfl (n := 775) rfl ?_
  refine Vw.bipush (v := 32) (de_bipush (B 775 _ rfl) (B 776 _ rfl)) rfl (n := 777) rfl ?_
  refine Vw.bast (j := 121) (y := 32) (de_bastore (B 777 _ rfl)) hA ⟨rfl, by decide, by decide⟩ (nb_ (by decide)) (n := 778) rfl ?_
  rw [wr_s (n := 121) (v := 32) rfl]
  refine Vw.dup (de_dup (B 778 _ rfl)) rfl (n := 779) rfl ?_
  refine Vw.bipush (v := 122) (de_bipush (B 779 _ rfl) (B 780 _ rfl)) rfl (n := 781) rfl ?_
  refine Vw.bipush (v := 98) (de_bipush (B 781 _ rfl) (B 782 _ rfl)) rfl (n := 783) rfl ?_
  refine Vw.bast (j := 122) (y := 98) (de_bastore (B 783 _ rfl)) hA ⟨rfl, by decide, by decide⟩ (nb_ (by decide)) (n := 784) rfl ?_
  rw [wr_s (n := 122) (v := 98) rfl]
  refine Vw.dup (de_dup (B 784 _ rfl)) rfl (n := 785) rfl ?_
  refine Vw.bipush (v := 123) (de_bipush (B 785 _ rfl) (B 786 _ rfl)) rfl (n := 787) rfl ?_
  refine Vw.bipush (v := 117) (de_bipush (B 787 _ rfl) (B 788 _ rfl)) rfl (n := 789) rfl ?_
  refine Vw.bast (j := 123) (y := 117) (de_bastore (B 789 _ rfl)) hA ⟨rfl, by decide, by decide⟩ (nb_ (by decide)) (n := 790) rfl ?_
  rw [wr_s (n := 123) (v := 117) rfl]
  refine Vw.dup (de_dup (B 790 _ rfl)) rfl (n := 791) rfl ?_
  refine Vw.bipush (v := 124) (de_bipush (B 791 _ rfl) (B 792 _ rfl)) rfl (n := 793) rfl ?_
  refine Vw.bipush (v := 116) (de_bipush (B 793 _ rfl) (B 794 _ rfl)) rfl (n := 795) rfl ?_
  refine Vw.bast (j := 124) (y := 116) (de_bastore (B 795 _ rfl)) hA ⟨rfl, by decide, by decide⟩ (nb_ (by decide)) (n := 796) rfl ?_
  rw [wr_s (n := 124) (v := 116) rfl]
  refine Vw.dup (de_dup (B 796 _ rfl)) rfl (n := 797) rfl ?_
  refine Vw.bipush (v := 125) (de_bipush (B 797 _ rfl) (B 798 _ rfl)) rfl (n := 799) rfl ?_
  refine Vw.bipush (v := 116) (de_bipush (B 799 _ rfl) (B 800 _ rfl)) rfl (n := 801) rfl ?_
  refine Vw.bast (j := 125) (y := 116) (de_bastore (B 801 _ rfl)) hA ⟨rfl, by decide, by decide⟩ (nb_ (by decide)) (n := 802) rfl ?_
  rw [wr_s (n := 125) (v := 116) rfl]
  refine Vw.dup (de_dup (B 802 _ rfl)) rfl (n := 803) rfl ?_
  refine Vw.bipush (v := 126) (de_bipush (B 803 _ rfl) (B 804 _ rfl)) rfl (n := 805) rfl ?_
  refine Vw.bipush (v := 111) (de_bipush (B 805 _ rfl) (B 806 _ rfl)) rfl (n := 807) rfl ?_
  refine Vw.bast (j := 126) (y := 111) (de_bastore (B 807 _ rfl)) hA ⟨rfl, by decide, by decide⟩ (nb_ (by decide)) (n := 808) rfl ?_
  rw [wr_s (n := 126) (v := 111) rfl]
  refine Vw.dup (de_dup (B 808 _ rfl)) rfl (n := 809) rfl ?_
  refine Vw.bipush (v := 127) (de_bipush (B 809 _ rfl) (B 810 _ rfl)) rfl (n := 811) rfl ?_
  refine Vw.bipush (v := 110) (de_bipush (B 811 _ rfl) (B 812 _ rfl)) rfl (n := 813) rfl ?_
  refine Vw.bast (j := 127) (y := 110) (de_bastore (B 813 _ rfl)) hA ⟨rfl, by decide, by decide⟩ (nb_ (by decide)) (n := 814) rfl ?_
  rw [wr_s (n := 127) (v := 110) rfl]
  refine Vw.dup (de_dup (B 814 _ rfl)) rfl (n := 815) rfl ?_
  refine Vw.sipush (v := 128) (de_sipush (B 815 _ rfl) (B 816 _ rfl) (B 817 _ rfl)) rfl (n := 818) rfl ?_
  refine Vw.bipush (v := 32) (de_bipush (B 818 _ rfl) (B 819 _ rfl)) rfl (n := 820) rfl ?_
  refine Vw.bast (j := 128) (y := 32) (de_bastore (B 820 _ rfl)) hA ⟨rfl, by decide, by decide⟩ (nb_ (by decide)) (n := 821) rfl ?_
  rw [wr_s (n := 128) (v := 32) rfl]
  refine Vw.dup (de_dup (B 821 _ rfl)) rfl (n := 822) rfl ?_
  refine Vw.sipush (v := 129) (de_sipush (B 822 _ rfl) (B 823 _ rfl) (B 824 _ rfl)) rfl (n := 825) rfl ?_
  refine Vw.bipush (v := 116) (de_bipush (B 825 _ rfl) (B 826 _ rfl)) rfl (n := 827) rfl ?_
  refine Vw.bast (j := 129) (y := 116) (de_bastore (B 827 _ rfl)) hA ⟨rfl, by decide, by decide⟩ (nb_ (by decide)) (n := 828) rfl ?_
  rw [wr_s (n := 129) (v := 116) rfl]
  refine Vw.dup (de_dup (B 828 _ rfl)) rfl (n := 829) rfl ?_
  refine Vw.sipush (v := 130) (de_sipush (B 829 _ rfl) (B 830 _ rfl) (B 831 _ rfl)) rfl (n := 832) rfl ?_
  refine Vw.bipush (v := 105) (de_bipush (B 832 _ rfl) (B 833 _ rfl)) rfl (n := 834) rfl ?_
  refine Vw.bast (j := 130) (y := 105) (de_bastore (B 834 _ rfl)) hA ⟨rfl, by decide, by decide⟩ (nb_ (by decide)) (n := 835) rfl ?_
  rw [wr_s (n := 130) (v := 105) rfl]
  refine Vw.dup (de_dup (B 835 _ rfl)) rfl (n := 836) rfl ?_
  refine Vw.sipush (v := 131) (de_sipush (B 836 _ rfl) (B 837 _ rfl) (B 838 _ rfl)) rfl (n := 839) rfl ?_
  refine Vw.bipush (v := 109) (de_bipush (B 839 _ rfl) (B 840 _ rfl)) rfl (n := 841) rfl ?_
  refine Vw.bast (j := 131) (y := 109) (de_bastore (B 841 _ rfl)) hA ⟨rfl, by decide, by decide⟩ (nb_ (by decide)) (n := 842) rfl ?_
  rw [wr_s (n := 131) (v := 109) rfl]
  refine Vw.dup (de_dup (B 842 _ rfl)) rfl (n := 843) rfl ?_
  refine Vw.sipush (v := 132) (de_sipush (B 843 _ rfl) (B 844 _ rfl) (B 845 _ rfl)) rfl (n := 846) rfl ?_
  refine Vw.bipush (v := 101) (de_bipush (B 846 _ rfl) (B 847 _ rfl)) rfl (n := 848) rfl ?_
  refine Vw.bast (j := 132) (y := 101) (de_bastore (B 848 _ rfl)) hA ⟨rfl, by decide, by decide⟩ (nb_ (by decide)) (n := 849) rfl ?_
  rw [wr_s (n := 132) (v := 101) rfl]
  refine Vw.dup (de_dup (B 849 _ rfl)) rfl (n := 850) rfl ?_
  refine Vw.sipush (v := 133) (de_sipush (B 850 _ rfl) (B 851 _ rfl) (B 852 _ rfl)) rfl (n := 853) rfl ?_
  refine Vw.bipush (v := 115) (de_bipush (B 853 _ rfl) (B 854 _ rfl)) rfl (n := 855) rfl ?_
  refine Vw.bast (j := 133) (y := 115) (de_bastore (B 855 _ rfl)) hA ⟨rfl, by decide, by decide⟩ (nb_ (by decide)) (n := 856) rfl ?_
  rw [wr_s (n := 133) (v := 115) rfl]
  refine Vw.dup (de_dup (B 856 _ rfl)) rfl (n := 857) rfl ?_
  refine Vw.sipush (v := 134) (de_sipush (B 857 _ rfl) (B 858 _ rfl) (B 859 _ rfl)) rfl (n := 860) rfl ?_
  refine Vw.bipush (v := 32) (de_bipush (B 860 _ rfl) (B 861 _ rfl)) rfl (n := 862) rfl ?_
  refine Vw.bast (j := 134) (y := 32) (de_bastore (B 862 _ rfl)) hA ⟨rfl, by decide, by decide⟩ (nb_ (by decide)) (n := 863) rfl ?_
  rw [wr_s (n := 134) (v := 32) rfl]
  exact k
theorem Gr.wr {a b n : Nat} {ks js : List Nat} {S S2 : vS} {I U : vI} {f : Nat → Int32} (h : Gr a ks js S S2 I U) (hb : S.2.2 ≤ b) : Gr a ks js S S2 I (wr U b f n) := ⟨h.1, h.2.1, h.2.2.1, fun y k hy hq => by rw [wr_o (by omega)]; exact h.2.2.2 y k hy hq⟩
set_option maxRecDepth 100000 in
theorem c_X12_init {d : Nat} {S : vS} {I : vI} {L : vL} {Q : vS → vI → vL → Prop} {r : Nat} (h0 : S.1 r = (12, 0)) (hN : S.2.2 = r + 1) (hz : ∀ k, I r k = 0) (h : ∀ S2 I2 M, S2.2.2 = r + 28 → NF r S S2 I I2 → MS S2 r → (∀ k, I2 r k = if k = 12 ∨ k = 43 then -1 else 0) → (∀ q, I2 (r + 1) q = 0) → (∀ q, I2 (r + 2) q = if q = 145 then -1 else if q = 140 then 3 else 0) → (∀ q, I2 (r + 4) q = 0) → Wd (I2 (r + 6)) WL 0 → (∀ q, I2 (r + 7) q = 0) → Q S2 I2 M) : Vc mX12_init (d + 1) 27 32975 [.ref r] S I L (VvQ Q) := by
  refine Vc.of rfl (Nat.le_of_ble_eq_true rfl) ?_
  have B := bs_X12_init
  show Vw mX12_init (d + 1) 27 32975 27 32975 (VvQ Q) 0 [(0, .ref r)] [] S I L
  have hk : (S.1 r).1 = 12 := by rw [h0]
  refine Vw.aload_n (de_aload_0 (B 0 _ rfl)) 0 rfl (n := 1) rfl ?_
  refine Vw.objInit (de_invokespecial (B 1 _ rfl) (B 2 _ rfl) (B 3 _ rfl)) ml_X12_18 oi_ok (Nat.le_of_ble_eq_true rfl) (n := 4) rfl ?_
  refine Vw.aload_n (de_aload_0 (B 4 _ rfl)) 0 rfl (n := 5) rfl ?_
  refine Vw.bipush (v := 7) (de_bipush (B 5 _ rfl) (B 6 _ rfl)) rfl (n := 7) rfl ?_
  refine Vw.naI (len := 7) (cr := 26) (sr := 32968) (de_newarray_int (B 7 _ rfl) (B 8 _ rfl)) ⟨by decide, by decide, by decide⟩ (n := 9) rfl (fun X1 U1 M1 w1 => ?_)
  have kx1 : (X1.1 r).1 = 12 := by rw [(w1.2.2.1 r (lta hN (by decide))).1]; exact hk
  refine Vw.putR (de_putfield (B 9 _ rfl) (B 10 _ rfl) (B 11 _ rfl)) fl_X12_7 kx1 rfl (Or.inr ⟨rfl, rfl, rfl⟩) (n := 12) rfl ?_
  have q1 := Gr.arr (a := r) (k := 1) w1 (lta hN (by decide))
  rw [hN] at q1 ⊢
  generalize sUp X1 r 1 (some (r + 1)) = S1 at q1 ⊢
  obtain ⟨g1, n1, kd1, rf1, z1, o1⟩ := q1
  have n1 : S1.2.2 = r + 2 := n1
  have k1 : (S1.1 r).1 = 12 := by rw [g1.kd (lta hN (by decide))]; exact hk
  refine Vw.aload_n (de_aload_0 (B 12 _ rfl)) 0 rfl (n := 13) rfl ?_
  refine Vw.sipush (v := 5753) (de_sipush (B 13 _ rfl) (B 14 _ rfl) (B 15 _ rfl)) rfl (n := 16) rfl ?_
  refine Vw.naI (len := 5753) (cr := 25) (sr := 27215) (de_newarray_int (B 16 _ rfl) (B 17 _ rfl)) ⟨by decide, by decide, by decide⟩ (n := 18) rfl (fun X2 U2 M2 w2 => ?_)
  have kx2 : (X2.1 r).1 = 12 := by rw [(w2.2.2.1 r (lta n1 (by decide))).1]; exact k1
  refine Vw.putR (de_putfield (B 18 _ rfl) (B 19 _ rfl) (B 20 _ rfl)) fl_X12_24 kx2 rfl (Or.inr ⟨rfl, rfl, rfl⟩) (n := 21) rfl ?_
  have q2 := Gr.arr (a := r) (k := 2) w2 (lta n1 (by decide))
  rw [n1] at q2 ⊢
  generalize sUp X2 r 2 (some (r + 2)) = S2 at q2 ⊢
  obtain ⟨g2, n2, kd2, rf2, z2, o2⟩ := q2
  have n2 : S2.2.2 = r + 3 := n2
  have k2 : (S2.1 r).1 = 12 := by rw [g2.kd (lta n1 (by decide))]; exact k1
  refine Vw.aload_n (de_aload_0 (B 21 _ rfl)) 0 rfl (n := 22) rfl ?_
  refine Vw.sipush (v := 11506) (de_sipush (B 22 _ rfl) (B 23 _ rfl) (B 24 _ rfl)) rfl (n := 25) rfl ?_
  refine Vw.naI (len := 11506) (cr := 24) (sr := 15709) (de_newarray_int (B 25 _ rfl) (B 26 _ rfl)) ⟨by decide, by decide, by decide⟩ (n := 27) rfl (fun X3 U3 M3 w3 => ?_)
  have kx3 : (X3.1 r).1 = 12 := by rw [(w3.2.2.1 r (lta n2 (by decide))).1]; exact k2
  refine Vw.putR (de_putfield (B 27 _ rfl) (B 28 _ rfl) (B 29 _ rfl)) fl_X12_27 kx3 rfl (Or.inr ⟨rfl, rfl, rfl⟩) (n := 30) rfl ?_
  have q3 := Gr.arr (a := r) (k := 3) w3 (lta n2 (by decide))
  rw [n2] at q3 ⊢
  generalize sUp X3 r 3 (some (r + 3)) = S3 at q3 ⊢
  obtain ⟨g3, n3, kd3, rf3, z3, o3⟩ := q3
  have n3 : S3.2.2 = r + 4 := n3
  have k3 : (S3.1 r).1 = 12 := by rw [g3.kd (lta n2 (by decide))]; exact k2
  refine Vw.aload_n (de_aload_0 (B 30 _ rfl)) 0 rfl (n := 31) rfl ?_
  refine Vw.iconst (v := 2) (de_iconst_2 (B 31 _ rfl)) rfl (n := 32) rfl ?_
  refine Vw.naZ (len := 2) (cr := 23) (sr := 15707) (de_newarray_boolean (B 32 _ rfl) (B 33 _ rfl)) ⟨by decide, by decide, by decide⟩ (n := 34) rfl (fun X4 U4 M4 w4 => ?_)
  have kx4 : (X4.1 r).1 = 12 := by rw [(w4.2.2.1 r (lta n3 (by decide))).1]; exact k3
  refine Vw.putR (de_putfield (B 34 _ rfl) (B 35 _ rfl) (B 36 _ rfl)) fl_X12_30 kx4 rfl (Or.inr ⟨rfl, rfl, rfl⟩) (n := 37) rfl ?_
  have q4 := Gr.arr (a := r) (k := 4) w4 (lta n3 (by decide))
  rw [n3] at q4 ⊢
  generalize sUp X4 r 4 (some (r + 4)) = S4 at q4 ⊢
  obtain ⟨g4, n4, kd4, rf4, z4, o4⟩ := q4
  have n4 : S4.2.2 = r + 5 := n4
  have k4 : (S4.1 r).1 = 12 := by rw [g4.kd (lta n3 (by decide))]; exact k3
  refine Vw.aload_n (de_aload_0 (B 37 _ rfl)) 0 rfl (n := 38) rfl ?_
  refine Vw.sipush (v := 244) (de_sipush (B 38 _ rfl) (B 39 _ rfl) (B 40 _ rfl)) rfl (n := 41) rfl ?_
  refine Vw.naI (len := 244) (cr := 22) (sr := 15463) (de_newarray_int (B 41 _ rfl) (B 42 _ rfl)) ⟨by decide, by decide, by decide⟩ (n := 43) rfl (fun X5 U5 M5 w5 => ?_)
  have kx5 : (X5.1 r).1 = 12 := by rw [(w5.2.2.1 r (lta n4 (by decide))).1]; exact k4
  refine Vw.putR (de_putfield (B 43 _ rfl) (B 44 _ rfl) (B 45 _ rfl)) fl_X12_34 kx5 rfl (Or.inr ⟨rfl, rfl, rfl⟩) (n := 46) rfl ?_
  have q5 := Gr.arr (a := r) (k := 5) w5 (lta n4 (by decide))
  rw [n4] at q5 ⊢
  generalize sUp X5 r 5 (some (r + 5)) = S5 at q5 ⊢
  obtain ⟨g5, n5, kd5, rf5, z5, o5⟩ := q5
  have n5 : S5.2.2 = r + 6 := n5
  have k5 : (S5.1 r).1 = 12 := by rw [g5.kd (lta n4 (by decide))]; exact k4
  refine Vw.aload_n (de_aload_0 (B 46 _ rfl)) 0 rfl (n := 47) rfl ?_
  refine Vw.sipush (v := 135) (de_sipush (B 47 _ rfl) (B 48 _ rfl) (B 49 _ rfl)) rfl (n := 50) rfl ?_
  refine Vw.naB (len := 135) (cr := 21) (sr := 15328) (de_newarray_byte (B 50 _ rfl) (B 51 _ rfl)) ⟨by decide, by decide, by decide⟩ (n := 52) rfl (fun X6 T6 M6 w6 => ?_)
  rw [n5]
  have kx6 : (X6.1 r).1 = 12 := by rw [(w6.2.2.1 r (lta n5 (by decide))).1]; exact k5
  have hA : X6.1 (r + 6) = (102, 135) := by have := w6.2.1; rw [n5] at this; exact this
  rw [← wr_0 T6 (r + 6) wB]
  refine X12_b0 hA ?_
  refine X12_b1 hA ?_
  refine X12_b2 hA ?_
  refine X12_b3 hA ?_
  refine X12_b4 hA ?_
  refine Vw.putR (de_putfield (B 863 _ rfl) (B 864 _ rfl) (B 865 _ rfl)) fl_X12_37 kx6 rfl (Or.inr ⟨rfl, rfl, rfl⟩) (n := 866) rfl ?_
  have q6 := Gr.arr (a := r) (k := 7) w6 (lta n5 (by decide))
  rw [n5] at q6
  generalize sUp X6 r 7 (some (r + 6)) = S6 at q6 ⊢
  obtain ⟨g6, n6, kd6, rf6, -, -⟩ := q6
  have g6 := g6.wr (b := r + 6) (f := wB) (n := 135) (Nat.le_of_eq n5)
  have wv : ∀ j, j < 135 → wr T6 (r + 6) wB 135 (r + 6) j = wB j := fun j hj => wr_i hj
  generalize wr T6 (r + 6) wB 135 = U6 at g6 wv ⊢
  have n6 : S6.2.2 = r + 7 := n6
  have k6 : (S6.1 r).1 = 12 := by rw [g6.kd (lta n5 (by decide))]; exact k5
  refine Vw.aload_n (de_aload_0 (B 866 _ rfl)) 0 rfl (n := 867) rfl ?_
  refine Vw.sipush (v := 400) (de_sipush (B 867 _ rfl) (B 868 _ rfl) (B 869 _ rfl)) rfl (n := 870) rfl ?_
  refine Vw.naB (len := 400) (cr := 20) (sr := 14928) (de_newarray_byte (B 870 _ rfl) (B 871 _ rfl)) ⟨by decide, by decide, by decide⟩ (n := 872) rfl (fun X7 U7 M7 w7 => ?_)
  have kx7 : (X7.1 r).1 = 12 := by rw [(w7.2.2.1 r (lta n6 (by decide))).1]; exact k6
  refine Vw.putR (de_putfield (B 872 _ rfl) (B 873 _ rfl) (B 874 _ rfl)) fl_X12_41 kx7 rfl (Or.inr ⟨rfl, rfl, rfl⟩) (n := 875) rfl ?_
  have q7 := Gr.arr (a := r) (k := 9) w7 (lta n6 (by decide))
  rw [n6] at q7 ⊢
  generalize sUp X7 r 9 (some (r + 7)) = S7 at q7 ⊢
  obtain ⟨g7, n7, kd7, rf7, z7, o7⟩ := q7
  have n7 : S7.2.2 = r + 8 := n7
  have k7 : (S7.1 r).1 = 12 := by rw [g7.kd (lta n6 (by decide))]; exact k6
  refine Vw.aload_n (de_aload_0 (B 875 _ rfl)) 0 rfl (n := 876) rfl ?_
  refine Vw.iconst (v := 5) (de_iconst_5 (B 876 _ rfl)) rfl (n := 877) rfl ?_
  refine Vw.naI (len := 5) (cr := 19) (sr := 14923) (de_newarray_int (B 877 _ rfl) (B 878 _ rfl)) ⟨by decide, by decide, by decide⟩ (n := 879) rfl (fun X8 U8 M8 w8 => ?_)
  have kx8 : (X8.1 r).1 = 12 := by rw [(w8.2.2.1 r (lta n7 (by decide))).1]; exact k7
  refine Vw.putR (de_putfield (B 879 _ rfl) (B 880 _ rfl) (B 881 _ rfl)) fl_X12_44 kx8 rfl (Or.inr ⟨rfl, rfl, rfl⟩) (n := 882) rfl ?_
  have q8 := Gr.arr (a := r) (k := 10) w8 (lta n7 (by decide))
  rw [n7] at q8 ⊢
  generalize sUp X8 r 10 (some (r + 8)) = S8 at q8 ⊢
  obtain ⟨g8, n8, kd8, rf8, z8, o8⟩ := q8
  have n8 : S8.2.2 = r + 9 := n8
  have k8 : (S8.1 r).1 = 12 := by rw [g8.kd (lta n7 (by decide))]; exact k7
  refine Vw.aload_n (de_aload_0 (B 882 _ rfl)) 0 rfl (n := 883) rfl ?_
  refine Vw.iconst (v := -1) (de_iconst_m1 (B 883 _ rfl)) rfl (n := 884) rfl ?_
  refine Vw.putI (de_putfield (B 884 _ rfl) (B 885 _ rfl) (B 886 _ rfl)) fl_X12_47 k8 rfl rfl (n := 887) rfl ?_
  have q9 := Gr.int (S := S8) (I := U8) (a := r) (k := 12) (v := -1)
  generalize up2 U8 r 12 (-1) = U9 at q9 ⊢
  obtain ⟨g9, v9⟩ := q9
  refine Vw.aload_n (de_aload_0 (B 887 _ rfl)) 0 rfl (n := 888) rfl ?_
  refine Vw.sipush (v := 401) (de_sipush (B 888 _ rfl) (B 889 _ rfl) (B 890 _ rfl)) rfl (n := 891) rfl ?_
  refine Vw.naI (len := 401) (cr := 18) (sr := 14522) (de_newarray_int (B 891 _ rfl) (B 892 _ rfl)) ⟨by decide, by decide, by decide⟩ (n := 893) rfl (fun X10 U10 M10 w10 => ?_)
  have kx10 : (X10.1 r).1 = 12 := by rw [(w10.2.2.1 r (lta n8 (by decide))).1]; exact k8
  refine Vw.putR (de_putfield (B 893 _ rfl) (B 894 _ rfl) (B 895 _ rfl)) fl_X12_50 kx10 rfl (Or.inr ⟨rfl, rfl, rfl⟩) (n := 896) rfl ?_
  have q10 := Gr.arr (a := r) (k := 13) w10 (lta n8 (by decide))
  rw [n8] at q10 ⊢
  generalize sUp X10 r 13 (some (r + 9)) = S10 at q10 ⊢
  obtain ⟨g10, n10, kd10, rf10, z10, o10⟩ := q10
  have n10 : S10.2.2 = r + 10 := n10
  have k10 : (S10.1 r).1 = 12 := by rw [g10.kd (lta n8 (by decide))]; exact k8
  refine Vw.aload_n (de_aload_0 (B 896 _ rfl)) 0 rfl (n := 897) rfl ?_
  refine Vw.sipush (v := 401) (de_sipush (B 897 _ rfl) (B 898 _ rfl) (B 899 _ rfl)) rfl (n := 900) rfl ?_
  refine Vw.naI (len := 401) (cr := 17) (sr := 14121) (de_newarray_int (B 900 _ rfl) (B 901 _ rfl)) ⟨by decide, by decide, by decide⟩ (n := 902) rfl (fun X11 U11 M11 w11 => ?_)
  have kx11 : (X11.1 r).1 = 12 := by rw [(w11.2.2.1 r (lta n10 (by decide))).1]; exact k10
  refine Vw.putR (de_putfield (B 902 _ rfl) (B 903 _ rfl) (B 904 _ rfl)) fl_X12_53 kx11 rfl (Or.inr ⟨rfl, rfl, rfl⟩) (n := 905) rfl ?_
  have q11 := Gr.arr (a := r) (k := 14) w11 (lta n10 (by decide))
  rw [n10] at q11 ⊢
  generalize sUp X11 r 14 (some (r + 10)) = S11 at q11 ⊢
  obtain ⟨g11, n11, kd11, rf11, z11, o11⟩ := q11
  have n11 : S11.2.2 = r + 11 := n11
  have k11 : (S11.1 r).1 = 12 := by rw [g11.kd (lta n10 (by decide))]; exact k10
  refine Vw.aload_n (de_aload_0 (B 905 _ rfl)) 0 rfl (n := 906) rfl ?_
  refine Vw.sipush (v := 401) (de_sipush (B 906 _ rfl) (B 907 _ rfl) (B 908 _ rfl)) rfl (n := 909) rfl ?_
  refine Vw.naI (len := 401) (cr := 16) (sr := 13720) (de_newarray_int (B 909 _ rfl) (B 910 _ rfl)) ⟨by decide, by decide, by decide⟩ (n := 911) rfl (fun X12 U12 M12 w12 => ?_)
  have kx12 : (X12.1 r).1 = 12 := by rw [(w12.2.2.1 r (lta n11 (by decide))).1]; exact k11
  refine Vw.putR (de_putfield (B 911 _ rfl) (B 912 _ rfl) (B 913 _ rfl)) fl_X12_56 kx12 rfl (Or.inr ⟨rfl, rfl, rfl⟩) (n := 914) rfl ?_
  have q12 := Gr.arr (a := r) (k := 15) w12 (lta n11 (by decide))
  rw [n11] at q12 ⊢
  generalize sUp X12 r 15 (some (r + 11)) = S12 at q12 ⊢
  obtain ⟨g12, n12, kd12, rf12, z12, o12⟩ := q12
  have n12 : S12.2.2 = r + 12 := n12
  have k12 : (S12.1 r).1 = 12 := by rw [g12.kd (lta n11 (by decide))]; exact k11
  refine Vw.aload_n (de_aload_0 (B 914 _ rfl)) 0 rfl (n := 915) rfl ?_
  refine Vw.bipush (v := 8) (de_bipush (B 915 _ rfl) (B 916 _ rfl)) rfl (n := 917) rfl ?_
  refine Vw.naI (len := 8) (cr := 15) (sr := 13712) (de_newarray_int (B 917 _ rfl) (B 918 _ rfl)) ⟨by decide, by decide, by decide⟩ (n := 919) rfl (fun X13 U13 M13 w13 => ?_)
  have kx13 : (X13.1 r).1 = 12 := by rw [(w13.2.2.1 r (lta n12 (by decide))).1]; exact k12
  refine Vw.putR (de_putfield (B 919 _ rfl) (B 920 _ rfl) (B 921 _ rfl)) fl_X12_59 kx13 rfl (Or.inr ⟨rfl, rfl, rfl⟩) (n := 922) rfl ?_
  have q13 := Gr.arr (a := r) (k := 24) w13 (lta n12 (by decide))
  rw [n12] at q13 ⊢
  generalize sUp X13 r 24 (some (r + 12)) = S13 at q13 ⊢
  obtain ⟨g13, n13, kd13, rf13, z13, o13⟩ := q13
  have n13 : S13.2.2 = r + 13 := n13
  have k13 : (S13.1 r).1 = 12 := by rw [g13.kd (lta n12 (by decide))]; exact k12
  refine Vw.aload_n (de_aload_0 (B 922 _ rfl)) 0 rfl (n := 923) rfl ?_
  refine Vw.iconst (v := 3) (de_iconst_3 (B 923 _ rfl)) rfl (n := 924) rfl ?_
  refine Vw.naI (len := 3) (cr := 14) (sr := 13709) (de_newarray_int (B 924 _ rfl) (B 925 _ rfl)) ⟨by decide, by decide, by decide⟩ (n := 926) rfl (fun X14 U14 M14 w14 => ?_)
  have kx14 : (X14.1 r).1 = 12 := by rw [(w14.2.2.1 r (lta n13 (by decide))).1]; exact k13
  refine Vw.putR (de_putfield (B 926 _ rfl) (B 927 _ rfl) (B 928 _ rfl)) fl_X12_62 kx14 rfl (Or.inr ⟨rfl, rfl, rfl⟩) (n := 929) rfl ?_
  have q14 := Gr.arr (a := r) (k := 25) w14 (lta n13 (by decide))
  rw [n13] at q14 ⊢
  generalize sUp X14 r 25 (some (r + 13)) = S14 at q14 ⊢
  obtain ⟨g14, n14, kd14, rf14, z14, o14⟩ := q14
  have n14 : S14.2.2 = r + 14 := n14
  have k14 : (S14.1 r).1 = 12 := by rw [g14.kd (lta n13 (by decide))]; exact k13
  refine Vw.aload_n (de_aload_0 (B 929 _ rfl)) 0 rfl (n := 930) rfl ?_
  refine Vw.sipush (v := 1968) (de_sipush (B 930 _ rfl) (B 931 _ rfl) (B 932 _ rfl)) rfl (n := 933) rfl ?_
  refine Vw.naI (len := 1968) (cr := 13) (sr := 11741) (de_newarray_int (B 933 _ rfl) (B 934 _ rfl)) ⟨by decide, by decide, by decide⟩ (n := 935) rfl (fun X15 U15 M15 w15 => ?_)
  have kx15 : (X15.1 r).1 = 12 := by rw [(w15.2.2.1 r (lta n14 (by decide))).1]; exact k14
  refine Vw.putR (de_putfield (B 935 _ rfl) (B 936 _ rfl) (B 937 _ rfl)) fl_X12_65 kx15 rfl (Or.inr ⟨rfl, rfl, rfl⟩) (n := 938) rfl ?_
  have q15 := Gr.arr (a := r) (k := 30) w15 (lta n14 (by decide))
  rw [n14] at q15 ⊢
  generalize sUp X15 r 30 (some (r + 14)) = S15 at q15 ⊢
  obtain ⟨g15, n15, kd15, rf15, z15, o15⟩ := q15
  have n15 : S15.2.2 = r + 15 := n15
  have k15 : (S15.1 r).1 = 12 := by rw [g15.kd (lta n14 (by decide))]; exact k14
  refine Vw.aload_n (de_aload_0 (B 938 _ rfl)) 0 rfl (n := 939) rfl ?_
  refine Vw.sipush (v := 1968) (de_sipush (B 939 _ rfl) (B 940 _ rfl) (B 941 _ rfl)) rfl (n := 942) rfl ?_
  refine Vw.naI (len := 1968) (cr := 12) (sr := 9773) (de_newarray_int (B 942 _ rfl) (B 943 _ rfl)) ⟨by decide, by decide, by decide⟩ (n := 944) rfl (fun X16 U16 M16 w16 => ?_)
  have kx16 : (X16.1 r).1 = 12 := by rw [(w16.2.2.1 r (lta n15 (by decide))).1]; exact k15
  refine Vw.putR (de_putfield (B 944 _ rfl) (B 945 _ rfl) (B 946 _ rfl)) fl_X12_68 kx16 rfl (Or.inr ⟨rfl, rfl, rfl⟩) (n := 947) rfl ?_
  have q16 := Gr.arr (a := r) (k := 31) w16 (lta n15 (by decide))
  rw [n15] at q16 ⊢
  generalize sUp X16 r 31 (some (r + 15)) = S16 at q16 ⊢
  obtain ⟨g16, n16, kd16, rf16, z16, o16⟩ := q16
  have n16 : S16.2.2 = r + 16 := n16
  have k16 : (S16.1 r).1 = 12 := by rw [g16.kd (lta n15 (by decide))]; exact k15
  refine Vw.aload_n (de_aload_0 (B 947 _ rfl)) 0 rfl (n := 948) rfl ?_
  refine Vw.sipush (v := 201) (de_sipush (B 948 _ rfl) (B 949 _ rfl) (B 950 _ rfl)) rfl (n := 951) rfl ?_
  refine Vw.naJ (len := 201) (cr := 11) (sr := 9572) (de_newarray_long (B 951 _ rfl) (B 952 _ rfl)) ⟨by decide, by decide, by decide⟩ (n := 953) rfl (fun X17 U17 M17 w17 => ?_)
  have kx17 : (X17.1 r).1 = 12 := by rw [(w17.2.2.1 r (lta n16 (by decide))).1]; exact k16
  refine Vw.putR (de_putfield (B 953 _ rfl) (B 954 _ rfl) (B 955 _ rfl)) fl_X12_71 kx17 rfl (Or.inr ⟨rfl, rfl, rfl⟩) (n := 956) rfl ?_
  have q17 := Gr.arr (a := r) (k := 33) w17 (lta n16 (by decide))
  rw [n16] at q17 ⊢
  generalize sUp X17 r 33 (some (r + 16)) = S17 at q17 ⊢
  obtain ⟨g17, n17, kd17, rf17, z17, o17⟩ := q17
  have n17 : S17.2.2 = r + 17 := n17
  have k17 : (S17.1 r).1 = 12 := by rw [g17.kd (lta n16 (by decide))]; exact k16
  refine Vw.aload_n (de_aload_0 (B 956 _ rfl)) 0 rfl (n := 957) rfl ?_
  refine Vw.sipush (v := 201) (de_sipush (B 957 _ rfl) (B 958 _ rfl) (B 959 _ rfl)) rfl (n := 960) rfl ?_
  refine Vw.naJ (len := 201) (cr := 10) (sr := 9371) (de_newarray_long (B 960 _ rfl) (B 961 _ rfl)) ⟨by decide, by decide, by decide⟩ (n := 962) rfl (fun X18 U18 M18 w18 => ?_)
  have kx18 : (X18.1 r).1 = 12 := by rw [(w18.2.2.1 r (lta n17 (by decide))).1]; exact k17
  refine Vw.putR (de_putfield (B 962 _ rfl) (B 963 _ rfl) (B 964 _ rfl)) fl_X12_75 kx18 rfl (Or.inr ⟨rfl, rfl, rfl⟩) (n := 965) rfl ?_
  have q18 := Gr.arr (a := r) (k := 34) w18 (lta n17 (by decide))
  rw [n17] at q18 ⊢
  generalize sUp X18 r 34 (some (r + 17)) = S18 at q18 ⊢
  obtain ⟨g18, n18, kd18, rf18, z18, o18⟩ := q18
  have n18 : S18.2.2 = r + 18 := n18
  have k18 : (S18.1 r).1 = 12 := by rw [g18.kd (lta n17 (by decide))]; exact k17
  refine Vw.aload_n (de_aload_0 (B 965 _ rfl)) 0 rfl (n := 966) rfl ?_
  refine Vw.sipush (v := 128) (de_sipush (B 966 _ rfl) (B 967 _ rfl) (B 968 _ rfl)) rfl (n := 969) rfl ?_
  refine Vw.naI (len := 128) (cr := 9) (sr := 9243) (de_newarray_int (B 969 _ rfl) (B 970 _ rfl)) ⟨by decide, by decide, by decide⟩ (n := 971) rfl (fun X19 U19 M19 w19 => ?_)
  have kx19 : (X19.1 r).1 = 12 := by rw [(w19.2.2.1 r (lta n18 (by decide))).1]; exact k18
  refine Vw.putR (de_putfield (B 971 _ rfl) (B 972 _ rfl) (B 973 _ rfl)) fl_X12_78 kx19 rfl (Or.inr ⟨rfl, rfl, rfl⟩) (n := 974) rfl ?_
  have q19 := Gr.arr (a := r) (k := 35) w19 (lta n18 (by decide))
  rw [n18] at q19 ⊢
  generalize sUp X19 r 35 (some (r + 18)) = S19 at q19 ⊢
  obtain ⟨g19, n19, kd19, rf19, z19, o19⟩ := q19
  have n19 : S19.2.2 = r + 19 := n19
  have k19 : (S19.1 r).1 = 12 := by rw [g19.kd (lta n18 (by decide))]; exact k18
  refine Vw.aload_n (de_aload_0 (B 974 _ rfl)) 0 rfl (n := 975) rfl ?_
  refine Vw.sipush (v := 128) (de_sipush (B 975 _ rfl) (B 976 _ rfl) (B 977 _ rfl)) rfl (n := 978) rfl ?_
  refine Vw.naI (len := 128) (cr := 8) (sr := 9115) (de_newarray_int (B 978 _ rfl) (B 979 _ rfl)) ⟨by decide, by decide, by decide⟩ (n := 980) rfl (fun X20 U20 M20 w20 => ?_)
  have kx20 : (X20.1 r).1 = 12 := by rw [(w20.2.2.1 r (lta n19 (by decide))).1]; exact k19
  refine Vw.putR (de_putfield (B 980 _ rfl) (B 981 _ rfl) (B 982 _ rfl)) fl_X12_81 kx20 rfl (Or.inr ⟨rfl, rfl, rfl⟩) (n := 983) rfl ?_
  have q20 := Gr.arr (a := r) (k := 36) w20 (lta n19 (by decide))
  rw [n19] at q20 ⊢
  generalize sUp X20 r 36 (some (r + 19)) = S20 at q20 ⊢
  obtain ⟨g20, n20, kd20, rf20, z20, o20⟩ := q20
  have n20 : S20.2.2 = r + 20 := n20
  have k20 : (S20.1 r).1 = 12 := by rw [g20.kd (lta n19 (by decide))]; exact k19
  refine Vw.aload_n (de_aload_0 (B 983 _ rfl)) 0 rfl (n := 984) rfl ?_
  refine Vw.sipush (v := 9000) (de_sipush (B 984 _ rfl) (B 985 _ rfl) (B 986 _ rfl)) rfl (n := 987) rfl ?_
  refine Vw.naI (len := 9000) (cr := 7) (sr := 115) (de_newarray_int (B 987 _ rfl) (B 988 _ rfl)) ⟨by decide, by decide, by decide⟩ (n := 989) rfl (fun X21 U21 M21 w21 => ?_)
  have kx21 : (X21.1 r).1 = 12 := by rw [(w21.2.2.1 r (lta n20 (by decide))).1]; exact k20
  refine Vw.putR (de_putfield (B 989 _ rfl) (B 990 _ rfl) (B 991 _ rfl)) fl_X12_84 kx21 rfl (Or.inr ⟨rfl, rfl, rfl⟩) (n := 992) rfl ?_
  have q21 := Gr.arr (a := r) (k := 37) w21 (lta n20 (by decide))
  rw [n20] at q21 ⊢
  generalize sUp X21 r 37 (some (r + 20)) = S21 at q21 ⊢
  obtain ⟨g21, n21, kd21, rf21, z21, o21⟩ := q21
  have n21 : S21.2.2 = r + 21 := n21
  have k21 : (S21.1 r).1 = 12 := by rw [g21.kd (lta n20 (by decide))]; exact k20
  refine Vw.aload_n (de_aload_0 (B 992 _ rfl)) 0 rfl (n := 993) rfl ?_
  refine Vw.bipush (v := 25) (de_bipush (B 993 _ rfl) (B 994 _ rfl)) rfl (n := 995) rfl ?_
  refine Vw.naI (len := 25) (cr := 6) (sr := 90) (de_newarray_int (B 995 _ rfl) (B 996 _ rfl)) ⟨by decide, by decide, by decide⟩ (n := 997) rfl (fun X22 U22 M22 w22 => ?_)
  have kx22 : (X22.1 r).1 = 12 := by rw [(w22.2.2.1 r (lta n21 (by decide))).1]; exact k21
  refine Vw.putR (de_putfield (B 997 _ rfl) (B 998 _ rfl) (B 999 _ rfl)) fl_X12_87 kx22 rfl (Or.inr ⟨rfl, rfl, rfl⟩) (n := 1000) rfl ?_
  have q22 := Gr.arr (a := r) (k := 38) w22 (lta n21 (by decide))
  rw [n21] at q22 ⊢
  generalize sUp X22 r 38 (some (r + 21)) = S22 at q22 ⊢
  obtain ⟨g22, n22, kd22, rf22, z22, o22⟩ := q22
  have n22 : S22.2.2 = r + 22 := n22
  have k22 : (S22.1 r).1 = 12 := by rw [g22.kd (lta n21 (by decide))]; exact k21
  refine Vw.aload_n (de_aload_0 (B 1000 _ rfl)) 0 rfl (n := 1001) rfl ?_
  refine Vw.bipush (v := 25) (de_bipush (B 1001 _ rfl) (B 1002 _ rfl)) rfl (n := 1003) rfl ?_
  refine Vw.naI (len := 25) (cr := 5) (sr := 65) (de_newarray_int (B 1003 _ rfl) (B 1004 _ rfl)) ⟨by decide, by decide, by decide⟩ (n := 1005) rfl (fun X23 U23 M23 w23 => ?_)
  have kx23 : (X23.1 r).1 = 12 := by rw [(w23.2.2.1 r (lta n22 (by decide))).1]; exact k22
  refine Vw.putR (de_putfield (B 1005 _ rfl) (B 1006 _ rfl) (B 1007 _ rfl)) fl_X12_90 kx23 rfl (Or.inr ⟨rfl, rfl, rfl⟩) (n := 1008) rfl ?_
  have q23 := Gr.arr (a := r) (k := 39) w23 (lta n22 (by decide))
  rw [n22] at q23 ⊢
  generalize sUp X23 r 39 (some (r + 22)) = S23 at q23 ⊢
  obtain ⟨g23, n23, kd23, rf23, z23, o23⟩ := q23
  have n23 : S23.2.2 = r + 23 := n23
  have k23 : (S23.1 r).1 = 12 := by rw [g23.kd (lta n22 (by decide))]; exact k22
  refine Vw.aload_n (de_aload_0 (B 1008 _ rfl)) 0 rfl (n := 1009) rfl ?_
  refine Vw.bipush (v := 25) (de_bipush (B 1009 _ rfl) (B 1010 _ rfl)) rfl (n := 1011) rfl ?_
  refine Vw.naI (len := 25) (cr := 4) (sr := 40) (de_newarray_int (B 1011 _ rfl) (B 1012 _ rfl)) ⟨by decide, by decide, by decide⟩ (n := 1013) rfl (fun X24 U24 M24 w24 => ?_)
  have kx24 : (X24.1 r).1 = 12 := by rw [(w24.2.2.1 r (lta n23 (by decide))).1]; exact k23
  refine Vw.putR (de_putfield (B 1013 _ rfl) (B 1014 _ rfl) (B 1015 _ rfl)) fl_X12_93 kx24 rfl (Or.inr ⟨rfl, rfl, rfl⟩) (n := 1016) rfl ?_
  have q24 := Gr.arr (a := r) (k := 40) w24 (lta n23 (by decide))
  rw [n23] at q24 ⊢
  generalize sUp X24 r 40 (some (r + 23)) = S24 at q24 ⊢
  obtain ⟨g24, n24, kd24, rf24, z24, o24⟩ := q24
  have n24 : S24.2.2 = r + 24 := n24
  have k24 : (S24.1 r).1 = 12 := by rw [g24.kd (lta n23 (by decide))]; exact k23
  refine Vw.aload_n (de_aload_0 (B 1016 _ rfl)) 0 rfl (n := 1017) rfl ?_
  refine Vw.bipush (v := 26) (de_bipush (B 1017 _ rfl) (B 1018 _ rfl)) rfl (n := 1019) rfl ?_
  refine Vw.naI (len := 26) (cr := 3) (sr := 14) (de_newarray_int (B 1019 _ rfl) (B 1020 _ rfl)) ⟨by decide, by decide, by decide⟩ (n := 1021) rfl (fun X25 U25 M25 w25 => ?_)
  have kx25 : (X25.1 r).1 = 12 := by rw [(w25.2.2.1 r (lta n24 (by decide))).1]; exact k24
  refine Vw.putR (de_putfield (B 1021 _ rfl) (B 1022 _ rfl) (B 1023 _ rfl)) fl_X12_96 kx25 rfl (Or.inr ⟨rfl, rfl, rfl⟩) (n := 1024) rfl ?_
  have q25 := Gr.arr (a := r) (k := 41) w25 (lta n24 (by decide))
  rw [n24] at q25 ⊢
  generalize sUp X25 r 41 (some (r + 24)) = S25 at q25 ⊢
  obtain ⟨g25, n25, kd25, rf25, z25, o25⟩ := q25
  have n25 : S25.2.2 = r + 25 := n25
  have k25 : (S25.1 r).1 = 12 := by rw [g25.kd (lta n24 (by decide))]; exact k24
  refine Vw.aload_n (de_aload_0 (B 1024 _ rfl)) 0 rfl (n := 1025) rfl ?_
  refine Vw.iconst (v := -1) (de_iconst_m1 (B 1025 _ rfl)) rfl (n := 1026) rfl ?_
  refine Vw.putI (de_putfield (B 1026 _ rfl) (B 1027 _ rfl) (B 1028 _ rfl)) fl_X12_99 k25 rfl rfl (n := 1029) rfl ?_
  have q26 := Gr.int (S := S25) (I := U25) (a := r) (k := 43) (v := -1)
  generalize up2 U25 r 43 (-1) = U26 at q26 ⊢
  obtain ⟨g26, v26⟩ := q26
  refine Vw.aload_n (de_aload_0 (B 1029 _ rfl)) 0 rfl (n := 1030) rfl ?_
  refine Vw.iconst (v := 2) (de_iconst_2 (B 1030 _ rfl)) rfl (n := 1031) rfl ?_
  refine Vw.naJ (len := 2) (cr := 2) (sr := 12) (de_newarray_long (B 1031 _ rfl) (B 1032 _ rfl)) ⟨by decide, by decide, by decide⟩ (n := 1033) rfl (fun X27 U27 M27 w27 => ?_)
  have kx27 : (X27.1 r).1 = 12 := by rw [(w27.2.2.1 r (lta n25 (by decide))).1]; exact k25
  refine Vw.putR (de_putfield (B 1033 _ rfl) (B 1034 _ rfl) (B 1035 _ rfl)) fl_X12_102 kx27 rfl (Or.inr ⟨rfl, rfl, rfl⟩) (n := 1036) rfl ?_
  have q27 := Gr.arr (a := r) (k := 51) w27 (lta n25 (by decide))
  rw [n25] at q27 ⊢
  generalize sUp X27 r 51 (some (r + 25)) = S27 at q27 ⊢
  obtain ⟨g27, n27, kd27, rf27, z27, o27⟩ := q27
  have n27 : S27.2.2 = r + 26 := n27
  have k27 : (S27.1 r).1 = 12 := by rw [g27.kd (lta n25 (by decide))]; exact k25
  refine Vw.aload_n (de_aload_0 (B 1036 _ rfl)) 0 rfl (n := 1037) rfl ?_
  refine Vw.bipush (v := 8) (de_bipush (B 1037 _ rfl) (B 1038 _ rfl)) rfl (n := 1039) rfl ?_
  refine Vw.naI (len := 8) (cr := 1) (sr := 4) (de_newarray_int (B 1039 _ rfl) (B 1040 _ rfl)) ⟨by decide, by decide, by decide⟩ (n := 1041) rfl (fun X28 U28 M28 w28 => ?_)
  have kx28 : (X28.1 r).1 = 12 := by rw [(w28.2.2.1 r (lta n27 (by decide))).1]; exact k27
  refine Vw.putR (de_putfield (B 1041 _ rfl) (B 1042 _ rfl) (B 1043 _ rfl)) fl_X12_105 kx28 rfl (Or.inr ⟨rfl, rfl, rfl⟩) (n := 1044) rfl ?_
  have q28 := Gr.arr (a := r) (k := 52) w28 (lta n27 (by decide))
  rw [n27] at q28 ⊢
  generalize sUp X28 r 52 (some (r + 26)) = S28 at q28 ⊢
  obtain ⟨g28, n28, kd28, rf28, z28, o28⟩ := q28
  have n28 : S28.2.2 = r + 27 := n28
  have k28 : (S28.1 r).1 = 12 := by rw [g28.kd (lta n27 (by decide))]; exact k27
  refine Vw.aload_n (de_aload_0 (B 1044 _ rfl)) 0 rfl (n := 1045) rfl ?_
  refine Vw.iconst (v := 4) (de_iconst_4 (B 1045 _ rfl)) rfl (n := 1046) rfl ?_
  refine Vw.naI (len := 4) (cr := 0) (sr := 0) (de_newarray_int (B 1046 _ rfl) (B 1047 _ rfl)) ⟨by decide, by decide, by decide⟩ (n := 1048) rfl (fun X29 U29 M29 w29 => ?_)
  have kx29 : (X29.1 r).1 = 12 := by rw [(w29.2.2.1 r (lta n28 (by decide))).1]; exact k28
  refine Vw.putR (de_putfield (B 1048 _ rfl) (B 1049 _ rfl) (B 1050 _ rfl)) fl_X12_108 kx29 rfl (Or.inr ⟨rfl, rfl, rfl⟩) (n := 1051) rfl ?_
  have q29 := Gr.arr (a := r) (k := 53) w29 (lta n28 (by decide))
  rw [n28] at q29 ⊢
  generalize sUp X29 r 53 (some (r + 27)) = S29 at q29 ⊢
  obtain ⟨g29, n29, kd29, rf29, z29, o29⟩ := q29
  have n29 : S29.2.2 = r + 28 := n29
  have k29 : (S29.1 r).1 = 12 := by rw [g29.kd (lta n28 (by decide))]; exact k28
  have H29 := Gr.rfl (a := r) (S := S29) (I := U29)
  have H28 := g29.trans H29
  have H27 := g28.trans H28
  have H26 := g27.trans H27
  have H25 := g26.trans H26
  have H24 := g25.trans H25
  have H23 := g24.trans H24
  have H22 := g23.trans H23
  have H21 := g22.trans H22
  have H20 := g21.trans H21
  have H19 := g20.trans H20
  have H18 := g19.trans H19
  have H17 := g18.trans H18
  have H16 := g17.trans H17
  have H15 := g16.trans H16
  have H14 := g15.trans H15
  have H13 := g14.trans H14
  have H12 := g13.trans H13
  have H11 := g12.trans H12
  have H10 := g11.trans H11
  have H9 := g10.trans H10
  have H8 := g9.trans H9
  have H7 := g8.trans H8
  have H6 := g7.trans H7
  have H5 := g6.trans H6
  have H4 := g5.trans H5
  have H3 := g4.trans H4
  have H2 := g3.trans H3
  have H1 := g2.trans H2
  have H0 := g1.trans H1
  have P2 : S29.2.1 r 2 = some (r + 2) := by rw [H2.rf (lta n2 (by decide)) (by decide)]; exact rf2
  have Q2 : S29.1 (r + 2) = (100, 5753) := by rw [H2.kd (ltn n2 (by decide))]; exact kd2
  refine Vw.aload_n (de_aload_0 (B 1051 _ rfl)) 0 rfl (n := 1052) rfl ?_
  refine Vw.getR (de_getfield (B 1052 _ rfl) (B 1053 _ rfl) (B 1054 _ rfl)) fl_X12_24 rfl k29 P2 (n := 1055) rfl ?_
  refine Vw.sipush (v := 140) (de_sipush (B 1055 _ rfl) (B 1056 _ rfl) (B 1057 _ rfl)) rfl (n := 1058) rfl ?_
  refine Vw.iconst (v := 3) (de_iconst_3 (B 1058 _ rfl)) rfl (n := 1059) rfl ?_
  refine Vw.iast (de_iastore (B 1059 _ rfl)) Q2 (j := 140) ⟨rfl, by decide, by decide⟩ (n := 1060) rfl ?_
  refine Vw.aload_n (de_aload_0 (B 1060 _ rfl)) 0 rfl (n := 1061) rfl ?_
  refine Vw.getR (de_getfield (B 1061 _ rfl) (B 1062 _ rfl) (B 1063 _ rfl)) fl_X12_24 rfl k29 P2 (n := 1064) rfl ?_
  refine Vw.sipush (v := 145) (de_sipush (B 1064 _ rfl) (B 1065 _ rfl) (B 1066 _ rfl)) rfl (n := 1067) rfl ?_
  refine Vw.iconst (v := -1) (de_iconst_m1 (B 1067 _ rfl)) rfl (n := 1068) rfl ?_
  refine Vw.iast (de_iastore (B 1068 _ rfl)) Q2 (j := 145) ⟨rfl, by decide, by decide⟩ (n := 1069) rfl ?_
  have ms_ : MS S29 r := ⟨(H0.kd (lta hN (by decide))).trans h0, List.forall_mem_cons.mpr ⟨⟨(H1.rf (lta n1 (by decide)) (by decide)).trans rf1, (H1.kd (ltn n1 (by decide))).trans kd1⟩, List.forall_mem_cons.mpr ⟨⟨(H2.rf (lta n2 (by decide)) (by decide)).trans rf2, (H2.kd (ltn n2 (by decide))).trans kd2⟩, List.forall_mem_cons.mpr ⟨⟨(H3.rf (lta n3 (by decide)) (by decide)).trans rf3, (H3.kd (ltn n3 (by decide))).trans kd3⟩, List.forall_mem_cons.mpr ⟨⟨(H4.rf (lta n4 (by decide)) (by decide)).trans rf4, (H4.kd (ltn n4 (by decide))).trans kd4⟩, List.forall_mem_cons.mpr ⟨⟨(H5.rf (lta n5 (by decide)) (by decide)).trans rf5, (H5.kd (ltn n5 (by decide))).trans kd5⟩, List.forall_mem_cons.mpr ⟨⟨(H6.rf (lta n6 (by decide)) (by decide)).trans rf6, (H6.kd (ltn n6 (by decide))).trans kd6⟩, List.forall_mem_cons.mpr ⟨⟨(H7.rf (lta n7 (by decide)) (by decide)).trans rf7, (H7.kd (ltn n7 (by decide))).trans kd7⟩, List.forall_mem_cons.mpr ⟨⟨(H8.rf (lta n8 (by decide)) (by decide)).trans rf8, (H8.kd (ltn n8 (by decide))).trans kd8⟩, List.forall_mem_cons.mpr ⟨⟨(H10.rf (lta n10 (by decide)) (by decide)).trans rf10, (H10.kd (ltn n10 (by decide))).trans kd10⟩, List.forall_mem_cons.mpr ⟨⟨(H11.rf (lta n11 (by decide)) (by decide)).trans rf11, (H11.kd (ltn n11 (by decide))).trans kd11⟩, List.forall_mem_cons.mpr ⟨⟨(H12.rf (lta n12 (by decide)) (by decide)).trans rf12, (H12.kd (ltn n12 (by decide))).trans kd12⟩, List.forall_mem_cons.mpr ⟨⟨(H13.rf (lta n13 (by decide)) (by decide)).trans rf13, (H13.kd (ltn n13 (by decide))).trans kd13⟩, List.forall_mem_cons.mpr ⟨⟨(H14.rf (lta n14 (by decide)) (by decide)).trans rf14, (H14.kd (ltn n14 (by decide))).trans kd14⟩, List.forall_mem_cons.mpr ⟨⟨(H15.rf (lta n15 (by decide)) (by decide)).trans rf15, (H15.kd (ltn n15 (by decide))).trans kd15⟩, List.forall_mem_cons.mpr ⟨⟨(H16.rf (lta n16 (by decide)) (by decide)).trans rf16, (H16.kd (ltn n16 (by decide))).trans kd16⟩, List.forall_mem_cons.mpr ⟨⟨(H17.rf (lta n17 (by decide)) (by decide)).trans rf17, (H17.kd (ltn n17 (by decide))).trans kd17⟩, List.forall_mem_cons.mpr ⟨⟨(H18.rf (lta n18 (by decide)) (by decide)).trans rf18, (H18.kd (ltn n18 (by decide))).trans kd18⟩, List.forall_mem_cons.mpr ⟨⟨(H19.rf (lta n19 (by decide)) (by decide)).trans rf19, (H19.kd (ltn n19 (by decide))).trans kd19⟩, List.forall_mem_cons.mpr ⟨⟨(H20.rf (lta n20 (by decide)) (by decide)).trans rf20, (H20.kd (ltn n20 (by decide))).trans kd20⟩, List.forall_mem_cons.mpr ⟨⟨(H21.rf (lta n21 (by decide)) (by decide)).trans rf21, (H21.kd (ltn n21 (by decide))).trans kd21⟩, List.forall_mem_cons.mpr ⟨⟨(H22.rf (lta n22 (by decide)) (by decide)).trans rf22, (H22.kd (ltn n22 (by decide))).trans kd22⟩, List.forall_mem_cons.mpr ⟨⟨(H23.rf (lta n23 (by decide)) (by decide)).trans rf23, (H23.kd (ltn n23 (by decide))).trans kd23⟩, List.forall_mem_cons.mpr ⟨⟨(H24.rf (lta n24 (by decide)) (by decide)).trans rf24, (H24.kd (ltn n24 (by decide))).trans kd24⟩, List.forall_mem_cons.mpr ⟨⟨(H25.rf (lta n25 (by decide)) (by decide)).trans rf25, (H25.kd (ltn n25 (by decide))).trans kd25⟩, List.forall_mem_cons.mpr ⟨⟨(H27.rf (lta n27 (by decide)) (by decide)).trans rf27, (H27.kd (ltn n27 (by decide))).trans kd27⟩, List.forall_mem_cons.mpr ⟨⟨(H28.rf (lta n28 (by decide)) (by decide)).trans rf28, (H28.kd (ltn n28 (by decide))).trans kd28⟩, List.forall_mem_cons.mpr ⟨⟨(H29.rf (lta n29 (by decide)) (by decide)).trans rf29, (H29.kd (ltn n29 (by decide))).trans kd29⟩, (fun q hq => by cases hq)⟩⟩⟩⟩⟩⟩⟩⟩⟩⟩⟩⟩⟩⟩⟩⟩⟩⟩⟩⟩⟩⟩⟩⟩⟩⟩⟩⟩
  have lo : ∀ b, b ≠ r + 2 → (up2 (up2 U29 (r + 2) 140 3) (r + 2) 145 (-1)) b = U29 b := fun b hb => by rw [up2_row hb, up2_row hb]
  refine Vw.vret (de_return_ (B 1069 _ rfl)) rfl ⟨rfl, h _ _ _ n29 ⟨(H0.nf hN).1, (H0.nf hN).2.1, fun b hb => ?_⟩ ms_ (fun k => ?_) (fun q => ?_) (fun q => ?_) (fun q => ?_) ?_ (fun q => ?_)⟩
  · rw [lo b (Nat.ne_of_lt (Nat.lt_trans hb (xlt (by decide))))]; exact (H0.nf hN).2.2 b hb
  · rw [lo r (Nat.ne_of_lt (xlt (by decide)))]
    by_cases e1 : k = 12
    · subst e1; rw [if_pos (by decide), H9.iv (lta n8 (by decide)) (by decide)]; exact v9
    · by_cases e2 : k = 43
      · subst e2; rw [if_pos (by decide), H26.iv (lta n25 (by decide)) (by decide)]; exact v26
      · rw [if_neg (fun q => q.elim e1 e2), H0.iv (lta hN (by decide)) (by simp [e1, e2])]; exact hz k
  · rw [lo (r + 1) (by omega), H1.ir (ltn n1 (by decide)) (by omega)]; exact z1 q
  · by_cases e1 : q = 145
    · subst e1; rw [up2_s, if_pos rfl]
    · rw [up2_k e1, if_neg e1]
      by_cases e2 : q = 140
      · subst e2; rw [up2_s, if_pos rfl]
      · rw [up2_k e2, if_neg e2, H2.ir (ltn n2 (by decide)) (by omega)]; exact z2 q
  · rw [lo (r + 4) (by omega), H4.ir (ltn n4 (by decide)) (by omega)]; exact z4 q
  · exact WdB.ok (l := wBl) (fun j hj => by rw [lo (r + 6) (by omega), H6.ir (ltn n6 (by decide)) (by omega)]; exact wv j hj) _ _ wB_ok
  · rw [lo (r + 7) (by omega), H7.ir (ltn n7 (by decide)) (by omega)]; exact z7 q
