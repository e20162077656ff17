/-! The class: where its objects lie -/
def TownS (S : vS) (t : Nat) : Prop := S.1 t = (9, 0) ∧ S.2.1 t 0 = some (t + 1) ∧ S.1 (t + 1) = (113, 8) ∧ S.2.1 t 1 = some (t + 2) ∧ S.1 (t + 2) = (110, 10) ∧ S.2.1 t 2 = some (t + 3) ∧ S.1 (t + 3) = (100, 4) ∧ S.2.1 t 3 = some (t + 4) ∧ S.1 (t + 4) = (100, 4) ∧ (∀ i, i < 8 → S.2.1 (t + 1) i = some (t + 5 + i) ∧ S.1 (t + 5 + i) = (3, 0)) ∧ (∀ i, i < 10 → S.2.1 (t + 2) i = some (t + 13 + i) ∧ S.1 (t + 13 + i) = (0, 0))
theorem TownS.k {S : vS} {t : Nat} (h : TownS S t) : (S.1 t).1 = 9 := by rw [h.1]
theorem TownS.f0 {S : vS} {t : Nat} (h : TownS S t) : S.2.1 t 0 = some (t + 1) := h.2.1
theorem TownS.r0 {S : vS} {t : Nat} (h : TownS S t) : S.1 (t + 1) = (113, 8) := h.2.2.1
theorem TownS.f1 {S : vS} {t : Nat} (h : TownS S t) : S.2.1 t 1 = some (t + 2) := h.2.2.2.1
theorem TownS.r1 {S : vS} {t : Nat} (h : TownS S t) : S.1 (t + 2) = (110, 10) := h.2.2.2.2.1
theorem TownS.f2 {S : vS} {t : Nat} (h : TownS S t) : S.2.1 t 2 = some (t + 3) := h.2.2.2.2.2.1
theorem TownS.r2 {S : vS} {t : Nat} (h : TownS S t) : S.1 (t + 3) = (100, 4) := h.2.2.2.2.2.2.1
theorem TownS.f3 {S : vS} {t : Nat} (h : TownS S t) : S.2.1 t 3 = some (t + 4) := h.2.2.2.2.2.2.2.1
theorem TownS.r3 {S : vS} {t : Nat} (h : TownS S t) : S.1 (t + 4) = (100, 4) := h.2.2.2.2.2.2.2.2.1
theorem TownS.pp {S : vS} {t : Nat} (h : TownS S t) : (∀ i, i < 8 → S.2.1 (t + 1) i = some (t + 5 + i) ∧ S.1 (t + 5 + i) = (3, 0)) := h.2.2.2.2.2.2.2.2.2.1
theorem TownS.cc {S : vS} {t : Nat} (h : TownS S t) : (∀ i, i < 10 → S.2.1 (t + 2) i = some (t + 13 + i) ∧ S.1 (t + 13 + i) = (0, 0)) := h.2.2.2.2.2.2.2.2.2.2
theorem TownS.pr {S : vS} {t i : Nat} (h : TownS S t) (hi : i < 8) : va_rf (S.2.1 (t + 1) i) = .ref (t + 5 + i) := by rw [(h.pp i hi).1]; rfl
theorem TownS.pk {S : vS} {t i : Nat} (h : TownS S t) (hi : i < 8) : (S.1 (t + 5 + i)).1 = 3 := by rw [(h.pp i hi).2]
theorem TownS.cr {S : vS} {t i : Nat} (h : TownS S t) (hi : i < 10) : va_rf (S.2.1 (t + 2) i) = .ref (t + 13 + i) := by rw [(h.cc i hi).1]; rfl
theorem TownS.ck {S : vS} {t i : Nat} (h : TownS S t) (hi : i < 10) : (S.1 (t + 13 + i)).1 = 0 := by rw [(h.cc i hi).2]
def StateS (S : vS) (s : Nat) : Prop := S.1 s = (8, 0) ∧ S.2.1 s 0 = some (s + 1) ∧ TownS S (s + 1) ∧ S.2.1 s 1 = some (s + 24) ∧ S.1 (s + 24) = (117, 6) ∧ S.2.1 s 6 = some (s + 25) ∧ S.1 (s + 25) = (100, 6) ∧ S.2.1 s 7 = some (s + 26) ∧ S.1 (s + 26) = (100, 6) ∧ S.2.1 s 8 = some (s + 27) ∧ S.1 (s + 27) = (100, 6)
theorem StateS.k {S : vS} {s : Nat} (h : StateS S s) : (S.1 s).1 = 8 := by rw [h.1]
theorem StateS.f0 {S : vS} {s : Nat} (h : StateS S s) : S.2.1 s 0 = some (s + 1) := h.2.1
theorem StateS.p0 {S : vS} {s : Nat} (h : StateS S s) : TownS S (s + 1) := h.2.2.1
theorem StateS.f1 {S : vS} {s : Nat} (h : StateS S s) : S.2.1 s 1 = some (s + 24) := h.2.2.2.1
theorem StateS.r1 {S : vS} {s : Nat} (h : StateS S s) : S.1 (s + 24) = (117, 6) := h.2.2.2.2.1
theorem StateS.f6 {S : vS} {s : Nat} (h : StateS S s) : S.2.1 s 6 = some (s + 25) := h.2.2.2.2.2.1
theorem StateS.r6 {S : vS} {s : Nat} (h : StateS S s) : S.1 (s + 25) = (100, 6) := h.2.2.2.2.2.2.1
theorem StateS.f7 {S : vS} {s : Nat} (h : StateS S s) : S.2.1 s 7 = some (s + 26) := h.2.2.2.2.2.2.2.1
theorem StateS.r7 {S : vS} {s : Nat} (h : StateS S s) : S.1 (s + 26) = (100, 6) := h.2.2.2.2.2.2.2.2.1
theorem StateS.f8 {S : vS} {s : Nat} (h : StateS S s) : S.2.1 s 8 = some (s + 27) := h.2.2.2.2.2.2.2.2.2.1
theorem StateS.r8 {S : vS} {s : Nat} (h : StateS S s) : S.1 (s + 27) = (100, 6) := h.2.2.2.2.2.2.2.2.2.2
def RulesS (S : vS) (u s : Nat) : Prop := S.1 u = (6, 0) ∧ S.2.1 u 0 = some (s) ∧ StateS S s ∧ S.2.1 u 1 = some (u + 1) ∧ S.1 (u + 1) = (100, 8) ∧ S.2.1 u 2 = some (u + 2) ∧ S.1 (u + 2) = (103, 40)
theorem RulesS.k {S : vS} {u s : Nat} (h : RulesS S u s) : (S.1 u).1 = 6 := by rw [h.1]
theorem RulesS.f0 {S : vS} {u s : Nat} (h : RulesS S u s) : S.2.1 u 0 = some (s) := h.2.1
theorem RulesS.p0 {S : vS} {u s : Nat} (h : RulesS S u s) : StateS S s := h.2.2.1
theorem RulesS.f1 {S : vS} {u s : Nat} (h : RulesS S u s) : S.2.1 u 1 = some (u + 1) := h.2.2.2.1
theorem RulesS.r1 {S : vS} {u s : Nat} (h : RulesS S u s) : S.1 (u + 1) = (100, 8) := h.2.2.2.2.1
theorem RulesS.f2 {S : vS} {u s : Nat} (h : RulesS S u s) : S.2.1 u 2 = some (u + 2) := h.2.2.2.2.2.1
theorem RulesS.r2 {S : vS} {u s : Nat} (h : RulesS S u s) : S.1 (u + 2) = (103, 40) := h.2.2.2.2.2.2
def WorksS (S : vS) (w s u : Nat) : Prop := S.1 w = (10, 0) ∧ S.2.1 w 0 = some (s) ∧ StateS S s ∧ S.2.1 w 1 = some (u) ∧ RulesS S u s ∧ S.2.1 w 2 = some (w + 1) ∧ S.1 (w + 1) = (100, 19)
theorem WorksS.k {S : vS} {w s u : Nat} (h : WorksS S w s u) : (S.1 w).1 = 10 := by rw [h.1]
theorem WorksS.f0 {S : vS} {w s u : Nat} (h : WorksS S w s u) : S.2.1 w 0 = some (s) := h.2.1
theorem WorksS.p0 {S : vS} {w s u : Nat} (h : WorksS S w s u) : StateS S s := h.2.2.1
theorem WorksS.f1 {S : vS} {w s u : Nat} (h : WorksS S w s u) : S.2.1 w 1 = some (u) := h.2.2.2.1
theorem WorksS.p1 {S : vS} {w s u : Nat} (h : WorksS S w s u) : RulesS S u s := h.2.2.2.2.1
theorem WorksS.f2 {S : vS} {w s u : Nat} (h : WorksS S w s u) : S.2.1 w 2 = some (w + 1) := h.2.2.2.2.2.1
theorem WorksS.r2 {S : vS} {w s u : Nat} (h : WorksS S w s u) : S.1 (w + 1) = (100, 19) := h.2.2.2.2.2.2
def PlanS (S : vS) (p s u : Nat) : Prop := S.1 p = (4, 0) ∧ S.2.1 p 0 = some (s) ∧ StateS S s ∧ S.2.1 p 1 = some (u) ∧ RulesS S u s ∧ S.2.1 p 2 = some (p + 1) ∧ S.1 (p + 1) = (3, 0) ∧ S.2.1 p 3 = some (p + 2) ∧ S.1 (p + 2) = (100, 81) ∧ S.2.1 p 4 = some (p + 3) ∧ S.1 (p + 3) = (100, 81) ∧ S.2.1 p 5 = some (p + 4) ∧ S.1 (p + 4) = (100, 81) ∧ S.2.1 p 6 = some (p + 5) ∧ S.1 (p + 5) = (103, 201) ∧ S.2.1 p 7 = some (p + 6) ∧ S.1 (p + 6) = (103, 201) ∧ S.2.1 p 8 = some (p + 7) ∧ S.1 (p + 7) = (100, 8) ∧ S.2.1 p 9 = some (p + 8) ∧ S.1 (p + 8) = (101, 8) ∧ S.2.1 p 10 = some (p + 9) ∧ TownS S (p + 9)
theorem PlanS.k {S : vS} {p s u : Nat} (h : PlanS S p s u) : (S.1 p).1 = 4 := by rw [h.1]
theorem PlanS.f0 {S : vS} {p s u : Nat} (h : PlanS S p s u) : S.2.1 p 0 = some (s) := h.2.1
theorem PlanS.p0 {S : vS} {p s u : Nat} (h : PlanS S p s u) : StateS S s := h.2.2.1
theorem PlanS.f1 {S : vS} {p s u : Nat} (h : PlanS S p s u) : S.2.1 p 1 = some (u) := h.2.2.2.1
theorem PlanS.p1 {S : vS} {p s u : Nat} (h : PlanS S p s u) : RulesS S u s := h.2.2.2.2.1
theorem PlanS.f2 {S : vS} {p s u : Nat} (h : PlanS S p s u) : S.2.1 p 2 = some (p + 1) := h.2.2.2.2.2.1
theorem PlanS.o2 {S : vS} {p s u : Nat} (h : PlanS S p s u) : S.1 (p + 1) = (3, 0) := h.2.2.2.2.2.2.1
theorem PlanS.ko2 {S : vS} {p s u : Nat} (h : PlanS S p s u) : (S.1 (p + 1)).1 = 3 := by rw [h.o2]
theorem PlanS.f3 {S : vS} {p s u : Nat} (h : PlanS S p s u) : S.2.1 p 3 = some (p + 2) := h.2.2.2.2.2.2.2.1
theorem PlanS.r3 {S : vS} {p s u : Nat} (h : PlanS S p s u) : S.1 (p + 2) = (100, 81) := h.2.2.2.2.2.2.2.2.1
theorem PlanS.f4 {S : vS} {p s u : Nat} (h : PlanS S p s u) : S.2.1 p 4 = some (p + 3) := h.2.2.2.2.2.2.2.2.2.1
theorem PlanS.r4 {S : vS} {p s u : Nat} (h : PlanS S p s u) : S.1 (p + 3) = (100, 81) := h.2.2.2.2.2.2.2.2.2.2.1
theorem PlanS.f5 {S : vS} {p s u : Nat} (h : PlanS S p s u) : S.2.1 p 5 = some (p + 4) := h.2.2.2.2.2.2.2.2.2.2.2.1
theorem PlanS.r5 {S : vS} {p s u : Nat} (h : PlanS S p s u) : S.1 (p + 4) = (100, 81) := h.2.2.2.2.2.2.2.2.2.2.2.2.1
theorem PlanS.f6 {S : vS} {p s u : Nat} (h : PlanS S p s u) : S.2.1 p 6 = some (p + 5) := h.2.2.2.2.2.2.2.2.2.2.2.2.2.1
theorem PlanS.r6 {S : vS} {p s u : Nat} (h : PlanS S p s u) : S.1 (p + 5) = (103, 201) := h.2.2.2.2.2.2.2.2.2.2.2.2.2.2.1
theorem PlanS.f7 {S : vS} {p s u : Nat} (h : PlanS S p s u) : S.2.1 p 7 = some (p + 6) := h.2.2.2.2.2.2.2.2.2.2.2.2.2.2.2.1
theorem PlanS.r7 {S : vS} {p s u : Nat} (h : PlanS S p s u) : S.1 (p + 6) = (103, 201) := h.2.2.2.2.2.2.2.2.2.2.2.2.2.2.2.2.1
theorem PlanS.f8 {S : vS} {p s u : Nat} (h : PlanS S p s u) : S.2.1 p 8 = some (p + 7) := h.2.2.2.2.2.2.2.2.2.2.2.2.2.2.2.2.2.1
theorem PlanS.r8 {S : vS} {p s u : Nat} (h : PlanS S p s u) : S.1 (p + 7) = (100, 8) := h.2.2.2.2.2.2.2.2.2.2.2.2.2.2.2.2.2.2.1
theorem PlanS.f9 {S : vS} {p s u : Nat} (h : PlanS S p s u) : S.2.1 p 9 = some (p + 8) := h.2.2.2.2.2.2.2.2.2.2.2.2.2.2.2.2.2.2.2.1
theorem PlanS.r9 {S : vS} {p s u : Nat} (h : PlanS S p s u) : S.1 (p + 8) = (101, 8) := h.2.2.2.2.2.2.2.2.2.2.2.2.2.2.2.2.2.2.2.2.1
theorem PlanS.f10 {S : vS} {p s u : Nat} (h : PlanS S p s u) : S.2.1 p 10 = some (p + 9) := h.2.2.2.2.2.2.2.2.2.2.2.2.2.2.2.2.2.2.2.2.2.1
theorem PlanS.p10 {S : vS} {p s u : Nat} (h : PlanS S p s u) : TownS S (p + 9) := h.2.2.2.2.2.2.2.2.2.2.2.2.2.2.2.2.2.2.2.2.2.2
def CutS (S : vS) (c s u p : Nat) : Prop := S.1 c = (1, 0) ∧ S.2.1 c 0 = some (s) ∧ StateS S s ∧ S.2.1 c 1 = some (u) ∧ RulesS S u s ∧ S.2.1 c 2 = some (p) ∧ PlanS S p s u ∧ S.2.1 c 3 = some (c + 1) ∧ S.1 (c + 1) = (100, 128) ∧ S.2.1 c 4 = some (c + 2) ∧ S.1 (c + 2) = (100, 128) ∧ S.2.1 c 5 = some (c + 3) ∧ S.1 (c + 3) = (100, 9000) ∧ S.2.1 c 6 = some (c + 4) ∧ S.1 (c + 4) = (100, 1000) ∧ S.2.1 c 7 = some (c + 5) ∧ S.1 (c + 5) = (100, 1000) ∧ S.2.1 c 9 = some (c + 6) ∧ S.1 (c + 6) = (100, 8) ∧ S.2.1 c 12 = some (c + 7) ∧ S.1 (c + 7) = (100, 26) ∧ S.2.1 c 13 = some (c + 8) ∧ S.1 (c + 8) = (100, 26)
theorem CutS.k {S : vS} {c s u p : Nat} (h : CutS S c s u p) : (S.1 c).1 = 1 := by rw [h.1]
theorem CutS.f0 {S : vS} {c s u p : Nat} (h : CutS S c s u p) : S.2.1 c 0 = some (s) := h.2.1
theorem CutS.p0 {S : vS} {c s u p : Nat} (h : CutS S c s u p) : StateS S s := h.2.2.1
theorem CutS.f1 {S : vS} {c s u p : Nat} (h : CutS S c s u p) : S.2.1 c 1 = some (u) := h.2.2.2.1
theorem CutS.p1 {S : vS} {c s u p : Nat} (h : CutS S c s u p) : RulesS S u s := h.2.2.2.2.1
theorem CutS.f2 {S : vS} {c s u p : Nat} (h : CutS S c s u p) : S.2.1 c 2 = some (p) := h.2.2.2.2.2.1
theorem CutS.p2 {S : vS} {c s u p : Nat} (h : CutS S c s u p) : PlanS S p s u := h.2.2.2.2.2.2.1
theorem CutS.f3 {S : vS} {c s u p : Nat} (h : CutS S c s u p) : S.2.1 c 3 = some (c + 1) := h.2.2.2.2.2.2.2.1
theorem CutS.r3 {S : vS} {c s u p : Nat} (h : CutS S c s u p) : S.1 (c + 1) = (100, 128) := h.2.2.2.2.2.2.2.2.1
theorem CutS.f4 {S : vS} {c s u p : Nat} (h : CutS S c s u p) : S.2.1 c 4 = some (c + 2) := h.2.2.2.2.2.2.2.2.2.1
theorem CutS.r4 {S : vS} {c s u p : Nat} (h : CutS S c s u p) : S.1 (c + 2) = (100, 128) := h.2.2.2.2.2.2.2.2.2.2.1
theorem CutS.f5 {S : vS} {c s u p : Nat} (h : CutS S c s u p) : S.2.1 c 5 = some (c + 3) := h.2.2.2.2.2.2.2.2.2.2.2.1
theorem CutS.r5 {S : vS} {c s u p : Nat} (h : CutS S c s u p) : S.1 (c + 3) = (100, 9000) := h.2.2.2.2.2.2.2.2.2.2.2.2.1
theorem CutS.f6 {S : vS} {c s u p : Nat} (h : CutS S c s u p) : S.2.1 c 6 = some (c + 4) := h.2.2.2.2.2.2.2.2.2.2.2.2.2.1
theorem CutS.r6 {S : vS} {c s u p : Nat} (h : CutS S c s u p) : S.1 (c + 4) = (100, 1000) := h.2.2.2.2.2.2.2.2.2.2.2.2.2.2.1
theorem CutS.f7 {S : vS} {c s u p : Nat} (h : CutS S c s u p) : S.2.1 c 7 = some (c + 5) := h.2.2.2.2.2.2.2.2.2.2.2.2.2.2.2.1
theorem CutS.r7 {S : vS} {c s u p : Nat} (h : CutS S c s u p) : S.1 (c + 5) = (100, 1000) := h.2.2.2.2.2.2.2.2.2.2.2.2.2.2.2.2.1
theorem CutS.f9 {S : vS} {c s u p : Nat} (h : CutS S c s u p) : S.2.1 c 9 = some (c + 6) := h.2.2.2.2.2.2.2.2.2.2.2.2.2.2.2.2.2.1
theorem CutS.r9 {S : vS} {c s u p : Nat} (h : CutS S c s u p) : S.1 (c + 6) = (100, 8) := h.2.2.2.2.2.2.2.2.2.2.2.2.2.2.2.2.2.2.1
theorem CutS.f12 {S : vS} {c s u p : Nat} (h : CutS S c s u p) : S.2.1 c 12 = some (c + 7) := h.2.2.2.2.2.2.2.2.2.2.2.2.2.2.2.2.2.2.2.1
theorem CutS.r12 {S : vS} {c s u p : Nat} (h : CutS S c s u p) : S.1 (c + 7) = (100, 26) := h.2.2.2.2.2.2.2.2.2.2.2.2.2.2.2.2.2.2.2.2.1
theorem CutS.f13 {S : vS} {c s u p : Nat} (h : CutS S c s u p) : S.2.1 c 13 = some (c + 8) := h.2.2.2.2.2.2.2.2.2.2.2.2.2.2.2.2.2.2.2.2.2.1
theorem CutS.r13 {S : vS} {c s u p : Nat} (h : CutS S c s u p) : S.1 (c + 8) = (100, 26) := h.2.2.2.2.2.2.2.2.2.2.2.2.2.2.2.2.2.2.2.2.2.2
def ScS (S : vS) (a n m : Nat) : Prop := S.1 a = (7, 0) ∧ S.2.1 a 1 = some (a + 1) ∧ S.1 (a + 1) = (100, n) ∧ S.2.1 a 2 = some (a + 2) ∧ S.1 (a + 2) = (100, n) ∧ S.2.1 a 3 = some (a + 3) ∧ S.1 (a + 3) = (100, n) ∧ S.2.1 a 4 = some (a + 4) ∧ S.1 (a + 4) = (100, n) ∧ S.2.1 a 5 = some (a + 5) ∧ S.1 (a + 5) = (100, n) ∧ S.2.1 a 6 = some (a + 6) ∧ S.1 (a + 6) = (100, n) ∧ S.2.1 a 7 = some (a + 7) ∧ S.1 (a + 7) = (100, m)
theorem ScS.k {S : vS} {a n m : Nat} (h : ScS S a n m) : (S.1 a).1 = 7 := by rw [h.1]
theorem ScS.f1 {S : vS} {a n m : Nat} (h : ScS S a n m) : S.2.1 a 1 = some (a + 1) := h.2.1
theorem ScS.r1 {S : vS} {a n m : Nat} (h : ScS S a n m) : S.1 (a + 1) = (100, n) := h.2.2.1
theorem ScS.f2 {S : vS} {a n m : Nat} (h : ScS S a n m) : S.2.1 a 2 = some (a + 2) := h.2.2.2.1
theorem ScS.r2 {S : vS} {a n m : Nat} (h : ScS S a n m) : S.1 (a + 2) = (100, n) := h.2.2.2.2.1
theorem ScS.f3 {S : vS} {a n m : Nat} (h : ScS S a n m) : S.2.1 a 3 = some (a + 3) := h.2.2.2.2.2.1
theorem ScS.r3 {S : vS} {a n m : Nat} (h : ScS S a n m) : S.1 (a + 3) = (100, n) := h.2.2.2.2.2.2.1
theorem ScS.f4 {S : vS} {a n m : Nat} (h : ScS S a n m) : S.2.1 a 4 = some (a + 4) := h.2.2.2.2.2.2.2.1
theorem ScS.r4 {S : vS} {a n m : Nat} (h : ScS S a n m) : S.1 (a + 4) = (100, n) := h.2.2.2.2.2.2.2.2.1
theorem ScS.f5 {S : vS} {a n m : Nat} (h : ScS S a n m) : S.2.1 a 5 = some (a + 5) := h.2.2.2.2.2.2.2.2.2.1
theorem ScS.r5 {S : vS} {a n m : Nat} (h : ScS S a n m) : S.1 (a + 5) = (100, n) := h.2.2.2.2.2.2.2.2.2.2.1
theorem ScS.f6 {S : vS} {a n m : Nat} (h : ScS S a n m) : S.2.1 a 6 = some (a + 6) := h.2.2.2.2.2.2.2.2.2.2.2.1
theorem ScS.r6 {S : vS} {a n m : Nat} (h : ScS S a n m) : S.1 (a + 6) = (100, n) := h.2.2.2.2.2.2.2.2.2.2.2.2.1
theorem ScS.f7 {S : vS} {a n m : Nat} (h : ScS S a n m) : S.2.1 a 7 = some (a + 7) := h.2.2.2.2.2.2.2.2.2.2.2.2.2.1
theorem ScS.r7 {S : vS} {a n m : Nat} (h : ScS S a n m) : S.1 (a + 7) = (100, m) := h.2.2.2.2.2.2.2.2.2.2.2.2.2.2
def ReadS (S : vS) (d : Nat) : Prop := S.1 d = (5, 0) ∧ S.2.1 d 0 = some (d + 1) ∧ ScS S (d + 1) 12 400 ∧ S.2.1 d 1 = some (d + 9) ∧ S.1 (d + 9) = (100, 401) ∧ S.2.1 d 2 = some (d + 10) ∧ S.1 (d + 10) = (100, 401) ∧ S.2.1 d 3 = some (d + 11) ∧ S.1 (d + 11) = (100, 401) ∧ S.2.1 d 4 = some (d + 12) ∧ S.1 (d + 12) = (100, 401)
theorem ReadS.k {S : vS} {d : Nat} (h : ReadS S d) : (S.1 d).1 = 5 := by rw [h.1]
theorem ReadS.f0 {S : vS} {d : Nat} (h : ReadS S d) : S.2.1 d 0 = some (d + 1) := h.2.1
theorem ReadS.p0 {S : vS} {d : Nat} (h : ReadS S d) : ScS S (d + 1) 12 400 := h.2.2.1
theorem ReadS.f1 {S : vS} {d : Nat} (h : ReadS S d) : S.2.1 d 1 = some (d + 9) := h.2.2.2.1
theorem ReadS.r1 {S : vS} {d : Nat} (h : ReadS S d) : S.1 (d + 9) = (100, 401) := h.2.2.2.2.1
theorem ReadS.f2 {S : vS} {d : Nat} (h : ReadS S d) : S.2.1 d 2 = some (d + 10) := h.2.2.2.2.2.1
theorem ReadS.r2 {S : vS} {d : Nat} (h : ReadS S d) : S.1 (d + 10) = (100, 401) := h.2.2.2.2.2.2.1
theorem ReadS.f3 {S : vS} {d : Nat} (h : ReadS S d) : S.2.1 d 3 = some (d + 11) := h.2.2.2.2.2.2.2.1
theorem ReadS.r3 {S : vS} {d : Nat} (h : ReadS S d) : S.1 (d + 11) = (100, 401) := h.2.2.2.2.2.2.2.2.1
theorem ReadS.f4 {S : vS} {d : Nat} (h : ReadS S d) : S.2.1 d 4 = some (d + 12) := h.2.2.2.2.2.2.2.2.2.1
theorem ReadS.r4 {S : vS} {d : Nat} (h : ReadS S d) : S.1 (d + 12) = (100, 401) := h.2.2.2.2.2.2.2.2.2.2
def HistS (S : vS) (a : Nat) : Prop := S.1 a = (2, 0) ∧ S.2.1 a 0 = some (a + 1) ∧ S.1 (a + 1) = (119, 16) ∧ S.2.1 a 1 = some (a + 2) ∧ S.1 (a + 2) = (100, 16) ∧ (∀ i, i < 16 → S.2.1 (a + 1) i = some (a + 3 + 23 * i) ∧ TownS S (a + 3 + 23 * i))
theorem HistS.k {S : vS} {a : Nat} (h : HistS S a) : (S.1 a).1 = 2 := by rw [h.1]
theorem HistS.f0 {S : vS} {a : Nat} (h : HistS S a) : S.2.1 a 0 = some (a + 1) := h.2.1
theorem HistS.r0 {S : vS} {a : Nat} (h : HistS S a) : S.1 (a + 1) = (119, 16) := h.2.2.1
theorem HistS.f1 {S : vS} {a : Nat} (h : HistS S a) : S.2.1 a 1 = some (a + 2) := h.2.2.2.1
theorem HistS.r1 {S : vS} {a : Nat} (h : HistS S a) : S.1 (a + 2) = (100, 16) := h.2.2.2.2.1
theorem HistS.tt {S : vS} {a : Nat} (h : HistS S a) : (∀ i, i < 16 → S.2.1 (a + 1) i = some (a + 3 + 23 * i) ∧ TownS S (a + 3 + 23 * i)) := h.2.2.2.2.2
theorem HistS.tr {S : vS} {a i : Nat} (h : HistS S a) (hi : i < 16) : va_rf (S.2.1 (a + 1) i) = .ref (a + 3 + 23 * i) := by rw [(h.tt i hi).1]; rfl
def ClsS (S : vS) (x : Nat) : Prop := S.1 x = (11, 0) ∧ S.2.1 x 0 = some (x + 1) ∧ StateS S (x + 1) ∧ S.2.1 x 1 = some (x + 29) ∧ RulesS S (x + 29) (x + 1) ∧ S.2.1 x 2 = some (x + 32) ∧ WorksS S (x + 32) (x + 1) (x + 29) ∧ S.2.1 x 3 = some (x + 34) ∧ PlanS S (x + 34) (x + 1) (x + 29) ∧ S.2.1 x 4 = some (x + 66) ∧ CutS S (x + 66) (x + 1) (x + 29) (x + 34) ∧ S.2.1 x 5 = some (x + 75) ∧ ReadS S (x + 75) ∧ S.2.1 x 6 = some (x + 89) ∧ HistS S (x + 89) ∧ S.2.1 x 7 = some (x + 460) ∧ HistS S (x + 460) ∧ S.2.1 x 8 = some (x + 831) ∧ TownS S (x + 831) ∧ S.2.1 x 9 = some (x + 854) ∧ S.1 (x + 854) = (118, 2) ∧ S.2.1 x 10 = some (x + 855) ∧ S.1 (x + 855) = (101, 2) ∧ S.2.1 x 11 = some (x + 856) ∧ S.1 (x + 856) = (100, 400) ∧ S.2.1 x 17 = some (x + 857) ∧ S.1 (x + 857) = (100, 7) ∧ (S.2.1 (x + 854) 0 = some (x + 858) ∧ StateS S (x + 858) ∧ S.2.1 (x + 854) 1 = some (x + 886) ∧ StateS S (x + 886))
theorem ClsS.k {S : vS} {x : Nat} (h : ClsS S x) : (S.1 x).1 = 11 := by rw [h.1]
theorem ClsS.f0 {S : vS} {x : Nat} (h : ClsS S x) : S.2.1 x 0 = some (x + 1) := h.2.1
theorem ClsS.p0 {S : vS} {x : Nat} (h : ClsS S x) : StateS S (x + 1) := h.2.2.1
theorem ClsS.f1 {S : vS} {x : Nat} (h : ClsS S x) : S.2.1 x 1 = some (x + 29) := h.2.2.2.1
theorem ClsS.p1 {S : vS} {x : Nat} (h : ClsS S x) : RulesS S (x + 29) (x + 1) := h.2.2.2.2.1
theorem ClsS.f2 {S : vS} {x : Nat} (h : ClsS S x) : S.2.1 x 2 = some (x + 32) := h.2.2.2.2.2.1
theorem ClsS.p2 {S : vS} {x : Nat} (h : ClsS S x) : WorksS S (x + 32) (x + 1) (x + 29) := h.2.2.2.2.2.2.1
theorem ClsS.f3 {S : vS} {x : Nat} (h : ClsS S x) : S.2.1 x 3 = some (x + 34) := h.2.2.2.2.2.2.2.1
theorem ClsS.p3 {S : vS} {x : Nat} (h : ClsS S x) : PlanS S (x + 34) (x + 1) (x + 29) := h.2.2.2.2.2.2.2.2.1
theorem ClsS.f4 {S : vS} {x : Nat} (h : ClsS S x) : S.2.1 x 4 = some (x + 66) := h.2.2.2.2.2.2.2.2.2.1
theorem ClsS.p4 {S : vS} {x : Nat} (h : ClsS S x) : CutS S (x + 66) (x + 1) (x + 29) (x + 34) := h.2.2.2.2.2.2.2.2.2.2.1
theorem ClsS.f5 {S : vS} {x : Nat} (h : ClsS S x) : S.2.1 x 5 = some (x + 75) := h.2.2.2.2.2.2.2.2.2.2.2.1
theorem ClsS.p5 {S : vS} {x : Nat} (h : ClsS S x) : ReadS S (x + 75) := h.2.2.2.2.2.2.2.2.2.2.2.2.1
theorem ClsS.f6 {S : vS} {x : Nat} (h : ClsS S x) : S.2.1 x 6 = some (x + 89) := h.2.2.2.2.2.2.2.2.2.2.2.2.2.1
theorem ClsS.p6 {S : vS} {x : Nat} (h : ClsS S x) : HistS S (x + 89) := h.2.2.2.2.2.2.2.2.2.2.2.2.2.2.1
theorem ClsS.f7 {S : vS} {x : Nat} (h : ClsS S x) : S.2.1 x 7 = some (x + 460) := h.2.2.2.2.2.2.2.2.2.2.2.2.2.2.2.1
theorem ClsS.p7 {S : vS} {x : Nat} (h : ClsS S x) : HistS S (x + 460) := h.2.2.2.2.2.2.2.2.2.2.2.2.2.2.2.2.1
theorem ClsS.f8 {S : vS} {x : Nat} (h : ClsS S x) : S.2.1 x 8 = some (x + 831) := h.2.2.2.2.2.2.2.2.2.2.2.2.2.2.2.2.2.1
theorem ClsS.p8 {S : vS} {x : Nat} (h : ClsS S x) : TownS S (x + 831) := h.2.2.2.2.2.2.2.2.2.2.2.2.2.2.2.2.2.2.1
theorem ClsS.f9 {S : vS} {x : Nat} (h : ClsS S x) : S.2.1 x 9 = some (x + 854) := h.2.2.2.2.2.2.2.2.2.2.2.2.2.2.2.2.2.2.2.1
theorem ClsS.r9 {S : vS} {x : Nat} (h : ClsS S x) : S.1 (x + 854) = (118, 2) := h.2.2.2.2.2.2.2.2.2.2.2.2.2.2.2.2.2.2.2.2.1
theorem ClsS.f10 {S : vS} {x : Nat} (h : ClsS S x) : S.2.1 x 10 = some (x + 855) := h.2.2.2.2.2.2.2.2.2.2.2.2.2.2.2.2.2.2.2.2.2.1
theorem ClsS.r10 {S : vS} {x : Nat} (h : ClsS S x) : S.1 (x + 855) = (101, 2) := h.2.2.2.2.2.2.2.2.2.2.2.2.2.2.2.2.2.2.2.2.2.2.1
theorem ClsS.f11 {S : vS} {x : Nat} (h : ClsS S x) : S.2.1 x 11 = some (x + 856) := h.2.2.2.2.2.2.2.2.2.2.2.2.2.2.2.2.2.2.2.2.2.2.2.1
theorem ClsS.r11 {S : vS} {x : Nat} (h : ClsS S x) : S.1 (x + 856) = (100, 400) := h.2.2.2.2.2.2.2.2.2.2.2.2.2.2.2.2.2.2.2.2.2.2.2.2.1
theorem ClsS.f17 {S : vS} {x : Nat} (h : ClsS S x) : S.2.1 x 17 = some (x + 857) := h.2.2.2.2.2.2.2.2.2.2.2.2.2.2.2.2.2.2.2.2.2.2.2.2.2.1
theorem ClsS.r17 {S : vS} {x : Nat} (h : ClsS S x) : S.1 (x + 857) = (100, 7) := h.2.2.2.2.2.2.2.2.2.2.2.2.2.2.2.2.2.2.2.2.2.2.2.2.2.2.1
theorem ClsS.im {S : vS} {x : Nat} (h : ClsS S x) : (S.2.1 (x + 854) 0 = some (x + 858) ∧ StateS S (x + 858) ∧ S.2.1 (x + 854) 1 = some (x + 886) ∧ StateS S (x + 886)) := h.2.2.2.2.2.2.2.2.2.2.2.2.2.2.2.2.2.2.2.2.2.2.2.2.2.2.2
