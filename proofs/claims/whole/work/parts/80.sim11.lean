/-! CLASS AND REFERENCE: faults -/
theorem rest_p {M : vM} {n b o : Nat} {x y z : Int32} (h : o ≤ 15 ∨ o = 29) : fRest M n b o x y z = fPlain M n b o x y z := if_pos h
theorem rest_g {M : vM} {n b o : Nat} {x y z : Int32} (h : 16 ≤ o) (h2 : o ≤ 24) : fRest M n b o x y z = fGuard M n b o x y := by
  unfold fRest
  rw [if_neg (by omega), if_pos h2]
theorem rest_o {M : vM} {n b o : Nat} {x y z : Int32} (h : 25 ≤ o) (h2 : o ≤ 28) : fRest M n b o x y z = fOuter M n b o x y := by
  unfold fRest
  rw [if_neg (by omega), if_neg (by omega)]
section FT
variable {M : vM} {b : Nat} {x y z : Int32}
theorem fits_0 : fWrong M b 0 x y z ↔ ¬ gFits M b 0 x y z := by
  unfold gFits
  rw [show sgn (opS.getD 0 0) 0 = 45 from by decide, show sgn (opS.getD 0 0) 1 = 45 from by decide, show sgn (opS.getD 0 0) 2 = 45 from by decide]
  simp only [gFit_45, gFit_71, gFit_82, gFit_73, gFit_80, gFit_86, gFit_67]
  unfold fWrong
  simp []
theorem fits_1 : fWrong M b 1 x y z ↔ ¬ gFits M b 1 x y z := by
  unfold gFits
  rw [show sgn (opS.getD 1 0) 0 = 82 from by decide, show sgn (opS.getD 1 0) 1 = 45 from by decide, show sgn (opS.getD 1 0) 2 = 45 from by decide]
  simp only [gFit_45, gFit_71, gFit_82, gFit_73, gFit_80, gFit_86, gFit_67]
  unfold fWrong
  by_cases a0 : nrg x <;> simp [a0]
theorem fits_2 : fWrong M b 2 x y z ↔ ¬ gFits M b 2 x y z := by
  unfold gFits
  rw [show sgn (opS.getD 2 0) 0 = 82 from by decide, show sgn (opS.getD 2 0) 1 = 82 from by decide, show sgn (opS.getD 2 0) 2 = 45 from by decide]
  simp only [gFit_45, gFit_71, gFit_82, gFit_73, gFit_80, gFit_86, gFit_67]
  unfold fWrong
  by_cases a0 : nrg x <;> by_cases a1 : nrg y <;> simp [a0, a1]
theorem fits_3 : fWrong M b 3 x y z ↔ ¬ gFits M b 3 x y z := by
  unfold gFits
  rw [show sgn (opS.getD 3 0) 0 = 82 from by decide, show sgn (opS.getD 3 0) 1 = 73 from by decide, show sgn (opS.getD 3 0) 2 = 73 from by decide]
  simp only [gFit_45, gFit_71, gFit_82, gFit_73, gFit_80, gFit_86, gFit_67]
  unfold fWrong
  by_cases a0 : nrg x <;> by_cases a1 : nrg y <;> by_cases a2 : isI (rgx M b y) <;> by_cases a3 : nrg z <;> by_cases a4 : isI (rgx M b z) <;> simp [a0, a1, a2, a3, a4]
theorem fits_4 : fWrong M b 4 x y z ↔ ¬ gFits M b 4 x y z := by
  unfold gFits
  rw [show sgn (opS.getD 4 0) 0 = 82 from by decide, show sgn (opS.getD 4 0) 1 = 73 from by decide, show sgn (opS.getD 4 0) 2 = 73 from by decide]
  simp only [gFit_45, gFit_71, gFit_82, gFit_73, gFit_80, gFit_86, gFit_67]
  unfold fWrong
  by_cases a0 : nrg x <;> by_cases a1 : nrg y <;> by_cases a2 : isI (rgx M b y) <;> by_cases a3 : nrg z <;> by_cases a4 : isI (rgx M b z) <;> simp [a0, a1, a2, a3, a4]
theorem fits_5 : fWrong M b 5 x y z ↔ ¬ gFits M b 5 x y z := by
  unfold gFits
  rw [show sgn (opS.getD 5 0) 0 = 82 from by decide, show sgn (opS.getD 5 0) 1 = 73 from by decide, show sgn (opS.getD 5 0) 2 = 73 from by decide]
  simp only [gFit_45, gFit_71, gFit_82, gFit_73, gFit_80, gFit_86, gFit_67]
  unfold fWrong
  by_cases a0 : nrg x <;> by_cases a1 : nrg y <;> by_cases a2 : isI (rgx M b y) <;> by_cases a3 : nrg z <;> by_cases a4 : isI (rgx M b z) <;> simp [a0, a1, a2, a3, a4]
theorem fits_6 : fWrong M b 6 x y z ↔ ¬ gFits M b 6 x y z := by
  unfold gFits
  rw [show sgn (opS.getD 6 0) 0 = 82 from by decide, show sgn (opS.getD 6 0) 1 = 73 from by decide, show sgn (opS.getD 6 0) 2 = 73 from by decide]
  simp only [gFit_45, gFit_71, gFit_82, gFit_73, gFit_80, gFit_86, gFit_67]
  unfold fWrong
  by_cases a0 : nrg x <;> by_cases a1 : nrg y <;> by_cases a2 : isI (rgx M b y) <;> by_cases a3 : nrg z <;> by_cases a4 : isI (rgx M b z) <;> simp [a0, a1, a2, a3, a4]
theorem fits_7 : fWrong M b 7 x y z ↔ ¬ gFits M b 7 x y z := by
  unfold gFits
  rw [show sgn (opS.getD 7 0) 0 = 82 from by decide, show sgn (opS.getD 7 0) 1 = 82 from by decide, show sgn (opS.getD 7 0) 2 = 82 from by decide]
  simp only [gFit_45, gFit_71, gFit_82, gFit_73, gFit_80, gFit_86, gFit_67]
  unfold fWrong
  by_cases a0 : nrg x <;> by_cases a1 : nrg y <;> by_cases a2 : nrg z <;> simp [a0, a1, a2]
theorem fits_8 : fWrong M b 8 x y z ↔ ¬ gFits M b 8 x y z := by
  unfold gFits
  rw [show sgn (opS.getD 8 0) 0 = 45 from by decide, show sgn (opS.getD 8 0) 1 = 45 from by decide, show sgn (opS.getD 8 0) 2 = 45 from by decide]
  simp only [gFit_45, gFit_71, gFit_82, gFit_73, gFit_80, gFit_86, gFit_67]
  unfold fWrong
  simp []
theorem fits_9 : fWrong M b 9 x y z ↔ ¬ gFits M b 9 x y z := by
  unfold gFits
  rw [show sgn (opS.getD 9 0) 0 = 82 from by decide, show sgn (opS.getD 9 0) 1 = 45 from by decide, show sgn (opS.getD 9 0) 2 = 45 from by decide]
  simp only [gFit_45, gFit_71, gFit_82, gFit_73, gFit_80, gFit_86, gFit_67]
  unfold fWrong
  by_cases a0 : nrg x <;> simp [a0]
theorem fits_10 : fWrong M b 10 x y z ↔ ¬ gFits M b 10 x y z := by
  unfold gFits
  rw [show sgn (opS.getD 10 0) 0 = 45 from by decide, show sgn (opS.getD 10 0) 1 = 45 from by decide, show sgn (opS.getD 10 0) 2 = 45 from by decide]
  simp only [gFit_45, gFit_71, gFit_82, gFit_73, gFit_80, gFit_86, gFit_67]
  unfold fWrong
  simp []
theorem fits_11 : fWrong M b 11 x y z ↔ ¬ gFits M b 11 x y z := by
  unfold gFits
  rw [show sgn (opS.getD 11 0) 0 = 45 from by decide, show sgn (opS.getD 11 0) 1 = 45 from by decide, show sgn (opS.getD 11 0) 2 = 45 from by decide]
  simp only [gFit_45, gFit_71, gFit_82, gFit_73, gFit_80, gFit_86, gFit_67]
  unfold fWrong
  simp []
theorem fits_12 : fWrong M b 12 x y z ↔ ¬ gFits M b 12 x y z := by
  unfold gFits
  rw [show sgn (opS.getD 12 0) 0 = 82 from by decide, show sgn (opS.getD 12 0) 1 = 82 from by decide, show sgn (opS.getD 12 0) 2 = 82 from by decide]
  simp only [gFit_45, gFit_71, gFit_82, gFit_73, gFit_80, gFit_86, gFit_67]
  unfold fWrong
  by_cases a0 : nrg x <;> by_cases a1 : nrg y <;> by_cases a2 : nrg z <;> simp [a0, a1, a2]
theorem fits_13 : fWrong M b 13 x y z ↔ ¬ gFits M b 13 x y z := by
  unfold gFits
  rw [show sgn (opS.getD 13 0) 0 = 82 from by decide, show sgn (opS.getD 13 0) 1 = 80 from by decide, show sgn (opS.getD 13 0) 2 = 45 from by decide]
  simp only [gFit_45, gFit_71, gFit_82, gFit_73, gFit_80, gFit_86, gFit_67]
  unfold fWrong
  by_cases a0 : nrg x <;> by_cases a1 : nrg y <;> by_cases a2 : isP (rgx M b y) <;> simp [a0, a1, a2]
theorem fits_14 : fWrong M b 14 x y z ↔ ¬ gFits M b 14 x y z := by
  unfold gFits
  rw [show sgn (opS.getD 14 0) 0 = 82 from by decide, show sgn (opS.getD 14 0) 1 = 80 from by decide, show sgn (opS.getD 14 0) 2 = 45 from by decide]
  simp only [gFit_45, gFit_71, gFit_82, gFit_73, gFit_80, gFit_86, gFit_67]
  unfold fWrong
  by_cases a0 : nrg x <;> by_cases a1 : nrg y <;> by_cases a2 : isP (rgx M b y) <;> simp [a0, a1, a2]
theorem fits_15 : fWrong M b 15 x y z ↔ ¬ gFits M b 15 x y z := by
  unfold gFits
  rw [show sgn (opS.getD 15 0) 0 = 82 from by decide, show sgn (opS.getD 15 0) 1 = 82 from by decide, show sgn (opS.getD 15 0) 2 = 45 from by decide]
  simp only [gFit_45, gFit_71, gFit_82, gFit_73, gFit_80, gFit_86, gFit_67]
  unfold fWrong
  by_cases a0 : nrg x <;> by_cases a1 : nrg y <;> simp [a0, a1]
theorem fits_16 : fWrong M b 16 x y z ↔ ¬ gFits M b 16 x y z := by
  unfold gFits
  rw [show sgn (opS.getD 16 0) 0 = 82 from by decide, show sgn (opS.getD 16 0) 1 = 86 from by decide, show sgn (opS.getD 16 0) 2 = 45 from by decide]
  simp only [gFit_45, gFit_71, gFit_82, gFit_73, gFit_80, gFit_86, gFit_67]
  unfold fWrong
  by_cases a0 : nrg x <;> by_cases a1 : nrg y <;> by_cases a2 : isV (rgx M b y) <;> simp [a0, a1, a2]
theorem fits_17 : fWrong M b 17 x y z ↔ ¬ gFits M b 17 x y z := by
  unfold gFits
  rw [show sgn (opS.getD 17 0) 0 = 86 from by decide, show sgn (opS.getD 17 0) 1 = 82 from by decide, show sgn (opS.getD 17 0) 2 = 45 from by decide]
  simp only [gFit_45, gFit_71, gFit_82, gFit_73, gFit_80, gFit_86, gFit_67]
  unfold fWrong
  by_cases a0 : nrg x <;> by_cases a1 : isV (rgx M b x) <;> by_cases a2 : nrg y <;> simp [a0, a1, a2]
theorem fits_18 : fWrong M b 18 x y z ↔ ¬ gFits M b 18 x y z := by
  unfold gFits
  rw [show sgn (opS.getD 18 0) 0 = 45 from by decide, show sgn (opS.getD 18 0) 1 = 45 from by decide, show sgn (opS.getD 18 0) 2 = 45 from by decide]
  simp only [gFit_45, gFit_71, gFit_82, gFit_73, gFit_80, gFit_86, gFit_67]
  unfold fWrong
  simp []
theorem fits_19 : fWrong M b 19 x y z ↔ ¬ gFits M b 19 x y z := by
  unfold gFits
  rw [show sgn (opS.getD 19 0) 0 = 45 from by decide, show sgn (opS.getD 19 0) 1 = 45 from by decide, show sgn (opS.getD 19 0) 2 = 45 from by decide]
  simp only [gFit_45, gFit_71, gFit_82, gFit_73, gFit_80, gFit_86, gFit_67]
  unfold fWrong
  simp []
theorem fits_20 : fWrong M b 20 x y z ↔ ¬ gFits M b 20 x y z := by
  unfold gFits
  rw [show sgn (opS.getD 20 0) 0 = 45 from by decide, show sgn (opS.getD 20 0) 1 = 45 from by decide, show sgn (opS.getD 20 0) 2 = 45 from by decide]
  simp only [gFit_45, gFit_71, gFit_82, gFit_73, gFit_80, gFit_86, gFit_67]
  unfold fWrong
  simp []
theorem fits_21 : fWrong M b 21 x y z ↔ ¬ gFits M b 21 x y z := by
  unfold gFits
  rw [show sgn (opS.getD 21 0) 0 = 45 from by decide, show sgn (opS.getD 21 0) 1 = 45 from by decide, show sgn (opS.getD 21 0) 2 = 45 from by decide]
  simp only [gFit_45, gFit_71, gFit_82, gFit_73, gFit_80, gFit_86, gFit_67]
  unfold fWrong
  simp []
theorem fits_22 : fWrong M b 22 x y z ↔ ¬ gFits M b 22 x y z := by
  unfold gFits
  rw [show sgn (opS.getD 22 0) 0 = 45 from by decide, show sgn (opS.getD 22 0) 1 = 45 from by decide, show sgn (opS.getD 22 0) 2 = 45 from by decide]
  simp only [gFit_45, gFit_71, gFit_82, gFit_73, gFit_80, gFit_86, gFit_67]
  unfold fWrong
  simp []
theorem fits_23 : fWrong M b 23 x y z ↔ ¬ gFits M b 23 x y z := by
  unfold gFits
  rw [show sgn (opS.getD 23 0) 0 = 45 from by decide, show sgn (opS.getD 23 0) 1 = 45 from by decide, show sgn (opS.getD 23 0) 2 = 45 from by decide]
  simp only [gFit_45, gFit_71, gFit_82, gFit_73, gFit_80, gFit_86, gFit_67]
  unfold fWrong
  simp []
theorem fits_24 : fWrong M b 24 x y z ↔ ¬ gFits M b 24 x y z := by
  unfold gFits
  rw [show sgn (opS.getD 24 0) 0 = 67 from by decide, show sgn (opS.getD 24 0) 1 = 45 from by decide, show sgn (opS.getD 24 0) 2 = 45 from by decide]
  simp only [gFit_45, gFit_71, gFit_82, gFit_73, gFit_80, gFit_86, gFit_67]
  unfold fWrong
  by_cases a0 : nrg x <;> by_cases a1 : isI (rgx M b x) <;> by_cases a2 : rgx M b x < 0 <;> simp [a0, a1, a2, Int64.not_le]
theorem fits_25 : fWrong M b 25 x y z ↔ ¬ gFits M b 25 x y z := by
  unfold gFits
  rw [show sgn (opS.getD 25 0) 0 = 82 from by decide, show sgn (opS.getD 25 0) 1 = 45 from by decide, show sgn (opS.getD 25 0) 2 = 45 from by decide]
  simp only [gFit_45, gFit_71, gFit_82, gFit_73, gFit_80, gFit_86, gFit_67]
  unfold fWrong
  by_cases a0 : nrg x <;> simp [a0]
theorem fits_26 : fWrong M b 26 x y z ↔ ¬ gFits M b 26 x y z := by
  unfold gFits
  rw [show sgn (opS.getD 26 0) 0 = 73 from by decide, show sgn (opS.getD 26 0) 1 = 45 from by decide, show sgn (opS.getD 26 0) 2 = 45 from by decide]
  simp only [gFit_45, gFit_71, gFit_82, gFit_73, gFit_80, gFit_86, gFit_67]
  unfold fWrong
  by_cases a0 : nrg x <;> by_cases a1 : isI (rgx M b x) <;> simp [a0, a1]
theorem fits_27 : fWrong M b 27 x y z ↔ ¬ gFits M b 27 x y z := by
  unfold gFits
  rw [show sgn (opS.getD 27 0) 0 = 71 from by decide, show sgn (opS.getD 27 0) 1 = 82 from by decide, show sgn (opS.getD 27 0) 2 = 45 from by decide]
  simp only [gFit_45, gFit_71, gFit_82, gFit_73, gFit_80, gFit_86, gFit_67]
  unfold fWrong
  by_cases a0 : ngl x <;> by_cases a1 : nrg y <;> simp [a0, a1]
theorem fits_28 : fWrong M b 28 x y z ↔ ¬ gFits M b 28 x y z := by
  unfold gFits
  rw [show sgn (opS.getD 28 0) 0 = 82 from by decide, show sgn (opS.getD 28 0) 1 = 71 from by decide, show sgn (opS.getD 28 0) 2 = 45 from by decide]
  simp only [gFit_45, gFit_71, gFit_82, gFit_73, gFit_80, gFit_86, gFit_67]
  unfold fWrong
  by_cases a0 : nrg x <;> by_cases a1 : ngl y <;> simp [a0, a1]
theorem fits_29 : fWrong M b 29 x y z ↔ ¬ gFits M b 29 x y z := by
  unfold gFits
  rw [show sgn (opS.getD 29 0) 0 = 82 from by decide, show sgn (opS.getD 29 0) 1 = 82 from by decide, show sgn (opS.getD 29 0) 2 = 45 from by decide]
  simp only [gFit_45, gFit_71, gFit_82, gFit_73, gFit_80, gFit_86, gFit_67]
  unfold fWrong
  by_cases a0 : nrg x <;> by_cases a1 : nrg y <;> simp [a0, a1]
theorem fits_iff : ∀ o, o < 30 → (fWrong M b o x y z ↔ ¬ gFits M b o x y z)
  | 0, _ => fits_0
  | 1, _ => fits_1
  | 2, _ => fits_2
  | 3, _ => fits_3
  | 4, _ => fits_4
  | 5, _ => fits_5
  | 6, _ => fits_6
  | 7, _ => fits_7
  | 8, _ => fits_8
  | 9, _ => fits_9
  | 10, _ => fits_10
  | 11, _ => fits_11
  | 12, _ => fits_12
  | 13, _ => fits_13
  | 14, _ => fits_14
  | 15, _ => fits_15
  | 16, _ => fits_16
  | 17, _ => fits_17
  | 18, _ => fits_18
  | 19, _ => fits_19
  | 20, _ => fits_20
  | 21, _ => fits_21
  | 22, _ => fits_22
  | 23, _ => fits_23
  | 24, _ => fits_24
  | 25, _ => fits_25
  | 26, _ => fits_26
  | 27, _ => fits_27
  | 28, _ => fits_28
  | 29, _ => fits_29
  | o + 30, h => absurd h (by omega)
theorem n1_iff {P : Prop} (hP : 0 ≤ M.1 b 13 ↔ P) : ∀ o, o < 30 → (gN1 M b (opW.getD o 0) ↔ ((o = 16 ∨ o = 17 ∨ o = 19 ∨ o = 20 ∨ o = 23) → P) ∧ ((o = 0 ∨ o = 18 ∨ o = 25 ∨ o = 26 ∨ o = 27) → ¬ P))
  | 0, _ => by
    rw [show opW.getD 0 0 = 1 from by decide]
    unfold gN1
    rw [if_neg (by decide), if_pos rfl, hP]
    exact ⟨fun h => ⟨fun h9 => absurd h9 (by decide), fun _ => h⟩, fun h => h.2 (by decide)⟩
  | 1, _ => by
    rw [show opW.getD 1 0 = 0 from by decide]
    unfold gN1
    rw [if_neg (by decide), if_neg (by decide)]
    exact ⟨fun _ => ⟨fun h => absurd h (by decide), fun h => absurd h (by decide)⟩, fun _ => trivial⟩
  | 2, _ => by
    rw [show opW.getD 2 0 = 0 from by decide]
    unfold gN1
    rw [if_neg (by decide), if_neg (by decide)]
    exact ⟨fun _ => ⟨fun h => absurd h (by decide), fun h => absurd h (by decide)⟩, fun _ => trivial⟩
  | 3, _ => by
    rw [show opW.getD 3 0 = 0 from by decide]
    unfold gN1
    rw [if_neg (by decide), if_neg (by decide)]
    exact ⟨fun _ => ⟨fun h => absurd h (by decide), fun h => absurd h (by decide)⟩, fun _ => trivial⟩
  | 4, _ => by
    rw [show opW.getD 4 0 = 0 from by decide]
    unfold gN1
    rw [if_neg (by decide), if_neg (by decide)]
    exact ⟨fun _ => ⟨fun h => absurd h (by decide), fun h => absurd h (by decide)⟩, fun _ => trivial⟩
  | 5, _ => by
    rw [show opW.getD 5 0 = 0 from by decide]
    unfold gN1
    rw [if_neg (by decide), if_neg (by decide)]
    exact ⟨fun _ => ⟨fun h => absurd h (by decide), fun h => absurd h (by decide)⟩, fun _ => trivial⟩
  | 6, _ => by
    rw [show opW.getD 6 0 = 0 from by decide]
    unfold gN1
    rw [if_neg (by decide), if_neg (by decide)]
    exact ⟨fun _ => ⟨fun h => absurd h (by decide), fun h => absurd h (by decide)⟩, fun _ => trivial⟩
  | 7, _ => by
    rw [show opW.getD 7 0 = 0 from by decide]
    unfold gN1
    rw [if_neg (by decide), if_neg (by decide)]
    exact ⟨fun _ => ⟨fun h => absurd h (by decide), fun h => absurd h (by decide)⟩, fun _ => trivial⟩
  | 8, _ => by
    rw [show opW.getD 8 0 = 0 from by decide]
    unfold gN1
    rw [if_neg (by decide), if_neg (by decide)]
    exact ⟨fun _ => ⟨fun h => absurd h (by decide), fun h => absurd h (by decide)⟩, fun _ => trivial⟩
  | 9, _ => by
    rw [show opW.getD 9 0 = 0 from by decide]
    unfold gN1
    rw [if_neg (by decide), if_neg (by decide)]
    exact ⟨fun _ => ⟨fun h => absurd h (by decide), fun h => absurd h (by decide)⟩, fun _ => trivial⟩
  | 10, _ => by
    rw [show opW.getD 10 0 = 0 from by decide]
    unfold gN1
    rw [if_neg (by decide), if_neg (by decide)]
    exact ⟨fun _ => ⟨fun h => absurd h (by decide), fun h => absurd h (by decide)⟩, fun _ => trivial⟩
  | 11, _ => by
    rw [show opW.getD 11 0 = 0 from by decide]
    unfold gN1
    rw [if_neg (by decide), if_neg (by decide)]
    exact ⟨fun _ => ⟨fun h => absurd h (by decide), fun h => absurd h (by decide)⟩, fun _ => trivial⟩
  | 12, _ => by
    rw [show opW.getD 12 0 = 0 from by decide]
    unfold gN1
    rw [if_neg (by decide), if_neg (by decide)]
    exact ⟨fun _ => ⟨fun h => absurd h (by decide), fun h => absurd h (by decide)⟩, fun _ => trivial⟩
  | 13, _ => by
    rw [show opW.getD 13 0 = 0 from by decide]
    unfold gN1
    rw [if_neg (by decide), if_neg (by decide)]
    exact ⟨fun _ => ⟨fun h => absurd h (by decide), fun h => absurd h (by decide)⟩, fun _ => trivial⟩
  | 14, _ => by
    rw [show opW.getD 14 0 = 0 from by decide]
    unfold gN1
    rw [if_neg (by decide), if_neg (by decide)]
    exact ⟨fun _ => ⟨fun h => absurd h (by decide), fun h => absurd h (by decide)⟩, fun _ => trivial⟩
  | 15, _ => by
    rw [show opW.getD 15 0 = 0 from by decide]
    unfold gN1
    rw [if_neg (by decide), if_neg (by decide)]
    exact ⟨fun _ => ⟨fun h => absurd h (by decide), fun h => absurd h (by decide)⟩, fun _ => trivial⟩
  | 16, _ => by
    rw [show opW.getD 16 0 = 2 from by decide]
    unfold gN1
    rw [if_pos rfl, hP]
    exact ⟨fun h => ⟨fun _ => h, fun h9 => absurd h9 (by decide)⟩, fun h => h.1 (by decide)⟩
  | 17, _ => by
    rw [show opW.getD 17 0 = 2 from by decide]
    unfold gN1
    rw [if_pos rfl, hP]
    exact ⟨fun h => ⟨fun _ => h, fun h9 => absurd h9 (by decide)⟩, fun h => h.1 (by decide)⟩
  | 18, _ => by
    rw [show opW.getD 18 0 = 1 from by decide]
    unfold gN1
    rw [if_neg (by decide), if_pos rfl, hP]
    exact ⟨fun h => ⟨fun h9 => absurd h9 (by decide), fun _ => h⟩, fun h => h.2 (by decide)⟩
  | 19, _ => by
    rw [show opW.getD 19 0 = 2 from by decide]
    unfold gN1
    rw [if_pos rfl, hP]
    exact ⟨fun h => ⟨fun _ => h, fun h9 => absurd h9 (by decide)⟩, fun h => h.1 (by decide)⟩
  | 20, _ => by
    rw [show opW.getD 20 0 = 2 from by decide]
    unfold gN1
    rw [if_pos rfl, hP]
    exact ⟨fun h => ⟨fun _ => h, fun h9 => absurd h9 (by decide)⟩, fun h => h.1 (by decide)⟩
  | 21, _ => by
    rw [show opW.getD 21 0 = 0 from by decide]
    unfold gN1
    rw [if_neg (by decide), if_neg (by decide)]
    exact ⟨fun _ => ⟨fun h => absurd h (by decide), fun h => absurd h (by decide)⟩, fun _ => trivial⟩
  | 22, _ => by
    rw [show opW.getD 22 0 = 0 from by decide]
    unfold gN1
    rw [if_neg (by decide), if_neg (by decide)]
    exact ⟨fun _ => ⟨fun h => absurd h (by decide), fun h => absurd h (by decide)⟩, fun _ => trivial⟩
  | 23, _ => by
    rw [show opW.getD 23 0 = 2 from by decide]
    unfold gN1
    rw [if_pos rfl, hP]
    exact ⟨fun h => ⟨fun _ => h, fun h9 => absurd h9 (by decide)⟩, fun h => h.1 (by decide)⟩
  | 24, _ => by
    rw [show opW.getD 24 0 = 0 from by decide]
    unfold gN1
    rw [if_neg (by decide), if_neg (by decide)]
    exact ⟨fun _ => ⟨fun h => absurd h (by decide), fun h => absurd h (by decide)⟩, fun _ => trivial⟩
  | 25, _ => by
    rw [show opW.getD 25 0 = 1 from by decide]
    unfold gN1
    rw [if_neg (by decide), if_pos rfl, hP]
    exact ⟨fun h => ⟨fun h9 => absurd h9 (by decide), fun _ => h⟩, fun h => h.2 (by decide)⟩
  | 26, _ => by
    rw [show opW.getD 26 0 = 1 from by decide]
    unfold gN1
    rw [if_neg (by decide), if_pos rfl, hP]
    exact ⟨fun h => ⟨fun h9 => absurd h9 (by decide), fun _ => h⟩, fun h => h.2 (by decide)⟩
  | 27, _ => by
    rw [show opW.getD 27 0 = 1 from by decide]
    unfold gN1
    rw [if_neg (by decide), if_pos rfl, hP]
    exact ⟨fun h => ⟨fun h9 => absurd h9 (by decide), fun _ => h⟩, fun h => h.2 (by decide)⟩
  | 28, _ => by
    rw [show opW.getD 28 0 = 0 from by decide]
    unfold gN1
    rw [if_neg (by decide), if_neg (by decide)]
    exact ⟨fun _ => ⟨fun h => absurd h (by decide), fun h => absurd h (by decide)⟩, fun _ => trivial⟩
  | 29, _ => by
    rw [show opW.getD 29 0 = 0 from by decide]
    unfold gN1
    rw [if_neg (by decide), if_neg (by decide)]
    exact ⟨fun _ => ⟨fun h => absurd h (by decide), fun h => absurd h (by decide)⟩, fun _ => trivial⟩
  | o + 30, h => absurd h (by omega)
end FT
/-- what must hold of the nests for the operation itself -/
theorem n2_bad {G N : vM} {n b e : Nat} {x y z : Int32} (h12 : G.1 b 12 = nI e) (h4 : N.1 b 4 = nI e) (he : e ≤ 24) (hA : sA G N b e) (huq : ∀ j q, j < e → q < e → N.1 (b + 11) j = 0 → N.1 (b + 11) q = 0 → j = q) : ∀ o, o < 30 → (o = 19 → fIn N b) → ¬ gN2 G b (opM.getD o 0) → fRest N n b o x y z = (N, -4)
  | 0, _, hin, hb => by
    rw [show opM.getD 0 0 = 10 from by decide] at hb
    rw [gN2_10, h12] at hb
    rw [rest_p (by decide)]
    show (if 0 < N.1 b 4 then (N, -4) else (fEnd N b 3 0, 0)) = _
    rw [if_pos]
    rw [h4]
    rcases Nat.eq_zero_or_pos e with y9 | y9
    · exact absurd (by rw [y9]; rfl) hb
    · exact nI_lt (a := 0) y9 (by omega)
  | 1, _, hin, hb => by
    rw [show opM.getD 1 0 = 11 from by decide] at hb
    exact absurd (by rw [gN2_x (by decide) (by decide) (by decide) (by decide)]; trivial) hb
  | 2, _, hin, hb => by
    rw [show opM.getD 2 0 = 12 from by decide] at hb
    exact absurd (by rw [gN2_x (by decide) (by decide) (by decide) (by decide)]; trivial) hb
  | 3, _, hin, hb => by
    rw [show opM.getD 3 0 = 13 from by decide] at hb
    exact absurd (by rw [gN2_x (by decide) (by decide) (by decide) (by decide)]; trivial) hb
  | 4, _, hin, hb => by
    rw [show opM.getD 4 0 = 14 from by decide] at hb
    exact absurd (by rw [gN2_x (by decide) (by decide) (by decide) (by decide)]; trivial) hb
  | 5, _, hin, hb => by
    rw [show opM.getD 5 0 = 15 from by decide] at hb
    exact absurd (by rw [gN2_x (by decide) (by decide) (by decide) (by decide)]; trivial) hb
  | 6, _, hin, hb => by
    rw [show opM.getD 6 0 = 16 from by decide] at hb
    exact absurd (by rw [gN2_x (by decide) (by decide) (by decide) (by decide)]; trivial) hb
  | 7, _, hin, hb => by
    rw [show opM.getD 7 0 = 17 from by decide] at hb
    exact absurd (by rw [gN2_x (by decide) (by decide) (by decide) (by decide)]; trivial) hb
  | 8, _, hin, hb => by
    rw [show opM.getD 8 0 = 18 from by decide] at hb
    exact absurd (by rw [gN2_x (by decide) (by decide) (by decide) (by decide)]; trivial) hb
  | 9, _, hin, hb => by
    rw [show opM.getD 9 0 = 19 from by decide] at hb
    exact absurd (by rw [gN2_x (by decide) (by decide) (by decide) (by decide)]; trivial) hb
  | 10, _, hin, hb => by
    rw [show opM.getD 10 0 = 20 from by decide] at hb
    exact absurd (by rw [gN2_x (by decide) (by decide) (by decide) (by decide)]; trivial) hb
  | 11, _, hin, hb => by
    rw [show opM.getD 11 0 = 21 from by decide] at hb
    exact absurd (by rw [gN2_x (by decide) (by decide) (by decide) (by decide)]; trivial) hb
  | 12, _, hin, hb => by
    rw [show opM.getD 12 0 = 22 from by decide] at hb
    exact absurd (by rw [gN2_x (by decide) (by decide) (by decide) (by decide)]; trivial) hb
  | 13, _, hin, hb => by
    rw [show opM.getD 13 0 = 23 from by decide] at hb
    exact absurd (by rw [gN2_x (by decide) (by decide) (by decide) (by decide)]; trivial) hb
  | 14, _, hin, hb => by
    rw [show opM.getD 14 0 = 24 from by decide] at hb
    exact absurd (by rw [gN2_x (by decide) (by decide) (by decide) (by decide)]; trivial) hb
  | 15, _, hin, hb => by
    rw [show opM.getD 15 0 = 25 from by decide] at hb
    exact absurd (by rw [gN2_x (by decide) (by decide) (by decide) (by decide)]; trivial) hb
  | 16, _, hin, hb => by
    rw [show opM.getD 16 0 = 1 from by decide] at hb
    exact absurd (by rw [gN2_x (by decide) (by decide) (by decide) (by decide)]; trivial) hb
  | 17, _, hin, hb => by
    rw [show opM.getD 17 0 = 2 from by decide] at hb
    exact absurd (by rw [gN2_x (by decide) (by decide) (by decide) (by decide)]; trivial) hb
  | 18, _, hin, hb => by
    rw [show opM.getD 18 0 = 6 from by decide] at hb
    rw [gN2_6, h12] at hb
    rw [rest_g (by decide) (by decide)]
    show (if N.1 b 4 = 24 then (N, -4) else _) = _
    rw [if_pos]
    rw [h4]
    have : e = 24 := by
      rcases Nat.lt_or_ge e 24 with y9 | y9
      · exact absurd (nI_lt (b := 24) y9 (by decide)) hb
      · omega
    rw [this]; rfl
  | 19, _, hin, hb => by
    rw [show opM.getD 19 0 = 3 from by decide] at hb
    rw [gN2_3, h12] at hb
    rw [rest_g (by decide) (by decide)]
    show (if N.1 (b + 11) (nn (N.1 b 4) - 1) = 0 then _ else (N, -4)) = _
    rw [if_neg]
    rw [h4, nn_nI (by omega)]
    obtain ⟨k, hk, -⟩ := hin rfl
    rw [h4, nn_nI (by omega)] at hk
    obtain ⟨e1, rfl⟩ : ∃ e1, e = e1 + 1 := ⟨e - 1, by omega⟩
    intro h0
    rw [nI_pred] at hb
    exact hb (hA.at (Nat.lt_succ_self e1) h0 huq)
  | 20, _, hin, hb => by
    rw [show opM.getD 20 0 = 7 from by decide] at hb
    rw [gN2_7, h12] at hb
    rw [rest_g (by decide) (by decide)]
    show (if N.1 b 4 = 24 then (N, -4) else _) = _
    rw [if_pos]
    rw [h4]
    have : e = 24 := by
      rcases Nat.lt_or_ge e 24 with y9 | y9
      · exact absurd (nI_lt (b := 24) y9 (by decide)) hb
      · omega
    rw [this]; rfl
  | 21, _, hin, hb => by
    rw [show opM.getD 21 0 = 9 from by decide] at hb
    rw [gN2_9, h12] at hb
    rw [rest_g (by decide) (by decide)]
    show (if N.1 b 4 = 0 ∨ N.1 (b + 11) (nn (N.1 b 4) - 1) = 0 then (N, -4) else _) = _
    rw [if_pos]
    rw [h4, nn_nI (by omega)]
    rcases Nat.eq_zero_or_pos e with y9 | y9
    · rw [y9]; exact Or.inl rfl
    · refine Or.inr ?_
      obtain ⟨e1, rfl⟩ : ∃ e1, e = e1 + 1 := ⟨e - 1, by omega⟩
      rw [nI_pred] at hb
      have h13 : G.1 b 13 = nI e1 := Classical.byContradiction fun z9 => hb ⟨nI_lt (a := 0) y9 (by omega), z9⟩
      rcases hA with ⟨k, hk, k0, hk13⟩ | ⟨hm, -⟩
      · have : k = e1 := eq_of_nI (hk13.symm.trans h13) (by omega) (by omega)
        rw [← this]; exact k0
      · exact absurd (h13.symm.trans hm) (nI_nm (by omega))
  | 22, _, hin, hb => by
    rw [show opM.getD 22 0 = 8 from by decide] at hb
    rw [gN2_8, h12] at hb
    rw [rest_g (by decide) (by decide)]
    show (if N.1 b 4 = 24 then (N, -4) else _) = _
    rw [if_pos]
    rw [h4]
    have : e = 24 := by
      rcases Nat.lt_or_ge e 24 with y9 | y9
      · exact absurd (nI_lt (b := 24) y9 (by decide)) hb
      · omega
    rw [this]; rfl
  | 23, _, hin, hb => by
    rw [show opM.getD 23 0 = 4 from by decide] at hb
    exact absurd (by rw [gN2_x (by decide) (by decide) (by decide) (by decide)]; trivial) hb
  | 24, _, hin, hb => by
    rw [show opM.getD 24 0 = 5 from by decide] at hb
    exact absurd (by rw [gN2_x (by decide) (by decide) (by decide) (by decide)]; trivial) hb
  | 25, _, hin, hb => by
    rw [show opM.getD 25 0 = 26 from by decide] at hb
    exact absurd (by rw [gN2_x (by decide) (by decide) (by decide) (by decide)]; trivial) hb
  | 26, _, hin, hb => by
    rw [show opM.getD 26 0 = 27 from by decide] at hb
    exact absurd (by rw [gN2_x (by decide) (by decide) (by decide) (by decide)]; trivial) hb
  | 27, _, hin, hb => by
    rw [show opM.getD 27 0 = 28 from by decide] at hb
    exact absurd (by rw [gN2_x (by decide) (by decide) (by decide) (by decide)]; trivial) hb
  | 28, _, hin, hb => by
    rw [show opM.getD 28 0 = 29 from by decide] at hb
    exact absurd (by rw [gN2_x (by decide) (by decide) (by decide) (by decide)]; trivial) hb
  | 29, _, hin, hb => by
    rw [show opM.getD 29 0 = 30 from by decide] at hb
    exact absurd (by rw [gN2_x (by decide) (by decide) (by decide) (by decide)]; trivial) hb
  | o + 30, h, _, _ => absurd h (by omega)
theorem call_bad {G N : vM} {n us b ca e r w : Nat} {x y z : Int32} (h11 : G.1 b 11 = N.1 b 3) (h13 : G.1 (b + 13) = N.1 (b + 13)) (hI : tI N us b ca e r w) : ∀ o, o < 30 → ¬ gCall G b e o → fRest N n b o x y z = (N, -2) := by
  obtain ⟨q3, hca, h4, he, h5, hr, h6, hw, hso, huq, hct, hctm, hwt, hwtm, hwt0, hpk, hs9, hem, hov, hrg, hsv, hrd, hwr, hva⟩ := id hI
  intro o ho hb
  unfold gCall at hb
  by_cases h10 : o = 10
  · subst h10
    rw [if_pos rfl, h11, q3] at hb
    rw [rest_p (by decide)]
    show (if N.1 b 3 = 40 then (N, -2) else _) = _
    rw [if_pos]
    rw [q3]
    have : ca = 40 := by
      rcases Nat.lt_or_ge ca 40 with y9 | y9
      · exact absurd (nI_lt (b := 40) y9 (by decide)) hb
      · omega
    rw [this]; rfl
  · rw [if_neg h10] at hb
    by_cases h11' : o = 11
    · subst h11'
      rw [if_pos rfl, h11, q3, h13] at hb
      rw [rest_p (by decide)]
      show (if N.1 b 3 = fLim N b then (N, -2) else _) = _
      rw [if_pos]
      unfold fLim
      rw [q3, h4]
      rcases Nat.eq_zero_or_pos e with y9 | y9
      · subst y9
        rw [if_pos rfl] at hb
        rw [if_pos (by rfl)]
        rcases Nat.eq_zero_or_pos ca with y8 | y8
        · rw [y8]; rfl
        · exact absurd (nI_lt (a := 0) y8 (by omega)) hb
      · rw [if_neg (by omega)] at hb
        obtain ⟨c1, c2⟩ := hct (e - 1) (by omega)
        rw [if_neg (show ¬ nI e = 0 from nI_ne0 y9 (by omega)), nn_nI (by omega), c1]
        rw [c1] at hb
        have : nn (N.1 (b + 13) (e - 1)) = ca := by
          rcases Nat.lt_or_eq_of_le c2 with y8 | y8
          · exact absurd (nI_lt y8 (by omega)) hb
          · exact y8
        rw [this]
    · rw [if_neg h11'] at hb
      exact absurd trivial hb
/-- where a strand is in a transaction -/
theorem in_iff {G N : vM} {us b ca e r w : Nat} (hA : sA G N b e) (hI : tI N us b ca e r w) : 0 ≤ G.1 b 13 ↔ fIn N b := by
  obtain ⟨q3, hca, h4, he, -⟩ := id hI
  unfold fIn
  rw [h4, nn_nI (by omega)]
  rcases hA with ⟨k, hk, k0, h13⟩ | ⟨h13, hno⟩
  · rw [h13]
    exact ⟨fun _ => ⟨k, hk, k0⟩, fun _ => Int32.not_lt.mp (nI_pos (by omega))⟩
  · rw [h13]
    exact ⟨fun y => absurd y (by decide), fun ⟨k, hk, k0⟩ => absurd k0 (hno k hk)⟩
theorem z_fault {G N : vM} {n s us i : Nat} (h : Sm G N n s) (hi : i < n) {ca e r w : Nat} (hI : tI N us (tb i) ca e r w) {num x y z : Int32} (hn1 : ¬ num < 0) (hn2 : ¬ 30 ≤ num) :
    (gFault G (tb i) e num x y z ≠ 0 → fKnown N n (tb i) (nn num) x y z = (N, gFault G (tb i) e num x y z) ∧ gFault G (tb i) e num x y z < 0) ∧
    (gFault G (tb i) e num x y z = 0 → fKnown N n (tb i) (nn num) x y z = fRest N n (tb i) (nn num) x y z ∧ ¬ fWrong N (tb i) (nn num) x y z ∧ ((nn num = 16 ∨ nn num = 17 ∨ nn num = 19 ∨ nn num = 20 ∨ nn num = 23) → fIn N (tb i)) ∧ ((nn num = 0 ∨ nn num = 18 ∨ nn num = 25 ∨ nn num = 26 ∨ nn num = 27) → ¬ fIn N (tb i)) ∧ gN2 G (tb i) (opM.getD (nn num) 0) ∧ gCall G (tb i) e (nn num)) := by
  obtain ⟨q3, hca, h4, he, h5, hr, h6, hw, hso, huq, hct, hctm, hwt, hwtm, hwt0, hpk, hs9, hem, hov, hrg, hsv, hrd, hwr, hva⟩ := id hI
  obtain ⟨⟨r1, r2, r3, r4, r5, r6, r7, r8, r9, r10, r11, r12, r13, r14, r15, r16, r17⟩, h12, hA, hc1⟩ := h.T hi
  rw [h4, nn_nI (by omega)] at hA
  have ho : nn num < 30 := (op_of hn1 (Int32.not_le.mp hn2)).2
  have hw9 : fWrong N (tb i) (nn num) x y z ↔ ¬ gFits G (tb i) (nn num) x y z := by
    have h9 := fits_iff (M := G) (b := tb i) (x := x) (y := y) (z := z) (nn num) ho
    rw [← h9]
    unfold fWrong rgx
    rw [r13]
  have hin := n1_iff (M := G) (b := tb i) (in_iff hA hI) (nn num) ho
  unfold gFault fKnown
  rw [if_neg (fun z9 => z9.elim hn1 hn2)]
  by_cases hf : gFits G (tb i) (nn num) x y z
  · rw [if_pos hf, if_neg (fun z9 => (hw9.mp z9) hf)]
    have hnw : ¬ fWrong N (tb i) (nn num) x y z := fun z9 => (hw9.mp z9) hf
    by_cases h1 : gN1 G (tb i) (opW.getD (nn num) 0)
    · obtain ⟨i1, i2⟩ := hin.mp h1
      have hrest : (@ite _ (fIn N (tb i)) (Classical.propDecidable _) (if (nn num = 0 ∨ nn num = 18 ∨ nn num = 25 ∨ nn num = 26 ∨ nn num = 27) then (N, (-4 : Int32)) else fRest N n (tb i) (nn num) x y z) (if (nn num = 16 ∨ nn num = 17 ∨ nn num = 19 ∨ nn num = 20 ∨ nn num = 23) then (N, -4) else fRest N n (tb i) (nn num) x y z)) = fRest N n (tb i) (nn num) x y z := by
        by_cases hfi : fIn N (tb i)
        · rw [if_pos hfi, if_neg (fun z9 => i2 z9 hfi)]
        · rw [if_neg hfi, if_neg (fun z9 => hfi (i1 z9))]
      rw [hrest]
      by_cases h2 : gN2 G (tb i) (opM.getD (nn num) 0)
      · rw [if_pos (show gNest G (tb i) (opW.getD (nn num) 0) (opM.getD (nn num) 0) from ⟨h1, h2⟩)]
        by_cases h3 : gCall G (tb i) e (nn num)
        · rw [if_pos h3]
          exact ⟨fun z9 => absurd rfl z9, fun _ => ⟨rfl, hnw, i1, i2, h2, h3⟩⟩
        · rw [if_neg h3]
          exact ⟨fun _ => ⟨call_bad r4 r11 hI (nn num) ho h3, by decide⟩, fun z9 => absurd z9 (by decide)⟩
      · rw [if_neg (show ¬ gNest G (tb i) (opW.getD (nn num) 0) (opM.getD (nn num) 0) from fun z9 => h2 z9.2)]
        exact ⟨fun _ => ⟨n2_bad (h12.trans h4) h4 he hA huq (nn num) ho (fun z9 => i1 (by rw [z9]; decide)) h2, by decide⟩, fun z9 => absurd z9 (by decide)⟩
    · rw [if_neg (show ¬ gNest G (tb i) (opW.getD (nn num) 0) (opM.getD (nn num) 0) from fun z9 => h1 z9.1)]
      refine ⟨fun _ => ⟨?_, by decide⟩, fun z9 => absurd z9 (by decide)⟩
      by_cases hfi : fIn N (tb i)
      · rw [if_pos hfi]
        by_cases ho9 : (nn num = 0 ∨ nn num = 18 ∨ nn num = 25 ∨ nn num = 26 ∨ nn num = 27)
        · rw [if_pos ho9]
        · exact absurd (hin.mpr ⟨fun _ => hfi, fun z9 => absurd z9 ho9⟩) h1
      · rw [if_neg hfi]
        by_cases hi9 : (nn num = 16 ∨ nn num = 17 ∨ nn num = 19 ∨ nn num = 20 ∨ nn num = 23)
        · rw [if_pos hi9]
        · exact absurd (hin.mpr ⟨fun z9 => absurd z9 hi9, fun _ => hfi⟩) h1
  · rw [if_neg hf, if_pos (hw9.mpr hf)]
    exact ⟨fun _ => ⟨rfl, by decide⟩, fun z9 => absurd z9 (by decide)⟩
