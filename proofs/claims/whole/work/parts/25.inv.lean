/-! THE INVARIANT of the reference's memory -/
/-- a value: an INT, a PAIR or a VAR that is there -/
def vO (us : Nat) (pr : Nat → Int32) (v : Int64) : Prop := isI v ∨ (∃ p, p < us ∧ pr p = 1 ∧ v = 8589934592 + lN p) ∨ (∃ p, p < us ∧ pr p = 0 ∧ v = 17179869184 + lN p)
def vV (us : Nat) (pr : Nat → Int32) (v : Int64) : Prop := ∃ p, p < us ∧ pr p = 0 ∧ v = 17179869184 + lN p
theorem toI_pair {p : Nat} (h : p < 200) : (8589934592 + lN p).toInt32 = nI p := by
  rw [show (8589934592 : Int64) = lN 8589934592 from rfl, lN_add, lN_i]
  apply Int32.toBitVec_inj.mp
  show BitVec.ofNat 32 (8589934592 + p) = BitVec.ofNat 32 p
  apply BitVec.eq_of_toNat_eq
  simp only [BitVec.toNat_ofNat]; omega
theorem toI_var {p : Nat} (h : p < 200) : (17179869184 + lN p).toInt32 = nI p := by
  rw [show (17179869184 : Int64) = lN 17179869184 from rfl, lN_add, lN_i]
  apply Int32.toBitVec_inj.mp
  show BitVec.ofNat 32 (17179869184 + p) = BitVec.ofNat 32 p
  apply BitVec.eq_of_toNat_eq
  simp only [BitVec.toNat_ofNat]; omega
theorem vO.ok {us : Nat} {pr : Nat → Int32} {v : Int64} (h : vO us pr v) (hu : us ≤ 200) : ok1 v := by
  rcases h with h | ⟨p, hp, -, rfl⟩ | ⟨p, hp, -, rfl⟩
  · exact Or.inl h
  · refine Or.inr ⟨?_, ?_⟩
    · rw [pl_pair (by omega)]; omega
    · rw [pl_pair (by omega)]; exact toI_pair (by omega)
  · refine Or.inr ⟨?_, ?_⟩
    · rw [pl_var (by omega)]; omega
    · rw [pl_var (by omega)]; exact toI_var (by omega)
theorem vV.o {us : Nat} {pr : Nat → Int32} {v : Int64} (h : vV us pr v) : vO us pr v := Or.inr (Or.inr h)
theorem vV.plOk {us : Nat} {pr : Nat → Int32} {v : Int64} (h : vV us pr v) (hu : us ≤ 200) : plOk v := by
  obtain ⟨p, hp, -, rfl⟩ := h
  refine ⟨?_, ?_⟩
  · rw [pl_var (by omega)]; omega
  · rw [pl_var (by omega)]; exact toI_var (by omega)
theorem big_pair {p : Nat} (h : p < 200) : ¬ isI (8589934592 + lN p) ∧ isP (8589934592 + lN p) ∧ ¬ isV (8589934592 + lN p) := by
  have e1 : (8589934592 + lN p).toInt = 8589934592 + p := by
    rw [show (8589934592 : Int64) = lN 8589934592 from rfl, lN_add, pk_lT (by omega)]; omega
  have e2 : (8589934592 : Int64).toInt = 8589934592 := by decide
  have e3 : (17179869184 : Int64).toInt = 17179869184 := by decide
  unfold isI isP isV
  simp only [Int64.lt_iff_toInt_lt, Int64.le_iff_toInt_le, e1, e2, e3]
  omega
theorem big_var {p : Nat} (h : p < 200) : ¬ isI (17179869184 + lN p) ∧ ¬ isP (17179869184 + lN p) ∧ isV (17179869184 + lN p) := by
  have e1 : (17179869184 + lN p).toInt = 17179869184 + p := by
    rw [show (17179869184 : Int64) = lN 17179869184 from rfl, lN_add, pk_lT (by omega)]; omega
  have e2 : (8589934592 : Int64).toInt = 8589934592 := by decide
  have e3 : (17179869184 : Int64).toInt = 17179869184 := by decide
  unfold isI isP isV
  simp only [Int64.lt_iff_toInt_lt, Int64.le_iff_toInt_le, e1, e2, e3]
  omega
theorem vO.isVV {us : Nat} {pr : Nat → Int32} {v : Int64} (h : vO us pr v) (hu : us ≤ 200) (hv : isV v) : vV us pr v := by
  rcases h with h | ⟨p, hp, -, rfl⟩ | h
  · unfold isI at h
    exact absurd (Int64.lt_of_lt_of_le h (by decide : (8589934592 : Int64) ≤ 17179869184)) (Int64.not_lt.mpr hv)
  · exact absurd hv (big_pair (by omega)).2.2
  · exact h
theorem vO.isPP {us : Nat} {pr : Nat → Int32} {v : Int64} (h : vO us pr v) (hu : us ≤ 200) (hv : isP v) : ∃ p, p < us ∧ pr p = 1 ∧ v = 8589934592 + lN p := by
  rcases h with h | h | ⟨p, hp, -, rfl⟩
  · unfold isI at h
    exact absurd h (Int64.not_lt.mpr hv.1)
  · exact h
  · exact absurd hv (big_var (by omega)).2.1
def tI (M : vM) (us b ca e r w : Nat) : Prop :=
  M.1 b 3 = nI ca ∧ ca ≤ 40 ∧ M.1 b 4 = nI e ∧ e ≤ 24 ∧ M.1 b 5 = nI r ∧ r ≤ 40 ∧ M.1 b 6 = nI w ∧ w ≤ 40 ∧
  (∀ k, k < e → M.1 (b + 11) k = 0 ∨ M.1 (b + 11) k = 1 ∨ M.1 (b + 11) k = 2) ∧
  (∀ j k, j < e → k < e → M.1 (b + 11) j = 0 → M.1 (b + 11) k = 0 → j = k) ∧
  (∀ k, k < e → M.1 (b + 13) k = nI (nn (M.1 (b + 13) k)) ∧ nn (M.1 (b + 13) k) ≤ ca) ∧
  (∀ j k, j ≤ k → k < e → nn (M.1 (b + 13) j) ≤ nn (M.1 (b + 13) k)) ∧
  (∀ k, k < e → M.1 (b + 14) k = nI (nn (M.1 (b + 14) k)) ∧ nn (M.1 (b + 14) k) ≤ w) ∧
  (∀ j k, j ≤ k → k < e → nn (M.1 (b + 14) j) ≤ nn (M.1 (b + 14) k)) ∧
  (∀ j, j < e → (∀ q, q < j → M.1 (b + 11) q ≠ 0) → M.1 (b + 14) j = 0) ∧
  (M.1 b 0 = 2 → ∃ k, k < e ∧ M.1 (b + 11) k = 0) ∧
  (M.1 b 0 = 1 ∨ M.1 b 0 = 2 ∨ M.1 b 0 = 3 ∨ M.1 b 0 = 4) ∧
  ((∀ k, k < e → M.1 (b + 11) k ≠ 0) → r = 0 ∧ w = 0) ∧
  (M.1 b 0 = 3 ∨ M.1 b 0 = 4 → e = 0) ∧
  (∀ k, k < 16 → vO us (M.1 17) (M.2 (b + 8) k)) ∧
  (∀ k, k < 16 * e → vO us (M.1 17) (M.2 (b + 9) k)) ∧
  (∀ k, k < r → vV us (M.1 17) (M.2 (b + 15) k)) ∧
  (∀ k, k < w → vV us (M.1 17) (M.2 (b + 16) k)) ∧
  (∀ k, k < w → vO us (M.1 17) (M.2 (b + 17) k))
def gI (M : vM) (n sz us pd : Nat) : Prop :=
  M.1 0 1 = nI sz ∧ sz ≤ 1000 ∧ M.1 0 2 = nI n ∧ 1 ≤ n ∧ n ≤ 16 ∧ M.1 0 3 = nI us ∧ us ≤ 200 ∧ M.1 0 8 = nI pd ∧ pd ≤ 200 ∧ row01 (M.1 17) ∧
  (∀ p, p < us → vO us (M.1 17) (M.2 15 p) ∧ vO us (M.1 17) (M.2 16 p)) ∧ (∀ p, p < us → M.1 17 p = 0 → isI (M.2 16 p)) ∧ (∀ k, k < 8 → vO us (M.1 17) (M.2 14 k))
def Inv (M : vM) (n : Nat) : Prop := ∃ sz us pd, gI M n sz us pd ∧ ∀ i, i < n → ∃ ca e r w, tI M us (tb i) ca e r w
theorem Inv.g {M : vM} {n sz us pd : Nat} (h : gI M n sz us pd) (ht : ∀ i, i < n → ∃ ca e r w, tI M us (tb i) ca e r w) : gOK M n us := by
  obtain ⟨-, -, h2, -, h16, h3, hu, -, -, h17, hfs, -, hgl⟩ := h
  refine ⟨h3, hu, h2, h16, fun p hp => ⟨(hfs p hp).1.ok hu, (hfs p hp).2.ok hu⟩, fun k hk => (hgl k hk).ok hu, fun j hj => ?_, h17⟩
  obtain ⟨ca, e, r, w, q3, hca, h4, he, h5, hr, h6, hw, hso, huq, hct, hctm, hwt, hwtm, hwt0, hpk, hst, hem, hov, hrg, hsv, hrd, hwr, hva⟩ := ht j hj
  exact ⟨e, r, w, h4, he, h5, hr, h6, hw, fun k hk => (hrg k hk).ok hu, fun k hk => (hsv k hk).ok hu, fun k hk => (hrd k hk).o.ok hu, fun k hk => (hwr k hk).o.ok hu, fun k hk => (hva k hk).ok hu⟩
/-- where a task is in a transaction, its atomic nest -/
theorem tI.at {M : vM} {b e : Nat} (huq : ∀ j k, j < e → k < e → M.1 (b + 11) j = 0 → M.1 (b + 11) k = 0 → j = k) {k : Nat} (hk : k < e) (h0 : M.1 (b + 11) k = 0) : ∀ j, j < k → M.1 (b + 11) j ≠ 0 :=
  fun j hj z9 => absurd (huq j k (by omega) hk z9 h0) (by omega)
