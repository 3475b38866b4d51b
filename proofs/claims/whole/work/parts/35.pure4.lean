/-! THE INVARIANT IS KEPT: gathering -/
def mkd (f : Nat → Int32) (v : Int64) : Prop := isI v ∨ f (pl v) = 1
theorem mkd.mono {f g : Nat → Int32} {v : Int64} (h : mkd f v) (hfg : ∀ p, f p = 1 → g p = 1) : mkd g v := h.imp id (hfg _)
theorem mk1_mono {f : Nat → Int32} {v : Int64} {p : Nat} (h : f p = 1) : mk1 f v p = 1 := by
  unfold mk1
  split
  · exact h
  · by_cases hp : p = pl v
    · subst hp; exact pk_us
    · rw [pk_un hp]; exact h
theorem mkR_mono {f : Nat → Int32} {row : Nat → Int64} {p : Nat} (h : f p = 1) : ∀ k, mkR f row k p = 1
  | 0 => h
  | k + 1 => mk1_mono (mkR_mono h k)
theorem mkR_in {f : Nat → Int32} {row : Nat → Int64} {k : Nat} : ∀ {e : Nat}, k < e → mkd (mkR f row e) (row k)
  | 0, h => absurd h (Nat.not_lt_zero k)
  | e + 1, h => by
    rcases Nat.lt_succ_iff_lt_or_eq.mp h with y9 | rfl
    · exact (mkR_in (f := f) y9).mono (fun p hp => mk1_mono hp)
    · by_cases hi : isI (row k)
      · exact Or.inl hi
      · refine Or.inr ?_
        show mk1 (mkR f row k) (row k) (pl (row k)) = 1
        rw [mk1_n hi]; exact pk_us
theorem fClose_mono {f0 : Nat → Int32} {fs sn : Nat → Int64} {us p : Nat} (h : f0 p = 1) : fClose f0 fs sn us p = 1 := by
  unfold fClose
  split
  · exact bP_t (fun S h1 _ => h1 p h)
  · exact h
theorem bP_one {c : Prop} (h : bP c = 1) : c := bP_1.mp (by rw [h]; decide)
theorem fClose_cl {f0 : Nat → Int32} {fs sn : Nat → Int64} {us p : Nat} (hp : p < us) (hu : us ≤ 200) (h : fClose f0 fs sn us p = 1) (h1 : ok1 (fs p)) (h2 : ok1 (sn p)) : mkd (fClose f0 fs sn us) (fs p) ∧ mkd (fClose f0 fs sn us) (sn p) := by
  have hc : Cl f0 fs sn us p := by
    unfold fClose at h
    rw [if_pos (by omega)] at h
    exact bP_one h
  refine ⟨?_, ?_⟩
  · by_cases hi : isI (fs p)
    · exact Or.inl hi
    · refine Or.inr ?_
      unfold fClose
      rw [if_pos (h1.resolve_left hi).1]
      exact bP_t (fun S g1 g2 => (g2 p hp (hc S g1 g2)).1 hi)
  · by_cases hi : isI (sn p)
    · exact Or.inl hi
    · refine Or.inr ?_
      unfold fClose
      rw [if_pos (h2.resolve_left hi).1]
      exact bP_t (fun S g1 g2 => (g2 p hp (hc S g1 g2)).2 hi)
theorem cntK_mono {f : Nat → Int32} {p : Nat} : ∀ {q : Nat}, p ≤ q → cntK f p ≤ cntK f q
  | 0, h => by
    obtain rfl : p = 0 := by omega
    exact Nat.le_refl _
  | q + 1, h => by
    by_cases hq : p = q + 1
    · rw [hq]; exact Nat.le_refl _
    · have hh := cntK_mono (f := f) (p := p) (q := q) (by omega)
      rw [cntK]; omega
theorem cntK_lt {f : Nat → Int32} {p q : Nat} (h : p < q) (h0 : f p ≠ 0) : cntK f p < cntK f q := by
  have h1 : cntK f (p + 1) = cntK f p + 1 := by rw [cntK, if_neg h0]
  have h2 := cntK_mono (f := f) (p := p + 1) (q := q) h
  omega
theorem cntK_on {f : Nat → Int32} {x : Nat} : ∀ {q : Nat}, x < cntK f q → ∃ p, p < q ∧ f p ≠ 0 ∧ cntK f p = x
  | 0, h => absurd h (Nat.not_lt_zero x)
  | q + 1, h => by
    rw [cntK] at h
    by_cases h0 : f q = 0
    · rw [if_pos h0] at h
      obtain ⟨p, h1, h2, h3⟩ := cntK_on (f := f) (q := q) h
      exact ⟨p, by omega, h2, h3⟩
    · rw [if_neg h0] at h
      by_cases hx : x = cntK f q
      · exact ⟨q, Nat.lt_succ_self q, h0, hx.symm⟩
      · obtain ⟨p, h1, h2, h3⟩ := cntK_on (f := f) (q := q) (x := x) (by omega)
        exact ⟨p, by omega, h2, h3⟩
theorem slR_at {α : Type} {f : Nat → Int32} {op : α → α} {row : Nat → α} {p : Nat} (h0 : f p ≠ 0) : ∀ {q : Nat}, p < q → slR f op row q (cntK f p) = op (row p)
  | 0, h => absurd h (Nat.not_lt_zero p)
  | q + 1, h => by
    rcases Nat.lt_succ_iff_lt_or_eq.mp h with y9 | rfl
    · by_cases hq : f q = 0
      · rw [slR_z hq]; exact slR_at h0 y9
      · rw [slR_k hq, va_up_ne _ _ (by have := cntK_lt y9 h0; omega)]; exact slR_at h0 y9
    · rw [slR_k h0, va_up_self]
theorem slR_01 {f row : Nat → Int32} (h : row01 row) : ∀ q, q ≤ 200 → row01 (slR f id row q)
  | 0, _ => h
  | q + 1, hq => by
    by_cases h0 : f q = 0
    · rw [slR_z h0]; exact slR_01 h q (by omega)
    · rw [slR_k h0]
      intro p hp
      by_cases hc : p = cntK f q
      · rw [hc, va_up_self]; exact h q (by omega)
      · rw [va_up_ne _ _ hc]; exact slR_01 h q (by omega) p hp
theorem mv_o {us : Nat} {pr f old : Nat → Int32} {v : Int64} (h : vO us pr v) (hu : us ≤ 200) (hm : mkd f v) : vO (cntK f us) (slR f id pr us) (mv (toR f old us) v) := by
  unfold mv
  rcases h with h | ⟨p, hp, hpr, rfl⟩ | ⟨p, hp, hpr, rfl⟩
  · rw [if_pos h]; exact Or.inl h
  · obtain ⟨b1, b2, b3⟩ := big_pair (p := p) (by omega)
    have hf := hm.resolve_left b1
    rw [if_neg b1, if_pos b2, pl_pair (by omega)]
    rw [pl_pair (by omega)] at hf
    have hf0 : f p ≠ 0 := by rw [hf]; decide
    refine Or.inr (Or.inl ⟨cntK f p, cntK_lt hp hf0, by rw [slR_at hf0 hp]; exact hpr, ?_⟩)
    have hle := cntK_le f p
    unfold toR
    rw [if_pos hp, nI_l (by omega)]
  · obtain ⟨b1, b2, b3⟩ := big_var (p := p) (by omega)
    have hf := hm.resolve_left b1
    rw [if_neg b1, if_neg b2, pl_var (by omega)]
    rw [pl_var (by omega)] at hf
    have hf0 : f p ≠ 0 := by rw [hf]; decide
    refine Or.inr (Or.inr ⟨cntK f p, cntK_lt hp hf0, by rw [slR_at hf0 hp]; exact hpr, ?_⟩)
    have hle := cntK_le f p
    unfold toR
    rw [if_pos hp, nI_l (by omega)]
theorem mv_v {us : Nat} {pr f old : Nat → Int32} {v : Int64} (h : vV us pr v) (hu : us ≤ 200) (hm : mkd f v) : vV (cntK f us) (slR f id pr us) (mv (toR f old us) v) := by
  obtain ⟨p, hp, hpr, rfl⟩ := h
  unfold mv
  obtain ⟨b1, b2, b3⟩ := big_var (p := p) (by omega)
  have hf := hm.resolve_left b1
  rw [if_neg b1, if_neg b2, pl_var (by omega)]
  rw [pl_var (by omega)] at hf
  have hf0 : f p ≠ 0 := by rw [hf]; decide
  refine ⟨cntK f p, cntK_lt hp hf0, by rw [slR_at hf0 hp]; exact hpr, ?_⟩
  have hle := cntK_le f p
  unfold toR
  rw [if_pos hp, nI_l (by omega)]
theorem mv_i {to : Nat → Int32} {v : Int64} (h : isI v) : mv to v = v := if_pos h

theorem fMvT_8 {to : Nat → Int32} {N : vM} {b : Nat} : (fMvT to N b).2 (b + 8) = mvR to (N.2 (b + 8)) 16 := by
  unfold fMvT
  rw [mRL_n _ _ _ (by omega), mRL_n _ _ _ (by omega), mRL_n _ _ _ (by omega), mRL_n _ _ _ (by omega), mRL_r]
theorem fMvs_8 {to : Nat → Int32} {N : vM} {j : Nat} : ∀ {q : Nat}, j < q → (fMvs to q N).2 (tb j + 8) = mvR to (N.2 (tb j + 8)) 16
  | 0, h => absurd h (Nat.not_lt_zero j)
  | q + 1, h => by
    rw [fMvs]
    rcases Nat.lt_succ_iff_lt_or_eq.mp h with y9 | rfl
    · rw [fMvT_2 (by unfold tb; omega)]; exact fMvs_8 y9
    · rw [fMvT_8, fMvs_2 (fun k hk => by unfold tb; omega)]
theorem fSlide_8 {M : vM} {n us j : Nat} (hj : j < n) : (fSlide M n us).2 (tb j + 8) = mvR (toR (M.1 18) (M.1 20) us) (M.2 (tb j + 8)) 16 := by
  unfold fSlide
  dsimp only
  rw [fMvs_8 hj, mRL_n _ _ _ (by unfold tb; omega), mI_2, S4_2 (by unfold tb; omega) (by unfold tb; omega), mRI_2]
theorem fMvT_9 {to : Nat → Int32} {N : vM} {b : Nat} : (fMvT to N b).2 (b + 9) = mvR to (N.2 (b + 9)) (16 * nn (N.1 b 4)) := by
  unfold fMvT
  rw [mRL_n _ _ _ (by omega), mRL_n _ _ _ (by omega), mRL_n _ _ _ (by omega), mRL_r]
theorem fMvs_9 {to : Nat → Int32} {N : vM} {j : Nat} : ∀ {q : Nat}, j < q → (fMvs to q N).2 (tb j + 9) = mvR to (N.2 (tb j + 9)) (16 * nn (N.1 (tb j) 4))
  | 0, h => absurd h (Nat.not_lt_zero j)
  | q + 1, h => by
    rw [fMvs]
    rcases Nat.lt_succ_iff_lt_or_eq.mp h with y9 | rfl
    · rw [fMvT_2 (by unfold tb; omega)]; exact fMvs_9 y9
    · rw [fMvT_9, fMvs_1, fMvs_2 (fun k hk => by unfold tb; omega)]
theorem fSlide_9 {M : vM} {n us j : Nat} (hj : j < n) : (fSlide M n us).2 (tb j + 9) = mvR (toR (M.1 18) (M.1 20) us) (M.2 (tb j + 9)) (16 * nn (M.1 (tb j) 4)) := by
  unfold fSlide
  dsimp only
  rw [fMvs_9 hj, mRL_n _ _ _ (by unfold tb; omega), mRL_1, mI_2, S4_2 (by unfold tb; omega) (by unfold tb; omega), mRI_2, mI_n _ _ _ _ (by unfold tb; omega), S4_1 (by unfold tb; omega) (by unfold tb; omega), mRI_n _ _ _ (by unfold tb; omega)]
theorem fMvT_15 {to : Nat → Int32} {N : vM} {b : Nat} : (fMvT to N b).2 (b + 15) = mvR to (N.2 (b + 15)) (nn (N.1 b 5)) := by
  unfold fMvT
  rw [mRL_n _ _ _ (by omega), mRL_n _ _ _ (by omega), mRL_r]
theorem fMvs_15 {to : Nat → Int32} {N : vM} {j : Nat} : ∀ {q : Nat}, j < q → (fMvs to q N).2 (tb j + 15) = mvR to (N.2 (tb j + 15)) (nn (N.1 (tb j) 5))
  | 0, h => absurd h (Nat.not_lt_zero j)
  | q + 1, h => by
    rw [fMvs]
    rcases Nat.lt_succ_iff_lt_or_eq.mp h with y9 | rfl
    · rw [fMvT_2 (by unfold tb; omega)]; exact fMvs_15 y9
    · rw [fMvT_15, fMvs_1, fMvs_2 (fun k hk => by unfold tb; omega)]
theorem fSlide_15 {M : vM} {n us j : Nat} (hj : j < n) : (fSlide M n us).2 (tb j + 15) = mvR (toR (M.1 18) (M.1 20) us) (M.2 (tb j + 15)) (nn (M.1 (tb j) 5)) := by
  unfold fSlide
  dsimp only
  rw [fMvs_15 hj, mRL_n _ _ _ (by unfold tb; omega), mRL_1, mI_2, S4_2 (by unfold tb; omega) (by unfold tb; omega), mRI_2, mI_n _ _ _ _ (by unfold tb; omega), S4_1 (by unfold tb; omega) (by unfold tb; omega), mRI_n _ _ _ (by unfold tb; omega)]
theorem fMvT_16 {to : Nat → Int32} {N : vM} {b : Nat} : (fMvT to N b).2 (b + 16) = mvR to (N.2 (b + 16)) (nn (N.1 b 6)) := by
  unfold fMvT
  rw [mRL_n _ _ _ (by omega), mRL_r]
theorem fMvs_16 {to : Nat → Int32} {N : vM} {j : Nat} : ∀ {q : Nat}, j < q → (fMvs to q N).2 (tb j + 16) = mvR to (N.2 (tb j + 16)) (nn (N.1 (tb j) 6))
  | 0, h => absurd h (Nat.not_lt_zero j)
  | q + 1, h => by
    rw [fMvs]
    rcases Nat.lt_succ_iff_lt_or_eq.mp h with y9 | rfl
    · rw [fMvT_2 (by unfold tb; omega)]; exact fMvs_16 y9
    · rw [fMvT_16, fMvs_1, fMvs_2 (fun k hk => by unfold tb; omega)]
theorem fSlide_16 {M : vM} {n us j : Nat} (hj : j < n) : (fSlide M n us).2 (tb j + 16) = mvR (toR (M.1 18) (M.1 20) us) (M.2 (tb j + 16)) (nn (M.1 (tb j) 6)) := by
  unfold fSlide
  dsimp only
  rw [fMvs_16 hj, mRL_n _ _ _ (by unfold tb; omega), mRL_1, mI_2, S4_2 (by unfold tb; omega) (by unfold tb; omega), mRI_2, mI_n _ _ _ _ (by unfold tb; omega), S4_1 (by unfold tb; omega) (by unfold tb; omega), mRI_n _ _ _ (by unfold tb; omega)]
theorem fMvT_17 {to : Nat → Int32} {N : vM} {b : Nat} : (fMvT to N b).2 (b + 17) = mvR to (N.2 (b + 17)) (nn (N.1 b 6)) := by
  unfold fMvT
  rw [mRL_r]
theorem fMvs_17 {to : Nat → Int32} {N : vM} {j : Nat} : ∀ {q : Nat}, j < q → (fMvs to q N).2 (tb j + 17) = mvR to (N.2 (tb j + 17)) (nn (N.1 (tb j) 6))
  | 0, h => absurd h (Nat.not_lt_zero j)
  | q + 1, h => by
    rw [fMvs]
    rcases Nat.lt_succ_iff_lt_or_eq.mp h with y9 | rfl
    · rw [fMvT_2 (by unfold tb; omega)]; exact fMvs_17 y9
    · rw [fMvT_17, fMvs_1, fMvs_2 (fun k hk => by unfold tb; omega)]
theorem fSlide_17 {M : vM} {n us j : Nat} (hj : j < n) : (fSlide M n us).2 (tb j + 17) = mvR (toR (M.1 18) (M.1 20) us) (M.2 (tb j + 17)) (nn (M.1 (tb j) 6)) := by
  unfold fSlide
  dsimp only
  rw [fMvs_17 hj, mRL_n _ _ _ (by unfold tb; omega), mRL_1, mI_2, S4_2 (by unfold tb; omega) (by unfold tb; omega), mRI_2, mI_n _ _ _ _ (by unfold tb; omega), S4_1 (by unfold tb; omega) (by unfold tb; omega), mRI_n _ _ _ (by unfold tb; omega)]
theorem fSlide_1 {M : vM} {n us x : Nat} (h0 : x ≠ 0) (h17 : x ≠ 17) (h19 : x ≠ 19) (h20 : x ≠ 20) : (fSlide M n us).1 x = M.1 x := by
  unfold fSlide
  dsimp only
  rw [fMvs_1, mRL_1, mI_n _ _ _ _ h0, S4_1 h17 h19, mRI_n _ _ _ h20]
theorem fSlide_0 {M : vM} {n us k : Nat} (hk : k ≠ 3) : (fSlide M n us).1 0 k = M.1 0 k := by
  unfold fSlide
  dsimp only
  rw [fMvs_1, mRL_1, mI_o _ _ _ _ hk, S4_1 (by decide) (by decide), mRI_n _ _ _ (by decide)]
theorem fSlide_pr {M : vM} {n us : Nat} : (fSlide M n us).1 17 = slR (M.1 18) id (M.1 17) us := by
  unfold fSlide
  dsimp only
  rw [fMvs_1, mRL_1, mI_n _ _ _ _ (by decide), S4_17]
theorem fSlide_fs {M : vM} {n us : Nat} : (fSlide M n us).2 15 = slR (M.1 18) (mv (toR (M.1 18) (M.1 20) us)) (M.2 15) us := by
  unfold fSlide
  dsimp only
  rw [fMvs_2 (fun j hj => by unfold tb; omega), mRL_n _ _ _ (by decide), mI_2, S4_15]
theorem fSlide_sn {M : vM} {n us : Nat} : (fSlide M n us).2 16 = slR (M.1 18) (mv (toR (M.1 18) (M.1 20) us)) (M.2 16) us := by
  unfold fSlide
  dsimp only
  rw [fMvs_2 (fun j hj => by unfold tb; omega), mRL_n _ _ _ (by decide), mI_2, S4_16]
theorem fSlide_gl {M : vM} {n us : Nat} : (fSlide M n us).2 14 = mvR (toR (M.1 18) (M.1 20) us) (M.2 14) 8 := by
  unfold fSlide
  dsimp only
  rw [fMvs_2 (fun j hj => by unfold tb; omega), mRL_r]
/-- the roots are marked -/
theorem fRoots_up {M : vM} {p : Nat} : ∀ {d q : Nat}, (fRoots M q).1 18 p = 1 → (fRoots M (q + d)).1 18 p = 1
  | 0, _, h => h
  | d + 1, q, h => by
    show (mRI _ 18 _).1 18 p = 1
    rw [mRI_r]
    exact mkR_mono (mkR_mono (mkR_mono (mkR_mono (mkR_mono (fRoots_up (d := d) (q := q) h) _) _) _) _) _
theorem fRoots_r8 {M : vM} {j : Nat} : ∀ {q : Nat}, (fRoots M q).2 (tb j + 8) = if j < q then rzR (M.1 (tb j) 0) (M.2 (tb j + 8)) 16 else M.2 (tb j + 8)
  | 0 => by rw [if_neg (Nat.not_lt_zero j)]; exact fRoots_2 (q := 0) (fun j hj => absurd hj (Nat.not_lt_zero j))
  | q + 1 => by
    show (mRI (mRL (fRoots M q) (tb q + 8) _) 18 _).2 (tb j + 8) = _
    rw [mRI_2]
    by_cases hq : j = q
    · subst hq
      rw [mRL_r, if_pos (Nat.lt_succ_self j), fRoots_1 (by unfold tb; omega) (by unfold tb; omega), fRoots_r8, if_neg (Nat.lt_irrefl j)]
    · rw [mRL_n _ _ _ (by unfold tb; omega), fRoots_r8]
      by_cases hj : j < q
      · rw [if_pos hj, if_pos (by omega)]
      · rw [if_neg hj, if_neg (by omega)]
theorem fRoots_of {M : vM} {n j : Nat} {v : Int64} (hj : j < n) (h : mkd ((fRoots M (j + 1)).1 18) v) : mkd ((fRoots M n).1 18) v :=
  h.mono (fun p hp => by
    obtain ⟨d, rfl⟩ : ∃ d, n = j + 1 + d := ⟨n - (j + 1), by omega⟩
    exact fRoots_up hp)
theorem fRoots_mark {M : vM} {n j : Nat} (hj : j < n) :
    (∀ k, k < 16 → mkd ((fRoots M n).1 18) (rzR (M.1 (tb j) 0) (M.2 (tb j + 8)) 16 k)) ∧
    (∀ k, k < 16 * nn (M.1 (tb j) 4) → mkd ((fRoots M n).1 18) (M.2 (tb j + 9) k)) ∧
    (∀ k, k < nn (M.1 (tb j) 5) → mkd ((fRoots M n).1 18) (M.2 (tb j + 15) k)) ∧
    (∀ k, k < nn (M.1 (tb j) 6) → mkd ((fRoots M n).1 18) (M.2 (tb j + 16) k)) ∧
    (∀ k, k < nn (M.1 (tb j) 6) → mkd ((fRoots M n).1 18) (M.2 (tb j + 17) k)) := by
  have e1 : (fRoots M (j + 1)).1 18 = fRootF ((fRoots M j).1 18) (fRoots M j) (tb j) (rzR ((fRoots M j).1 (tb j) 0) ((fRoots M j).2 (tb j + 8)) 16) := mRI_r _ _ _
  have r1 : (fRoots M j).1 (tb j) = M.1 (tb j) := fRoots_1 (by unfold tb; omega) (by unfold tb; omega)
  have r8 : (fRoots M j).2 (tb j + 8) = M.2 (tb j + 8) := fRoots_2 (fun k hk => by unfold tb; omega)
  have r9 : (fRoots M j).2 (tb j + 9) = M.2 (tb j + 9) := fRoots_2 (fun k hk => by unfold tb; omega)
  have r15 : (fRoots M j).2 (tb j + 15) = M.2 (tb j + 15) := fRoots_2 (fun k hk => by unfold tb; omega)
  have r16 : (fRoots M j).2 (tb j + 16) = M.2 (tb j + 16) := fRoots_2 (fun k hk => by unfold tb; omega)
  have r17 : (fRoots M j).2 (tb j + 17) = M.2 (tb j + 17) := fRoots_2 (fun k hk => by unfold tb; omega)
  unfold fRootF at e1
  rw [r1, r8, r9, r15, r16, r17] at e1
  refine ⟨fun k hk => fRoots_of hj ?_, fun k hk => fRoots_of hj ?_, fun k hk => fRoots_of hj ?_, fun k hk => fRoots_of hj ?_, fun k hk => fRoots_of hj ?_⟩ <;> rw [e1]
  · exact (((((mkR_in hk).mono (fun p hp => mkR_mono hp _)).mono (fun p hp => mkR_mono hp _)).mono (fun p hp => mkR_mono hp _)).mono (fun p hp => mkR_mono hp _))
  · exact ((((mkR_in hk).mono (fun p hp => mkR_mono hp _)).mono (fun p hp => mkR_mono hp _)).mono (fun p hp => mkR_mono hp _))
  · exact (((mkR_in hk).mono (fun p hp => mkR_mono hp _)).mono (fun p hp => mkR_mono hp _))
  · exact ((mkR_in hk).mono (fun p hp => mkR_mono hp _))
  · exact mkR_in hk
theorem fRoots_gl {M : vM} {n k : Nat} (hk : k < 8) : mkd ((fRoots M n).1 18) (M.2 14 k) := by
  have h0 : mkd ((fRoots M 0).1 18) (M.2 14 k) := by
    show mkd ((mRI _ 18 _).1 18) _
    rw [mRI_r]; exact mkR_in hk
  exact h0.mono (fun p hp => by
    obtain ⟨d, rfl⟩ : ∃ d, n = 0 + d := ⟨n, by omega⟩
    exact fRoots_up hp)
theorem mvR_in {to : Nat → Int32} {row : Nat → Int64} {e k : Nat} (h : k < e) : mvR to row e k = mv to (row k) := if_pos h
/-- a task's rows that followed -/
theorem tC_mv {ob so ct wt : Nat → Int32} {reg sv rd wr va reg' sv' rd' wr' va' : Nat → Int64} {pr pr' : Nat → Int32} {us us' ca e r w : Nat} (h : tC ob so ct wt reg sv rd wr va pr us ca e r w) (q1 : ∀ k, k < 16 → vO us' pr' (reg' k)) (q2 : ∀ k, k < 16 * e → vO us' pr' (sv' k)) (q3 : ∀ k, k < r → vV us' pr' (rd' k)) (q4 : ∀ k, k < w → vV us' pr' (wr' k)) (q5 : ∀ k, k < w → vO us' pr' (va' k)) : tC ob so ct wt reg' sv' rd' wr' va' pr' us' ca e r w := by
  obtain ⟨h3, hca, h4, he, h5, hr, h6, hw, hso, huq, hct, hctm, hwt, hwtm, hwt0, hpk, hst, hem, hov, hrg, hsv, hrd, hwr, hva⟩ := h
  exact ⟨h3, hca, h4, he, h5, hr, h6, hw, hso, huq, hct, hctm, hwt, hwtm, hwt0, hpk, hst, hem, hov, q1, q2, q3, q4, q5⟩
/-- gathering keeps the invariant -/
theorem iu_gather {M : vM} {n us : Nat} (h : IU M n us) : ∃ u2, u2 ≤ us ∧ (fGather M n us).1 0 3 = nI u2 ∧ IU (fGather M n us) n u2 := by
  obtain ⟨sz, pd, hg, hts⟩ := h
  have hg0 := hg
  obtain ⟨hsz, hsz2, hn2, hn1, hn16, hus, hus2, hpd, hpd2, h17, hfs, hvi, hgl⟩ := hg
  generalize hN : fRoots M n = N
  generalize hf : fClose (N.1 18) (N.2 15) (N.2 16) us = f
  have eG : fGather M n us = fSlide (mRI N 18 f) n us := by
    unfold fGather; dsimp only; rw [hN, hf]
  have p18 : (mRI N 18 f).1 18 = f := mRI_r _ _ _
  generalize hP : mRI N 18 f = P at eG p18
  have N17 : P.1 17 = M.1 17 := by rw [← hP, ← hN, mRI_n _ _ _ (by decide)]; exact fRoots_1 (by decide) (by decide)
  have Nb : ∀ x, 22 ≤ x → P.1 x = M.1 x := fun x hx => by rw [← hP, ← hN, mRI_n _ _ _ (by omega)]; exact fRoots_1 (by omega) (by omega)
  have N0 : ∀ k, k ≠ 6 → P.1 0 k = M.1 0 k := fun k hk => by rw [← hP, ← hN, mRI_n _ _ _ (by decide)]; exact fRoots_10 hk
  have N15 : N.2 15 = M.2 15 := by rw [← hN]; exact fRoots_2 (fun k hk => by unfold tb; omega)
  have N16 : N.2 16 = M.2 16 := by rw [← hN]; exact fRoots_2 (fun k hk => by unfold tb; omega)
  have P2 : P.2 = N.2 := by rw [← hP]; rfl
  have N14 : N.2 14 = M.2 14 := by rw [← hN]; exact fRoots_2 (fun k hk => by unfold tb; omega)
  have hup : ∀ p, (fRoots M n).1 18 p = 1 → f p = 1 := fun p hp => by rw [← hf]; rw [hN] at hp; exact fClose_mono hp
  have hle := cntK_le f us
  have hcell : ∀ p, p < us → f p ≠ 0 → mkd f (M.2 15 p) ∧ mkd f (M.2 16 p) := fun p hp h0 => by
    have hf1 : f p = 1 := by
      rw [← hf] at h0 ⊢
      unfold fClose at h0 ⊢
      rw [if_pos (by omega)] at h0 ⊢
      exact bP_t (bP_1.mp h0)
    have := fClose_cl (f0 := N.1 18) (fs := N.2 15) (sn := N.2 16) hp hus2 (by rw [hf]; exact hf1) (by rw [N15]; exact (hfs p hp).1.ok hus2) (by rw [N16]; exact (hfs p hp).2.ok hus2)
    rw [hf, N15, N16] at this
    exact this
  refine ⟨cntK f us, hle, by rw [eG, fSlide_3, p18], sz, pd, ?_, fun j hj => ?_⟩
  · rw [eG]
    unfold gI
    rw [fSlide_3, fSlide_0 (by decide), fSlide_0 (by decide), fSlide_0 (by decide), fSlide_pr, fSlide_fs, fSlide_sn, fSlide_gl, p18, N17, P2, N15, N16, N14, N0 _ (by decide), N0 _ (by decide), N0 _ (by decide)]
    refine ⟨hsz, hsz2, hn2, hn1, hn16, rfl, by omega, hpd, hpd2, slR_01 h17 us hus2, fun x hx => ?_, fun x hx h0 => ?_, fun k hk => ?_⟩
    · obtain ⟨p, hp, hp0, rfl⟩ := cntK_on hx
      rw [slR_at hp0 hp, slR_at hp0 hp]
      exact ⟨mv_o (hfs p hp).1 hus2 (hcell p hp hp0).1, mv_o (hfs p hp).2 hus2 (hcell p hp hp0).2⟩
    · obtain ⟨p, hp, hp0, rfl⟩ := cntK_on hx
      rw [slR_at hp0 hp] at h0 ⊢
      have hi := hvi p hp h0
      rw [mv_i hi]; exact hi
    · rw [mvR_in hk]
      exact mv_o (hgl k hk) hus2 ((fRoots_gl (n := n) hk).mono hup)
  · obtain ⟨ca, e, r, w, hI⟩ := hts j hj
    refine ⟨ca, e, r, w, ?_⟩
    obtain ⟨m8, m9, m15, m16, m17⟩ := fRoots_mark (M := M) hj
    obtain ⟨h3, hca, h4, he, h5, hr, h6, hw, hso, huq, hct, hctm, hwt, hwtm, hwt0, hpk, hst, hem, hov, hrg, hsv, hrd, hwr, hva⟩ := id hI
    rw [h4, nn_nI (by omega)] at m9
    rw [h5, nn_nI (by omega)] at m15
    rw [h6, nn_nI (by omega)] at m16 m17
    have hb : 22 ≤ tb j := tb22
    have s8 : N.2 (tb j + 8) = rzR (M.1 (tb j) 0) (M.2 (tb j + 8)) 16 := by rw [← hN, fRoots_r8, if_pos hj]
    have s9 : N.2 (tb j + 9) = M.2 (tb j + 9) := by rw [← hN]; exact fRoots_2 (fun k hk => by unfold tb; omega)
    have s15 : N.2 (tb j + 15) = M.2 (tb j + 15) := by rw [← hN]; exact fRoots_2 (fun k hk => by unfold tb; omega)
    have s16 : N.2 (tb j + 16) = M.2 (tb j + 16) := by rw [← hN]; exact fRoots_2 (fun k hk => by unfold tb; omega)
    have s17 : N.2 (tb j + 17) = M.2 (tb j + 17) := by rw [← hN]; exact fRoots_2 (fun k hk => by unfold tb; omega)
    rw [tI_C] at hI ⊢
    rw [eG, fSlide_1 (x := tb j) (by omega) (by omega) (by omega) (by omega), fSlide_1 (x := tb j + 11) (by omega) (by omega) (by omega) (by omega), fSlide_1 (x := tb j + 13) (by omega) (by omega) (by omega) (by omega), fSlide_1 (x := tb j + 14) (by omega) (by omega) (by omega) (by omega), fSlide_8 hj, fSlide_9 hj, fSlide_15 hj, fSlide_16 hj, fSlide_17 hj, fSlide_pr, Nb _ hb, Nb _ (show 22 ≤ tb j + 11 by omega), Nb _ (show 22 ≤ tb j + 13 by omega), Nb _ (show 22 ≤ tb j + 14 by omega), P2, N17, p18, s8, s9, s15, s16, s17, h4, h5, h6, nn_nI (show e < 2 ^ 31 by omega), nn_nI (show r < 2 ^ 31 by omega), nn_nI (show w < 2 ^ 31 by omega)]
    refine tC_mv hI (fun k hk => ?_) (fun k hk => ?_) (fun k hk => ?_) (fun k hk => ?_) (fun k hk => ?_)
    · rw [mvR_in hk]
      refine mv_o ?_ hus2 ((m8 k hk).mono hup)
      unfold rzR
      split
      · exact vO_0
      · exact hrg k hk
    · rw [mvR_in hk]; exact mv_o (hsv k hk) hus2 ((m9 k hk).mono hup)
    · rw [mvR_in hk]; exact mv_v (hrd k hk) hus2 ((m15 k hk).mono hup)
    · rw [mvR_in hk]; exact mv_v (hwr k hk) hus2 ((m16 k hk).mono hup)
    · rw [mvR_in hk]; exact mv_o (hva k hk) hus2 ((m17 k hk).mono hup)
