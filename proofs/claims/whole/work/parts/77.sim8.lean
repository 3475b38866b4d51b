/-! CLASS AND REFERENCE: the worklist's end -/
def dn (a c : Nat → Int64) (m : Nat → Int32) (q : Nat) : Prop := (¬ isI (a q) → m (pl (a q)) ≠ -1) ∧ (¬ isI (c q) → m (pl (c q)) ≠ -1)
theorem dn.mono {a c : Nat → Int64} {m m' : Nat → Int32} {q : Nat} (h : dn a c m q) (hm : ∀ p, m p ≠ -1 → m' p ≠ -1) : dn a c m' q := ⟨fun y => hm _ (h.1 y), fun y => hm _ (h.2 y)⟩
theorem gOnw_spec {S : Nat → Prop} {a c : Nat → Int64} (hS : ∀ q, q < 200 → S q → (¬ isI (a q) → S (pl (a q))) ∧ (¬ isI (c q) → S (pl (c q)))) (hok : ∀ q, q < 200 → ok1 (a q) ∧ ok1 (c q)) : ∀ (d i : Nat) (M : vM), 200 - i < d → RI M → M.2 15 = a → M.2 16 = c → (∀ j, j < i → j < nn (M.1 1 6) → dn a c (M.1 20) (nn (M.1 18 j))) → (∀ p, p < 200 → M.1 20 p ≠ -1 → S p) →
    RI (gOnw d i M) ∧ (∀ p, M.1 20 p ≠ -1 → (gOnw d i M).1 20 p ≠ -1) ∧ (∀ p, p < 200 → (gOnw d i M).1 20 p ≠ -1 → S p) ∧ (∀ p, p < 200 → (gOnw d i M).1 20 p ≠ -1 → dn a c ((gOnw d i M).1 20) p)
  | 0, _, _, hd, _, _, _, _, _ => absurd hd (Nat.not_lt_zero _)
  | d + 1, i, M, hd, hR, ha, hc, hdn, hin => by
    rw [gOnw]
    by_cases hi : i < nn (M.1 1 6)
    · rw [if_pos hi]
      have hle := hR.le
      obtain ⟨w1, w2, w3⟩ := hR.2.2.1 i hi
      generalize hq : nn (M.1 18 i) = q at w1 w2 w3
      have hmq : M.1 20 q ≠ -1 := by rw [w3, w2]; exact nI_nm (by omega)
      have hSq : S q := hin q w1 hmq
      rw [ha, hc]
      obtain ⟨o1, o2⟩ := hok q w1
      have b1 : pl (a q) < 200 ∨ isI (a q) := o1.elim Or.inr (fun y => Or.inl y.1)
      have b2 : pl (c q) < 200 ∨ isI (c q) := o2.elim Or.inr (fun y => Or.inl y.1)
      have hR1 := gReach_RI (v := a q) hR o1
      have hR2 := gReach_RI (v := c q) hR1 o2
      have m1 : ∀ p, M.1 20 p ≠ -1 → (gReach M (a q)).1 20 p ≠ -1 := fun p hp => (gR_20 b1).mpr (Or.inl hp)
      have m2 : ∀ p, (gReach M (a q)).1 20 p ≠ -1 → (gReach (gReach M (a q)) (c q)).1 20 p ≠ -1 := fun p hp => (gR_20 b2).mpr (Or.inl hp)
      have n1 : nn (M.1 1 6) ≤ nn ((gReach M (a q)).1 1 6) := gReach_6 (by omega)
      have hle1 := hR1.le
      have n2 : nn ((gReach M (a q)).1 1 6) ≤ nn ((gReach (gReach M (a q)) (c q)).1 1 6) := gReach_6 (by omega)
      have hdq : dn a c ((gReach (gReach M (a q)) (c q)).1 20) q := ⟨fun y => m2 _ ((gR_20 b1).mpr (Or.inr ⟨y, rfl⟩)), fun y => (gR_20 b2).mpr (Or.inr ⟨y, rfl⟩)⟩
      have e18 : ∀ j, j < nn (M.1 1 6) → (gReach (gReach M (a q)) (c q)).1 18 j = M.1 18 j := fun j hj => (gReach_18 (by omega)).1.trans (gReach_18 hj).1
      obtain ⟨z1, z2, z3, z4⟩ := gOnw_spec hS hok d (i + 1) (gReach (gReach M (a q)) (c q)) (by omega) hR2 (by rw [gReach_2, gReach_2]; exact ha) (by rw [gReach_2, gReach_2]; exact hc) (fun j hj hjn => by
        rcases Nat.lt_succ_iff_lt_or_eq.mp hj with y9 | y9
        · rw [e18 j (by omega)]
          exact (hdn j y9 (by omega)).mono (fun p hp => m2 p (m1 p hp))
        · rw [y9, e18 i hi, hq]; exact hdq) (fun p hp hm => by
        rcases (gR_20 b2).mp hm with y9 | ⟨y1, y2⟩
        · rcases (gR_20 b1).mp y9 with y8 | ⟨y1, y2⟩
          · exact hin p hp y8
          · rw [y2]; exact (hS q w1 hSq).1 y1
        · rw [y2]; exact (hS q w1 hSq).2 y1)
      exact ⟨z1, fun p hp => z2 p (m2 p (m1 p hp)), z3, z4⟩
    · rw [if_neg hi]
      refine ⟨hR, fun p hp => hp, hin, fun p hp hm => ?_⟩
      obtain ⟨y1, j, hj, y2⟩ := (hR.2.2.2 p hp).resolve_left hm
      have := hdn j (by omega) hj
      rwa [y2, nn_nI (by omega)] at this
/-- what a collection must know of a strand -/
theorem cOK_of {G N : vM} {n s us i : Nat} (h : Sm G N n s) (hU : IU N n us) (hi : i < n) : cOK G (tb i) := by
  obtain ⟨ca, e, r, w, hI⟩ := hU.at hi
  obtain ⟨q3, hca, h4, he, h5, hr, h6, hw, hso, huq, hct, hctm, hwt, hwtm, hwt0, hpk, hs9, hem, hov, hrg, hsv, hrd, hwr, hva⟩ := id hI
  obtain ⟨⟨r1, r2, r3, r4, r5, r6, r7, r8, r9, r10, r11, r12, r13, r14, r15, r16, r17⟩, h12, hA, hc1⟩ := h.T hi
  have hu := hU.us
  have pv : ∀ v, vV us (N.1 17) v → v.toInt32 = nI (nn v.toInt32) ∧ nn v.toInt32 < 200 := fun v hv => by
    obtain ⟨p, hp, -, rfl⟩ := hv
    rw [toI_var (by omega), nn_nI (by omega)]; exact ⟨rfl, by omega⟩
  refine ⟨e, r, w, h12.trans h4, he, r5.trans h5, hr, r6.trans h6, hw, fun k hk => ?_, fun k hk => ?_, fun k hk => ?_, fun k hk => ?_, fun k hk => ?_⟩
  · rw [r13]; exact (hrg k hk).ok hu
  · rw [r14]; exact (hsv k hk).ok hu
  · rw [r15]; exact pv _ (hrd k hk)
  · rw [r16]; exact pv _ (hwr k hk)
  · rw [r17]; exact (hva k hk).ok hu
theorem gl_ok {G N : vM} {n s us k : Nat} (h : Sm G N n s) (hU : IU N n us) (hk : k < 8) : ok1 (G.2 14 k) := by
  rw [h.gl]; exact (hU.glo hk).ok hU.us
theorem IU.vi {N : vM} {n us p : Nat} (h : IU N n us) (hp : p < us) (h0 : N.1 17 p = 0) : isI (N.2 16 p) := by
  obtain ⟨sz, pd, hg, hts⟩ := h
  exact hg.2.2.2.2.2.2.2.2.2.2.2.1 p hp h0
/-- a place's second value, in the class, is as in the reference where it refers to a place -/
theorem sH.s2 {G N : vM} {n us p : Nat} (h : sH G N us) (hU : IU N n us) (hp : p < us) : (isI (G.2 16 p) ↔ isI (N.2 16 p)) ∧ (¬ isI (N.2 16 p) → G.2 16 p = N.2 16 p) := by
  obtain ⟨-, -, q3⟩ := h p hp
  by_cases h0 : N.1 17 p = 0
  · rw [if_pos h0] at q3
    rw [q3]
    exact ⟨⟨fun _ => hU.vi hp h0, fun _ => isI_i _⟩, fun y => absurd (hU.vi hp h0) y⟩
  · rw [if_neg h0] at q3
    rw [q3]
    exact ⟨Iff.rfl, fun _ => rfl⟩
/-- both keep the same places -/
theorem mark_iff {G N : vM} {n s us : Nat} (h : Sm G N n s) (hU : IU N n us) : ∀ p, p < 200 → (Cl ((fRoots N n).1 18) (N.2 15) (N.2 16) us p ↔ (gMarked G n).1 20 p ≠ -1) := by
  have hu := hU.us
  have hH := (h.v hU).2
  have hM := sM_roots h hU n (Nat.le_refl n)
  have hRI : RI (gRoots G n) := gRoots_RI (fun k hk => gl_ok h hU hk) (fun i hi => cOK_of h hU hi)
  have hspec := gOnw_spec (S := fun p => Cl ((fRoots N n).1 18) (N.2 15) (N.2 16) us p ∧ p < us) (a := G.2 15) (c := G.2 16) (fun q hq hSq => by
    obtain ⟨hc, hqu⟩ := hSq
    obtain ⟨g1, g2⟩ := hU.cell hqu
    obtain ⟨-, k2, -⟩ := hH q hqu
    obtain ⟨k3, k4⟩ := hH.s2 hU hqu
    refine ⟨fun hi => ?_, fun hi => ?_⟩
    · rw [k2] at hi ⊢
      exact ⟨fun S s1 s2 => (s2 q hqu (hc S s1 s2)).1 hi, g1.plt hu hi⟩
    · have hi2 : ¬ isI (N.2 16 q) := fun y => hi (k3.mpr y)
      rw [k4 hi2]
      exact ⟨fun S s1 s2 => (s2 q hqu (hc S s1 s2)).2 hi2, g2.plt hu hi2⟩) (fun q hq => h.2.2.1 q hq) 201 0 (gRoots G n) (by omega) hRI (by rw [gRoots_2]) (by rw [gRoots_2]) (fun j hj => absurd hj (Nat.not_lt_zero j)) (fun p hp hm => by
      have h1 := (hM p hp).1.mpr hm
      exact ⟨fun S s1 _ => s1 p h1, (hM p hp).2 h1⟩)
  obtain ⟨z1, z2, z3, z4⟩ := hspec
  intro p hp
  refine ⟨fun hc => ?_, fun hm => (z3 p hp hm).1⟩
  refine hc (fun q => q < 200 → (gMarked G n).1 20 q ≠ -1) (fun q hq hq2 => z2 q ((hM q hq2).1.mp hq)) (fun q hqu hSq => ?_) hp
  obtain ⟨d1, d2⟩ := z4 q (by omega) (hSq (by omega))
  obtain ⟨-, k2, -⟩ := hH q hqu
  obtain ⟨k3, k4⟩ := hH.s2 hU hqu
  rw [k2] at d1
  refine ⟨fun hi _ => d1 hi, fun hi _ => ?_⟩
  rw [k4 hi] at d2
  exact d2 hi
/-- the marks as 0 and 1 -/
theorem mark_eq {G N : vM} {n s us p : Nat} (h : Sm G N n s) (hU : IU N n us) (hp : p < 200) : unm ((gMarked G n).1 20) p = fClose ((fRoots N n).1 18) (N.2 15) (N.2 16) us p := by
  unfold unm fClose
  rw [if_pos hp]
  by_cases hm : (gMarked G n).1 20 p = -1
  · rw [if_pos hm, bP_f (fun y => (mark_iff h hU p hp).mp y hm)]
  · rw [if_neg hm, bP_t ((mark_iff h hU p hp).mpr hm)]
