/-! CLASS AND REFERENCE: what a collection keeps -/
theorem nI_nm {p : Nat} (h : p < 2 ^ 31) : nI p ≠ -1 := fun z9 => by
  have h9 := nI_pos h
  rw [z9] at h9
  exact h9 (by decide)
theorem gR_i {M : vM} {v : Int64} (h : isI v) : gReach M v = M := if_pos h
theorem gR_k {M : vM} {v : Int64} (h : M.1 20 (pl v) ≠ -1) : gReach M v = M := by
  unfold gReach
  split
  · rfl
  · rfl
/-- how reaching one value changes the marks -/
theorem gR_20 {M : vM} {v : Int64} {p : Nat} (hv : pl v < 200 ∨ isI v) : (gReach M v).1 20 p ≠ -1 ↔ (M.1 20 p ≠ -1 ∨ (¬ isI v ∧ p = pl v)) := by
  by_cases hi : isI v
  · rw [gR_i hi]
    exact ⟨Or.inl, fun h => h.elim id (fun y => absurd hi y.1)⟩
  · by_cases hu : M.1 20 (pl v) = -1
    · rw [(gReach_20 hi hu).1]
      by_cases hp : p = pl v
      · subst hp
        rw [pk_us]
        exact ⟨fun _ => Or.inr ⟨hi, rfl⟩, fun _ => nI_nm (by have := hv.resolve_right hi; omega)⟩
      · rw [pk_un hp]
        exact ⟨Or.inl, fun h => h.elim id (fun y => absurd y.2 hp)⟩
    · rw [gR_k hu]
      exact ⟨Or.inl, fun h => h.elim id (fun y => by rw [y.2]; exact hu)⟩
/-- the reference's marks and the class's -/
def sM (f : Nat → Int32) (G : vM) (us : Nat) : Prop := ∀ p, p < 200 → (f p = 1 ↔ G.1 20 p ≠ -1) ∧ (f p = 1 → p < us)
theorem vO.plt {us : Nat} {pr : Nat → Int32} {v : Int64} (h : vO us pr v) (hu : us ≤ 200) (hi : ¬ isI v) : pl v < us := by
  rcases h with h | ⟨p, hp, -, rfl⟩ | ⟨p, hp, -, rfl⟩
  · exact absurd h hi
  · rw [pl_pair (by omega)]; exact hp
  · rw [pl_var (by omega)]; exact hp
theorem vO.pok {us : Nat} {pr : Nat → Int32} {v : Int64} (h : vO us pr v) (hu : us ≤ 200) : pl v < 200 ∨ isI v := by
  by_cases hi : isI v
  · exact Or.inr hi
  · exact Or.inl (by have := h.plt hu hi; omega)
theorem sM_reach {f : Nat → Int32} {G : vM} {us : Nat} {pr : Nat → Int32} {v : Int64} (h : sM f G us) (hu : us ≤ 200) (hv : vO us pr v) : sM (mk1 f v) (gReach G v) us := by
  intro p hp
  rw [gR_20 (hv.pok hu)]
  by_cases hi : isI v
  · rw [mk1_i hi]
    refine ⟨(h p hp).1.trans ⟨Or.inl, fun y => y.elim id (fun z9 => absurd hi z9.1)⟩, (h p hp).2⟩
  · rw [mk1_n hi]
    by_cases hq : p = pl v
    · subst hq
      rw [pk_us]
      exact ⟨⟨fun _ => Or.inr ⟨hi, rfl⟩, fun _ => rfl⟩, fun _ => hv.plt hu hi⟩
    · rw [pk_un hq]
      exact ⟨(h p hp).1.trans ⟨Or.inl, fun y => y.elim id (fun z9 => absurd z9.2 hq)⟩, (h p hp).2⟩
theorem sM_row {f : Nat → Int32} {G : vM} {us : Nat} {pr : Nat → Int32} {row : Nat → Int64} (h : sM f G us) (hu : us ≤ 200) : ∀ e, (∀ k, k < e → vO us pr (row k)) → sM (mkR f row e) (gReachR row e G) us
  | 0, _ => h
  | e + 1, hv => sM_reach (sM_row h hu e (fun k hk => hv k (by omega))) hu (hv e (Nat.lt_succ_self e))
theorem mkR_cong {f : Nat → Int32} {row row' : Nat → Int64} : ∀ e, (∀ k, k < e → row k = row' k) → mkR f row e = mkR f row' e
  | 0, _ => rfl
  | e + 1, h => by rw [mkR, mkR, mkR_cong e (fun k hk => h k (by omega)), h e (Nat.lt_succ_self e)]
theorem gReachR_cong {G : vM} {row row' : Nat → Int64} : ∀ e, (∀ k, k < e → row k = row' k) → gReachR row e G = gReachR row' e G
  | 0, _ => rfl
  | e + 1, h => by rw [gReachR, gReachR, gReachR_cong e (fun k hk => h k (by omega)), h e (Nat.lt_succ_self e)]
theorem mkR_tail {f : Nat → Int32} {row : Nat → Int64} {a : Nat} : ∀ e, a ≤ e → (∀ k, a ≤ k → k < e → isI (row k)) → mkR f row e = mkR f row a
  | 0, ha, _ => by rw [show a = 0 by omega]
  | e + 1, ha, h => by
    rcases Nat.lt_or_eq_of_le ha with y9 | y9
    · rw [mkR, mk1_i (h e (by omega) (Nat.lt_succ_self e)), mkR_tail e (by omega) (fun k h1 h2 => h k h1 (by omega))]
    · rw [y9]
theorem rzR_lt {st : Int32} {row : Nat → Int64} {k : Nat} (hs : st = 3 ∨ st = 4) (hk : k < 16) (h3 : st = 4 ∨ 0 < k) : isI (rzR st row 16 k) := by
  unfold rzR
  by_cases hi : isI (row k)
  · rw [if_neg (fun z9 => z9.2.2.1 hi)]; exact hi
  · rw [if_pos ⟨hk, hs, hi, h3⟩]; exact isI_0
/-- the registers of a strand -/
theorem sM_reg {f : Nat → Int32} {G H N : vM} {us b : Nat} {pr : Nat → Int32} {row : Nat → Int64} (h : sM f G us) (hu : us ≤ 200) (hst : H.1 b 8 = N.1 b 0) (hv : ∀ k, k < 16 → vO us pr (row k)) : sM (mkR f (rzR (N.1 b 0) row 16) 16) (gReachR row (kpN H b) G) us := by
  unfold kpN
  rw [hst]
  by_cases h3 : N.1 b 0 = 3
  · rw [if_pos h3, h3, mkR_tail (a := 1) 16 (by decide) (fun k k1 k2 => rzR_lt (Or.inl rfl) k2 (Or.inr (by omega))), mkR_cong (row' := row) 1 (fun k hk => by
      obtain rfl : k = 0 := by omega
      exact if_neg (fun z9 => z9.2.2.2.elim (fun y => absurd y (by decide)) (fun y => absurd y (by decide))))]
    exact sM_row h hu 1 (fun k hk => hv k (by omega))
  · rw [if_neg h3]
    by_cases h4 : N.1 b 0 = 4
    · rw [if_pos h4, h4, mkR_tail (a := 0) 16 (by decide) (fun k k1 k2 => rzR_lt (Or.inr rfl) k2 (Or.inl rfl))]
      exact h
    · rw [if_neg h4, rzR_off (fun z9 => z9.elim h3 h4)]
      exact sM_row h hu 16 hv
theorem sM_base {G N : vM} {us : Nat} : sM (zr (N.1 18) 200) (gBeg G) us := fun p hp => by
  have e1 : zr (N.1 18) 200 p = 0 := if_pos hp
  rw [e1, gBeg_20 hp]
  exact ⟨⟨fun z9 => absurd z9 (by decide), fun z9 => absurd rfl z9⟩, fun z9 => absurd z9 (by decide)⟩
theorem var_at {us : Nat} {pr : Nat → Int32} {v : Int64} (h : vV us pr v) (hu : us ≤ 200) : 17179869184 + v.toInt32.toInt64 = v := by
  obtain ⟨p, hp, -, rfl⟩ := h
  rw [toI_var (by omega), nI_l (by omega)]
theorem sM_roots {G N : vM} {n s us : Nat} (h : Sm G N n s) (hU : IU N n us) : ∀ j, j ≤ n → sM ((fRoots N j).1 18) (gRoots G j) us
  | 0, _ => by
    have e1 : (fRoots N 0).1 18 = mkR (zr (N.1 18) 200) (N.2 14) 8 := mRI_r _ _ _
    rw [e1, gRoots, h.gl]
    exact sM_row sM_base hU.us 8 (fun k hk => hU.glo hk)
  | j + 1, hj => by
    have ih := sM_roots h hU j (by omega)
    have hu := hU.us
    obtain ⟨ca, e, r, w, hI⟩ := hU.at (show j < n by omega)
    obtain ⟨q3, hca, h4, he, h5, hr, h6, hw, hso, huq, hct, hctm, hwt, hwtm, hwt0, hpk, hs9, hem, hov, hrg, hsv, hrd, hwr, hva⟩ := id hI
    obtain ⟨⟨r1, r2, r3, r4, r5, r6, r7, r8, r9, r10, r11, r12, r13, r14, r15, r16, r17⟩, h12, hA, hc1⟩ := h.T (show j < n by omega)
    have e1 : (fRoots N (j + 1)).1 18 = fRootF ((fRoots N j).1 18) (fRoots N j) (tb j) (rzR ((fRoots N j).1 (tb j) 0) ((fRoots N j).2 (tb j + 8)) 16) := mRI_r _ _ _
    have y1 : (fRoots N j).1 (tb j) = N.1 (tb j) := fRoots_1 (by unfold tb; omega) (by unfold tb; omega)
    have y8 : (fRoots N j).2 (tb j + 8) = N.2 (tb j + 8) := fRoots_2 (fun k hk => by unfold tb; omega)
    have y9 : (fRoots N j).2 (tb j + 9) = N.2 (tb j + 9) := fRoots_2 (fun k hk => by unfold tb; omega)
    have y15 : (fRoots N j).2 (tb j + 15) = N.2 (tb j + 15) := fRoots_2 (fun k hk => by unfold tb; omega)
    have y16 : (fRoots N j).2 (tb j + 16) = N.2 (tb j + 16) := fRoots_2 (fun k hk => by unfold tb; omega)
    have y17 : (fRoots N j).2 (tb j + 17) = N.2 (tb j + 17) := fRoots_2 (fun k hk => by unfold tb; omega)
    unfold fRootF at e1
    rw [y1, y8, y9, y15, y16, y17, h4, h5, h6, nn_nI (by omega), nn_nI (by omega), nn_nI (by omega)] at e1
    rw [e1, gRoots, h12, r5, r6, h4, h5, h6, nn_nI (by omega), nn_nI (by omega), nn_nI (by omega)]
    have g2 : (gRoots G j).2 = G.2 := gRoots_2
    have t1 : sM _ (gRt1 (gRoots G j) (tb j) (kpN G (tb j))) us := sM_reg (row := N.2 (tb j + 8)) (pr := N.1 17) (H := G) (N := N) (b := tb j) ih hu r1 (fun k hk => hrg k hk) |> fun q => by
      unfold gRt1; rw [g2, r13]; exact q
    have t2 : sM _ (gRt2 (gRoots G j) (tb j) (kpN G (tb j)) e) us := sM_row (row := N.2 (tb j + 9)) (pr := N.1 17) t1 hu (16 * e) hsv |> fun q => by
      unfold gRt2; rw [gRt1_2, g2, r14]; exact q
    have t3 : sM _ (gRt3 (gRoots G j) (tb j) (kpN G (tb j)) e r) us := sM_row (row := N.2 (tb j + 15)) (pr := N.1 17) t2 hu r (fun k hk => (hrd k hk).o) |> fun q => by
      unfold gRt3
      rw [gRt2_1 tb3, gRoots_b, r15, gReachR_cong (row' := N.2 (tb j + 15)) r (fun k hk => var_at (hrd k hk) hu)]; exact q
    have t4 : sM _ (gRt4 (gRoots G j) (tb j) (kpN G (tb j)) e r w) us := sM_row (row := N.2 (tb j + 16)) (pr := N.1 17) t3 hu w (fun k hk => (hwr k hk).o) |> fun q => by
      unfold gRt4
      rw [gRt3_1 tb3, gRoots_b, r16, gReachR_cong (row' := N.2 (tb j + 16)) w (fun k hk => var_at (hwr k hk) hu)]; exact q
    have t5 : sM _ (gRt5 (gRoots G j) (tb j) (kpN G (tb j)) e r w) us := sM_row (row := N.2 (tb j + 17)) (pr := N.1 17) t4 hu w hva |> fun q => by
      unfold gRt5
      rw [gRt4_2, g2, r17]; exact q
    exact t5
