/-! CLASS AND REFERENCE: transactions -/
theorem lt_c {a c : Int32} : a.toInt64 < c.toInt64 ↔ a < c := by
  rw [Int64.lt_iff_toInt_lt, Int32.toInt_toInt64, Int32.toInt_toInt64, Int32.lt_iff_toInt_lt]
theorem vV_inj {us : Nat} {pr : Nat → Int32} {a c : Int64} (ha : vV us pr a) (hc : vV us pr c) (hu : us ≤ 200) : a.toInt32 = c.toInt32 ↔ a = c := by
  refine ⟨fun h => ?_, fun h => by rw [h]⟩
  obtain ⟨p, hp, -, rfl⟩ := ha
  obtain ⟨q, hq, -, rfl⟩ := hc
  rw [toI_var (by omega), toI_var (by omega)] at h
  rw [eq_of_nI h (by omega) (by omega)]
theorem lastI_some {us : Nat} {pr : Nat → Int32} {g : Nat → Int64} {v : Int64} (hu : us ≤ 200) (hv : vV us pr v) : ∀ {e k : Nat}, (∀ q, q < e → vV us pr (g q)) → lastW g e v = some k → lastI (fun q => (g q).toInt32) e v.toInt32 = nI k
  | 0, k, _, h => by rw [lastW] at h; cases h
  | e + 1, k, hg, h => by
    rw [lastW] at h
    rw [lastI]
    by_cases h9 : g e = v
    · rw [if_pos h9] at h
      cases h
      exact if_pos (by rw [h9])
    · rw [if_neg h9] at h
      have h8 : ¬ (g e).toInt32 = v.toInt32 := fun z9 => h9 ((vV_inj (hg e (Nat.lt_succ_self e)) hv hu).mp z9)
      exact (if_neg h8).trans (lastI_some hu hv (fun q hq => hg q (Nat.lt_succ_of_lt hq)) h)
theorem lastI_none {us : Nat} {pr : Nat → Int32} {g : Nat → Int64} {v : Int64} (hu : us ≤ 200) (hv : vV us pr v) : ∀ {e : Nat}, (∀ q, q < e → vV us pr (g q)) → lastW g e v = none → lastI (fun q => (g q).toInt32) e v.toInt32 = -1
  | 0, _, _ => rfl
  | e + 1, hg, h => by
    rw [lastW] at h
    rw [lastI]
    by_cases h9 : g e = v
    · rw [if_pos h9] at h
      cases h
    · rw [if_neg h9] at h
      have h8 : ¬ (g e).toInt32 = v.toInt32 := fun z9 => h9 ((vV_inj (hg e (Nat.lt_succ_self e)) hv hu).mp z9)
      exact (if_neg h8).trans (lastI_none hu hv (fun q hq => hg q (Nat.lt_succ_of_lt hq)) h)
theorem lastI_neg {f : Nat → Int32} {v : Int32} : ∀ {e : Nat}, e < 2 ^ 31 → (¬ lastI f e v < 0 ↔ ∃ k, k < e ∧ f k = v)
  | 0, _ => ⟨fun h => absurd (show (-1 : Int32) < 0 by decide) h, fun ⟨k, hk, _⟩ => absurd hk (Nat.not_lt_zero k)⟩
  | e + 1, he => by
    rw [lastI]
    by_cases h9 : f e = v
    · rw [if_pos h9]
      exact ⟨fun _ => ⟨e, Nat.lt_succ_self e, h9⟩, fun _ => nI_pos (by omega)⟩
    · rw [if_neg h9, lastI_neg (e := e) (by omega)]
      refine ⟨fun ⟨k, hk, h⟩ => ⟨k, Nat.lt_succ_of_lt hk, h⟩, fun ⟨k, hk, h⟩ => ⟨k, ?_, h⟩⟩
      rcases Nat.lt_succ_iff_lt_or_eq.mp hk with y9 | y9
      · exact y9
      · rw [y9] at h; exact absurd h h9
theorem IU.g3 {M : vM} {n us : Nat} (h : IU M n us) : M.1 0 3 = nI us := by
  obtain ⟨sz, pd, hg, hts⟩ := h
  exact hg.2.2.2.2.2.1
theorem Sm.v {G N : vM} {n s us : Nat} (h : Sm G N n s) (hU : IU N n us) : G.1 1 5 = nI us ∧ sH G N us := h.u hU.g3 hU.us
/-- a VAR's place in both heaps -/
theorem sH.p {G N : vM} {us : Nat} {v : Int64} (h : sH G N us) (hv : vV us (N.1 17) v) (hu : us ≤ 200) : G.2 15 (pl v) = N.2 15 (pl v) ∧ G.2 16 (pl v) = (N.1 19 (pl v)).toInt64 := by
  obtain ⟨h1, h2, -⟩ := hv.pl hu
  obtain ⟨-, q2, q3⟩ := h (pl v) h1
  rw [if_pos h2] at q3
  exact ⟨q2, q3⟩
theorem gV_iff {G N : vM} {us b : Nat} (hR : sR G N b) (hH : sH G N us) (hu : us ≤ 200) (hrd : ∀ k, k < nn (N.1 b 5) → vV us (N.1 17) (N.2 (b + 15) k)) : gValid G b ↔ fValid N b := by
  obtain ⟨h1, h2, h3, h4, h5, h6, h7, h8, h9, h10, h11, h12, h13, h14, h15, h16, h17⟩ := hR
  unfold gValid fValid
  rw [h5, h7, h15]
  refine forall_congr' fun k => forall_congr' fun hk => not_congr ?_
  have h9 := (hH.p (hrd k hk) hu).2
  exact (show _ ↔ _ by rw [show G.2 16 (nn (N.2 (b + 15) k).toInt32) = (N.1 19 (pl (N.2 (b + 15) k))).toInt64 from h9]; exact lt_c)
/-- the place of a strand's atomic nest -/
theorem sA.at {G N : vM} {b e : Nat} (h : sA G N b e) {k : Nat} (hk : k < e) (h0 : N.1 (b + 11) k = 0) (huq : ∀ j q, j < e → q < e → N.1 (b + 11) j = 0 → N.1 (b + 11) q = 0 → j = q) : G.1 b 13 = nI k := by
  rcases h with ⟨j, hj, j0, h13⟩ | ⟨-, hno⟩
  · rw [h13, huq j k hj hk j0 h0]
  · exact absurd h0 (hno k hk)
theorem z_read {G N : vM} {n s us i k r w ja jb : Nat} (h : Sm G N n s) (hU : IU N n us) (hi : i < n) (h1 : N.1 (tb i) 0 = 1) {ca e : Nat} (hI : tI N us (tb i) ca e r w) (hk : k < e) (h0 : N.1 (tb i + 11) k = 0) {v : Int64} (hjb : N.2 (tb i + 8) jb = v) (hv : vV us (N.1 17) v) : (gReadV G (tb i) k r w ja jb).2 = (fReading N (tb i) ja v).2 ∧ Sm (gReadV G (tb i) k r w ja jb).1 (fReading N (tb i) ja v).1 n s := by
  obtain ⟨q3, hca, h4, he, h5, hr, h6, hw, hso, huq, hct, hctm, hwt, hwtm, hwt0, hpk, hst, hem, hov, hrg, hsv, hrd, hwr, hva⟩ := id hI
  obtain ⟨⟨r1, r2, r3, r4, r5, r6, r7, r8, r9, r10, r11, r12, r13, r14, r15, r16, r17⟩, h12, hA, hc1⟩ := h.T hi
  have hu := hU.us
  have hH := (h.v hU).2
  obtain ⟨p1, p2⟩ := hH.p hv hu
  unfold gReadV fReading
  dsimp only
  rw [h.reg hi, hjb, r16, r7, r15, p1, p2, r17, h6, nn_nI (by omega), h5, nn_nI (by omega)]
  cases hl : lastW (N.2 (tb i + 16)) w v with
  | some k9 =>
    have hl9 := lastI_some hu hv hwr hl
    have hk9 := lastW_lt hl
    have hx : ¬ lastI (fun q => (N.2 (tb i + 16) q).toInt32) w v.toInt32 < 0 := by rw [hl9]; exact nI_pos (by omega)
    have hx2 : (0 : Int32) ≤ lastI (fun q => (N.2 (tb i + 16) q).toInt32) w v.toInt32 := Int32.not_lt.mp hx
    rw [if_pos hx2, hl9, nn_nI (by omega)]
    exact ⟨rfl, z_reg h hi⟩
  | none =>
    have hl9 := lastI_none hu hv hwr hl
    rw [hl9, if_neg (by decide)]
    dsimp only
    by_cases hcl : N.1 (tb i) 7 < N.1 19 (pl v)
    · rw [if_pos (lt_c.mpr hcl), if_pos hcl]
      refine ⟨rfl, ?_⟩
      unfold fAborted
      rw [h4, nn_nI (by omega), aIdx_eq hk h0 (tI.at huq hk h0)]
      exact z_abort h hi h4 he huq hk h1
    · rw [if_neg (fun z9 => hcl (lt_c.mp z9)), if_neg hcl]
      have hsee : (∃ q, q < r ∧ (N.2 (tb i + 15) q).toInt32 = v.toInt32) ↔ (∃ k, k < r ∧ N.2 (tb i + 15) k = v) :=
        ⟨fun ⟨q, hq, y⟩ => ⟨q, hq, (vV_inj (hrd q hq) hv hu).mp y⟩, fun ⟨q, hq, y⟩ => ⟨q, hq, by rw [y]⟩⟩
      by_cases hse : ∃ k, k < r ∧ N.2 (tb i + 15) k = v
      · rw [if_pos (hsee.mpr hse), if_pos hse]
        exact ⟨rfl, z_reg h hi⟩
      · rw [if_neg (fun z9 => hse (hsee.mp z9)), if_neg hse]
        by_cases h40 : r = 40
        · rw [if_pos h40, if_pos (by rw [h40]; rfl)]
          exact ⟨rfl, h⟩
        · rw [if_neg h40, if_neg (show ¬ nI r = 40 from fun z9 => h40 (eq_of_nI (b := 40) z9 (by omega) (by decide)))]
          refine ⟨rfl, ?_⟩
          rw [nI_1]
          exact z_reg (z_addR h hi) hi
theorem z_write {G N : vM} {n s us i w : Nat} {x y : Int32} (h : Sm G N n s) (hi : i < n) {ca e r : Nat} (hI : tI N us (tb i) ca e r w) : (gWriteV G (tb i) w (nn x) (nn y)).2 = (fGuard N n (tb i) 17 x y).2 ∧ Sm (gWriteV G (tb i) w (nn x) (nn y)).1 (fGuard N n (tb i) 17 x y).1 n s := by
  obtain ⟨q3, hca, h4, he, h5, hr, h6, hw, hso, huq, hct, hctm, hwt, hwtm, hwt0, hpk, hst, hem, hov, hrg, hsv, hrd, hwr, hva⟩ := id hI
  have e9 : fGuard N n (tb i) 17 x y = (if N.1 (tb i) 6 = 40 then (N, -5) else (mI (mL (mL N (tb i + 16) (nn (N.1 (tb i) 6)) (rgx N (tb i) x)) (tb i + 17) (nn (N.1 (tb i) 6)) (rgx N (tb i) y)) (tb i) 6 (N.1 (tb i) 6 + 1), 0)) := rfl
  rw [e9]
  unfold gWriteV
  rw [h6, nn_nI (by omega), h.reg hi]
  by_cases h40 : w = 40
  · rw [if_pos h40, if_pos (by rw [h40]; rfl)]
    exact ⟨rfl, h⟩
  · rw [if_neg h40, if_neg (show ¬ nI w = 40 from fun z9 => h40 (eq_of_nI (b := 40) z9 (by omega) (by decide)))]
    refine ⟨rfl, ?_⟩
    rw [nI_1]
    exact z_addW h hi
theorem gRetK_top {G N : vM} {b k : Nat} (hrow : G.1 (b + 11) = N.1 (b + 11)) (h0 : N.1 (b + 11) k = 0) : ∀ {e : Nat}, k < e → (∀ q, q < e → N.1 (b + 11) q = 0 ∨ N.1 (b + 11) q = 1 ∨ N.1 (b + 11) q = 2) → (∀ q, q < e → N.1 (b + 11) q = 0 → q = k) → gRetK G b k e = if N.1 (b + 11) (topN (N.1 (b + 11)) e) = 1 then gBack G b (topN (N.1 (b + 11)) e) else gRetF G b k
  | 0, hk, _, _ => absurd hk (Nat.not_lt_zero k)
  | e + 1, hk, hso, hq => by
    rw [gRetK, topN, hrow]
    by_cases h2 : N.1 (b + 11) e = 2
    · have hke : k < e := by
        rcases Nat.lt_succ_iff_lt_or_eq.mp hk with y9 | y9
        · exact y9
        · rw [← y9, h0] at h2; exact absurd h2 (by decide)
      rw [if_pos h2, if_neg (by omega), if_neg (by rw [h2]; decide)]
      exact gRetK_top hrow h0 hke (fun q y => hso q (by omega)) (fun q y => hq q (by omega))
    · rw [if_neg h2]
      by_cases hek : e ≤ k
      · have : e = k := by omega
        rw [if_pos hek, this, h0]; exact (if_neg (by decide)).symm
      · rw [if_neg hek]
        rcases hso e (Nat.lt_succ_self e) with y9 | y9 | y9
        · exact absurd (hq e (Nat.lt_succ_self e) y9) (by omega)
        · rw [if_pos y9, if_pos y9]
        · exact absurd y9 h2
theorem z_retry {G N : vM} {n s us i k : Nat} (h : Sm G N n s) (hU : IU N n us) (hi : i < n) (h1 : N.1 (tb i) 0 = 1) {ca e r w : Nat} (hI : tI N us (tb i) ca e r w) (hk : k < e) (h0 : N.1 (tb i + 11) k = 0) : Sm (gRetK G (tb i) k e) (fRetried N (tb i)) n s := by
  obtain ⟨q3, hca, h4, he, h5, hr, h6, hw, hso, huq, hct, hctm, hwt, hwtm, hwt0, hpk, hst, hem, hov, hrg, hsv, hrd, hwr, hva⟩ := id hI
  obtain ⟨hR, h12, hA, hc1⟩ := h.T hi
  have hu := hU.us
  have hH := (h.v hU).2
  have hrow : G.1 (tb i + 11) = N.1 (tb i + 11) := by
    obtain ⟨r1, r2, r3, r4, r5, r6, r7, r8, r9, -⟩ := hR
    exact r9
  rw [gRetK_top hrow h0 hk hso (fun q hq y9 => huq q k hq hk y9 h0)]
  unfold fRetried
  dsimp only
  rw [h4, nn_nI (by omega)]
  obtain ⟨t1, t2, t3⟩ := topN_ge (s := N.1 (tb i + 11)) (a := k) (by rw [h0]; decide) hk
  by_cases ht : N.1 (tb i + 11) (topN (N.1 (tb i + 11)) e) = 1
  · rw [if_pos ht, if_pos ht]
    exact z_back h hi h4 he huq (by omega)
  · rw [if_neg ht, if_neg ht]
    unfold gRetF
    have hV := gV_iff hR hH hu (fun k hk => hrd k (by rw [h5, nn_nI (by omega)] at hk; exact hk))
    by_cases hv : fValid N (tb i)
    · rw [if_pos (hV.mpr hv), if_pos hv]
      exact z_park h hi h1
    · rw [if_neg (fun z9 => hv (hV.mp z9)), if_neg hv]
      unfold fAborted
      rw [h4, nn_nI (by omega), aIdx_eq hk h0 (tI.at huq hk h0)]
      exact z_abort h hi h4 he huq hk h1
