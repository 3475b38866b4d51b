/-! CLASS AND REFERENCE: committing -/
theorem z_wr1 {G N : vM} {n s us : Nat} {v y : Int64} {clk : Int32} (h : Sm G N n s) (hU : N.1 0 3 = nI us) (hu : us ≤ 200) (hv : vV us (N.1 17) v) (hy : ok1 y) : Sm (mL (mL G 15 (pl v) y) 16 (pl v) clk.toInt64) (mI (mL N 15 (pl v) y) 19 (pl v) clk) n s := by
  obtain ⟨v1, v2, -⟩ := hv.pl hu
  obtain ⟨h5, hH⟩ := h.u hU hu
  obtain ⟨hc, -, hok, hp, hs, hn, hg, hO, hT⟩ := h
  have a1 : ∀ c, c ≠ 19 → (mI (mL N 15 (pl v) y) 19 (pl v) clk).1 c = N.1 c := fun c q => mI_n _ _ _ _ q
  have b15 : (mL (mL G 15 (pl v) y) 16 (pl v) clk.toInt64).2 15 = vp_updL (G.2 15) (pl v) y := by rw [mL_n _ _ _ _ (by decide), mL_r]
  have b16 : (mL (mL G 15 (pl v) y) 16 (pl v) clk.toInt64).2 16 = vp_updL (G.2 16) (pl v) clk.toInt64 := by rw [mL_r, mL_n _ _ _ _ (by decide)]
  have a15 : (mI (mL N 15 (pl v) y) 19 (pl v) clk).2 15 = vp_updL (N.2 15) (pl v) y := by show (mL N 15 (pl v) y).2 15 = _; exact mL_r _ _ _ _
  have a19 : (mI (mL N 15 (pl v) y) 19 (pl v) clk).1 19 = upd (N.1 19) (pl v) clk := mI_r _ _ _ _
  have a2 : ∀ c, c ≠ 15 → (mI (mL N 15 (pl v) y) 19 (pl v) clk).2 c = N.2 c := fun c q => mL_n _ _ _ _ q
  have b2 : ∀ c, c ≠ 15 → c ≠ 16 → (mL (mL G 15 (pl v) y) 16 (pl v) clk.toInt64).2 c = G.2 c := fun c q q2 => by rw [mL_n _ _ _ _ q2, mL_n _ _ _ _ q]
  refine ⟨?_, ⟨us, by rw [a1 0 (by decide)]; exact hU, hu, h5, fun p hp => ?_⟩, fun p hp => ?_, ?_, ?_, ?_, ?_, fun k hk => ?_, fun j hj => ?_⟩
  · unfold sC; rw [a1 0 (by decide)]; exact hc
  · obtain ⟨q1, q2, q3⟩ := hH p hp
    rw [b15, b16, a15, a19, a1 17 (by decide), a2 16 (by decide)]
    refine ⟨q1, ?_, ?_⟩
    · by_cases hpv : p = pl v
      · rw [hpv, pk_uLs, pk_uLs]
      · rw [pk_uLn hpv, pk_uLn hpv]; exact q2
    · by_cases hpv : p = pl v
      · rw [hpv, pk_uLs, pk_us, if_pos v2]
      · rw [pk_uLn hpv, pk_un hpv]; exact q3
  · rw [b15, b16]
    refine ⟨?_, ?_⟩
    · by_cases hpv : p = pl v
      · rw [hpv, pk_uLs]; exact hy
      · rw [pk_uLn hpv]; exact (hok p hp).1
    · by_cases hpv : p = pl v
      · rw [hpv, pk_uLs]; exact Or.inl (isI_i clk)
      · rw [pk_uLn hpv]; exact (hok p hp).2
  · obtain ⟨pd, od, p1, p2, p3, p4, p5, p6⟩ := hp
    exact ⟨pd, od, p1, p2, p3, p4, by rw [a1 0 (by decide)]; exact p5, fun k hk => by rw [a1 21 (by decide)]; exact p6 k hk⟩
  · rw [a1 0 (by decide)]; exact hs
  · rw [a1 0 (by decide)]; exact hn
  · rw [b2 14 (by decide) (by decide), a2 14 (by decide)]; exact hg
  · rw [a1 9 (by decide), a1 10 (by decide), a1 11 (by decide), a1 12 (by decide)]; exact hO k hk
  · exact sT_cong (hT j hj) (fun k _ => ⟨rfl, b2 _ (by unfold tb; omega) (by unfold tb; omega)⟩) (fun k _ => ⟨a1 _ (by unfold tb; omega), a2 _ (by unfold tb; omega)⟩)
theorem z_wr {G N : vM} {n s us : Nat} {wr va : Nat → Int64} {clk : Int32} (h : Sm G N n s) (hU : N.1 0 3 = nI us) (hu : us ≤ 200) : ∀ k, (∀ q, q < k → vV us (N.1 17) (wr q)) → (∀ q, q < k → ok1 (va q)) → Sm (gWr (fun q => (wr q).toInt32) va clk k G) (fWr wr va clk k N) n s
  | 0, _, _ => h
  | k + 1, hv, hy => by
    have ih := z_wr (clk := clk) h hU hu k (fun q hq => hv q (by omega)) (fun q hq => hy q (by omega))
    rw [gWr, fWr]
    exact z_wr1 ih (by rw [fWr_1 (by decide)]; exact hU) hu (by rw [fWr_1 (by decide)]; exact hv k (by omega)) (hy k (by omega))
theorem gClear_14 {M : vM} {b c : Nat} (h : c ≠ b + 18) : (gClear M b).1 c = M.1 c := gClear_n h
/-- the wakes of a commit by the strand i: the class's own writer is cleared last -/
theorem z_wakes {G N : vM} {n s us i w : Nat} {wr : Nat → Int64} (h : Sm (gClear G (tb i)) N n s) (hU : IU N n us) (hi : i < n) (hst : G.1 (tb i) 8 ≠ 2) (hw : w ≤ 40) (hwr : ∀ k, k < w → vV us (N.1 17) (wr k)) (hrow : G.1 (tb i + 16) = fun k => (wr k).toInt32) : ∀ m, m ≤ n → Sm (gClear (gWakes G (tb i) w m) (tb i)) (fWakes wr w m N) n s
  | 0, _ => h
  | m + 1, hm => by
    have ih := z_wakes h hU hi hst hw hwr hrow m (by omega)
    have hU' : IU (fWakes wr w m N) n us := iu_wakes hU m (by omega)
    have h17 : (fWakes wr w m N).1 17 = N.1 17 := fWakes_1 (fun j _ => by unfold tb; omega)
    have h04 : (fWakes wr w m N).1 0 = N.1 0 := fWakes_1 (fun j _ => z00)
    obtain ⟨ca, e, r, w2, hI⟩ := hU'.at (show m < n by omega)
    obtain ⟨q3, hca, h4, he, h5, hr, h6, hw2, hso, huq, hct, hctm, hwt, hwtm, hwt0, hpk, hs9, hem, hov, hrg, hsv, hrd, hwr2, hva⟩ := id hI
    obtain ⟨⟨r1, r2, r3, r4, r5, r6, r7, r8, r9, r10, r11, r12, r13, r14, r15, r16, r17⟩, h12, hA, hc1⟩ := ih.T (show m < n by omega)
    rw [h4, nn_nI (by omega)] at hA
    have hcl : ∀ c, c ≠ tb i + 18 → (gClear (gWakes G (tb i) w m) (tb i)).1 c = (gWakes G (tb i) w m).1 c := fun c hc => gClear_n hc
    rw [fWakes]
    unfold fWake
    by_cases hmi : m = i
    · subst hmi
      have e1 : (fWakes wr w m N).1 (tb m) 0 ≠ 2 := by
        rw [← r1, hcl _ (by omega), gWakes_ge (Nat.le_refl m)]; exact hst
      rw [gWakes_f (fun z9 => hst z9.1), if_neg (fun z9 => e1 z9.1)]
      exact ih
    · have d1 : tb m ≠ tb i + 18 := by unfold tb; omega
      have d2 : tb m + 18 ≠ tb i + 18 := by unfold tb; omega
      have d3 : tb m + 15 ≠ tb i + 18 := by unfold tb; omega
      rw [hcl _ d1, gWakes_ge (Nat.le_refl m)] at r1
      rw [hcl _ d2, gWakes_ge18 (Nat.le_refl m)] at r5
      rw [hcl _ d3, gWakes_o (fun q => tbo (by decide) (by decide) (by decide))] at r15
      have c5 : G.1 0 5 = (fWakes wr w m N).1 0 4 := by
        rw [h04]
        have := h.c.1
        rwa [gClear_n z0k] at this
      have hiff : (G.1 (tb m) 8 = 2 ∧ ∃ q, q < nn (G.1 (tb m + 18) 3) ∧ ¬ lastI (G.1 (tb i + 16)) w (G.1 (tb m + 15) q) < 0) ↔ ((fWakes wr w m N).1 (tb m) 0 = 2 ∧ ∃ k q, k < w ∧ q < nn ((fWakes wr w m N).1 (tb m) 5) ∧ (fWakes wr w m N).2 (tb m + 15) q = wr k) := by
        rw [r1, r5, r15, hrow, h5, nn_nI (by omega)]
        refine and_congr Iff.rfl ⟨?_, ?_⟩
        · rintro ⟨q, hq, y⟩
          obtain ⟨k, hk, y2⟩ := (lastI_neg (by omega)).mp y
          exact ⟨k, q, hk, hq, ((vV_inj (hwr k hk) (by have := hrd q hq; rwa [h17] at this) hU.us).mp y2).symm⟩
        · rintro ⟨k, q, hk, hq, y⟩
          exact ⟨q, hq, (lastI_neg (by omega)).mpr ⟨k, hk, congrArg Int64.toInt32 y.symm⟩⟩
      by_cases hcd : G.1 (tb m) 8 = 2 ∧ ∃ q, q < nn (G.1 (tb m + 18) 3) ∧ ¬ lastI (G.1 (tb i + 16)) w (G.1 (tb m + 15) q) < 0
      · have h2 : (fWakes wr w m N).1 (tb m) 0 = 2 := (hiff.mp hcd).1
        obtain ⟨k, hk, h0⟩ := hpk h2
        have h13 := sA.at hA hk h0 huq
        rw [hcl _ d1, gWakes_ge (Nat.le_refl m)] at h13
        rw [gWakes_t hcd, if_pos (hiff.mp hcd), gClear_wake (Ne.symm hmi), h13, nn_nI (by omega), c5, h4, nn_nI (by omega), aIdx_eq hk h0 (tI.at huq hk h0)]
        exact z_wake ih (by omega) h4 he huq hk h2
      · rw [gWakes_f hcd, if_neg (fun z9 => hcd (hiff.mpr z9))]
        exact ih
theorem z_commit {G N : vM} {n s us i k : Nat} (h : Sm G N n s) (hU : IU N n us) (hi : i < n) (h1 : N.1 (tb i) 0 = 1) {ca e r w : Nat} (hI : tI N us (tb i) ca e r w) (hk : k < e) (h0 : N.1 (tb i + 11) k = 0) (hke : k = e - 1) : Sm (gCommit G n (tb i) e k w) (@ite _ (fValid N (tb i)) (Classical.propDecidable _) (fCommitted N n (tb i)) (fAborted N (tb i))) n s := by
  obtain ⟨q3, hca, h4, he, h5, hr, h6, hw, hso, huq, hct, hctm, hwt, hwtm, hwt0, hpk, hst, hem, hov, hrg, hsv, hrd, hwr, hva⟩ := id hI
  obtain ⟨hR, h12, hA, hc1⟩ := h.T hi
  obtain ⟨r1, r2, r3, r4, r5, r6, r7, r8, r9, r10, r11, r12, r13, r14, r15, r16, r17⟩ := id hR
  have hu := hU.us
  have hH := (h.v hU).2
  have hV := gV_iff hR hH hu (fun k hk => hrd k (by rw [h5, nn_nI (by omega)] at hk; exact hk))
  have hin : fIn N (tb i) := ⟨k, by rw [h4, nn_nI (by omega)]; exact hk, h0⟩
  unfold gCommit
  by_cases hv : fValid N (tb i)
  · rw [if_pos (hV.mpr hv), if_pos hv]
    have hpop : N.1 (tb i) 4 - 1 = nI (e - 1) := by
      rw [h4]; obtain ⟨e1, rfl⟩ : ∃ e1, e = e1 + 1 := ⟨e - 1, by omega⟩
      rw [nI_pred]; rfl
    have hM2 : IU (mI (mI (mI N (tb i) 4 (N.1 (tb i) 4 - 1)) (tb i) 5 0) (tb i) 6 0) n us :=
      hU.t1 hi (sm_out tb22) (ti_out tb22 hI (q := e - 1) hpop (by omega) (by rw [← hke]; exact h0) h1)
    have s1 : Sm (gClear (gDrop G (tb i) (nI (e - 1))) (tb i)) (mI (mI (mI N (tb i) 4 (N.1 (tb i) 4 - 1)) (tb i) 5 0) (tb i) 6 0) n s := z_clr (z_drop h hi h4 he huq (by omega) hpop) hi
    unfold fCommitted
    dsimp only
    rw [h6, nn_nI (by omega)]
    by_cases hw0 : w = 0
    · rw [if_pos hw0, if_pos hw0]; exact s1
    · rw [if_neg hw0, if_neg hw0]
      have s2 := z_clock s1 hi
      have g05 : (gClear (gDrop G (tb i) (nI (e - 1))) (tb i)).1 0 = G.1 0 := by rw [gClear_n z0k, gDrop_n z00]
      have n04 : (mI (mI (mI N (tb i) 4 (N.1 (tb i) 4 - 1)) (tb i) 5 0) (tb i) 6 0).1 0 = N.1 0 := by simp [mI_n, z00]
      rw [g05, n04, ← gClear_cnt, h.c.1] at s2
      have h17 : (mI (mI (mI (mI N (tb i) 4 (N.1 (tb i) 4 - 1)) (tb i) 5 0) (tb i) 6 0) 0 4 (N.1 0 4 + 1)).1 17 = N.1 17 := by
        rw [mI_n _ _ _ _ (by decide), mI_n _ _ _ _ (by unfold tb; omega), mI_n _ _ _ _ (by unfold tb; omega), mI_n _ _ _ _ (by unfold tb; omega)]
      have hU3 : IU (mI (mI (mI (mI N (tb i) 4 (N.1 (tb i) 4 - 1)) (tb i) 5 0) (tb i) 6 0) 0 4 (N.1 0 4 + 1)) n us := iu_cnt hM2 (by decide)
      have s3 := z_wr (wr := N.2 (tb i + 16)) (va := N.2 (tb i + 17)) (clk := N.1 0 4 + 1) s2 hU3.g3 hu w (fun q hq => by rw [h17]; exact hwr q hq) (fun q hq => (hva q hq).ok hu)
      have hU4 := iu_wr (wr := N.2 (tb i + 16)) (va := N.2 (tb i + 17)) (clk := N.1 0 4 + 1) hU3 w (fun q hq => by rw [h17]; exact hva q hq)
      rw [← gClear_wr] at s3
      rw [r16, r17, h.c.1]
      refine z_wakes (us := us) s3 hU4.1 hi ?_ hw (fun k hk => by rw [hU4.2, h17]; exact hwr k hk) ?_ n (Nat.le_refl n)
      · rw [gWr_1, mI_n _ _ _ _ z00.symm, gDrop_o (by decide) (by decide), r1, h1]; decide
      · rw [gWr_1, mI_n _ _ _ _ z0k.symm, gDrop_n (by omega), r16]
  · rw [if_neg (fun z9 => hv (hV.mp z9)), if_neg hv]
    unfold fAborted
    rw [h4, nn_nI (by omega), aIdx_eq hk h0 (tI.at huq hk h0)]
    exact z_abort h hi h4 he huq hk h1
