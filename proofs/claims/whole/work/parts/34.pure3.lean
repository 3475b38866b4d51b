/-! THE INVARIANT IS KEPT: instructions -/
theorem IU.t1 {M M' : vM} {n us i ca e r w : Nat} (h : IU M n us) (hi : i < n) (hs : sameT M M' (tb i)) (ht : tI M' us (tb i) ca e r w) : IU M' n us :=
  h.t hi hs (fun _ _ _ _ _ => ⟨ca, e, r, w, ht⟩)
theorem isI_i (x : Int32) : isI x.toInt64 := by
  unfold isI
  rw [Int64.lt_iff_toInt_lt, Int32.toInt_toInt64]
  have h1 := x.toInt_lt
  have h2 : (8589934592 : Int64).toInt = 8589934592 := by decide
  omega
theorem vO_i {us : Nat} {pr : Nat → Int32} (x : Int32) : vO us pr x.toInt64 := Or.inl (isI_i x)
theorem vO_0 {us : Nat} {pr : Nat → Int32} : vO us pr 0 := Or.inl isI_0
theorem vO_1 {us : Nat} {pr : Nat → Int32} : vO us pr 1 := Or.inl (by unfold isI; decide)
theorem vO_2 {us : Nat} {pr : Nat → Int32} : vO us pr 2 := Or.inl (by unfold isI; decide)
theorem vO_m1 {us : Nat} {pr : Nat → Int32} : vO us pr (-1) := Or.inl (by unfold isI; decide)
theorem fIn_at {M : vM} {us b ca e r w : Nat} (hI : tI M us b ca e r w) (h : fIn M b) : ∃ k, k < e ∧ M.1 (b + 11) k = 0 ∧ aIdx (M.1 (b + 11)) (nn (M.1 b 4)) = k := by
  obtain ⟨h3, hca, h4, he, h5, hr, h6, hw, hso, huq, hct, hctm, hwt, hwtm, hwt0, hpk, hst, hem, hov, hrg, hsv, hrd, hwr, hva⟩ := hI
  obtain ⟨k, hk, h0⟩ := h
  rw [h4, nn_nI (by omega)] at hk
  refine ⟨k, hk, h0, ?_⟩
  rw [h4, nn_nI (by omega)]
  exact aIdx_eq hk h0 (tI.at huq hk h0)
theorem iu_aborted {M : vM} {n us i : Nat} (h : IU M n us) (hi : i < n) (hin : fIn M (tb i)) : IU (fAborted M (tb i)) n us := by
  obtain ⟨ca, e, r, w, hI⟩ := h.at hi
  obtain ⟨k, hk, h0, hix⟩ := fIn_at hI hin
  unfold fAborted
  rw [hix]
  refine (iu_cnt (k := 5) (v := M.1 0 5 + 1) h (by decide)).t1 hi (sm_again tb22) (ti_again tb22 (ti_cnt0 tb22 hI) hk ?_)
  rw [mI_n _ _ _ _ (by unfold tb; omega)]; exact h0
theorem lastW_lt {f : Nat → Int64} {v : Int64} {k : Nat} : ∀ {e : Nat}, lastW f e v = some k → k < e
  | 0, h => by rw [lastW] at h; cases h
  | e + 1, h => by
    rw [lastW] at h
    split at h
    · cases h; exact Nat.lt_succ_self _
    · exact Nat.lt_succ_of_lt (lastW_lt h)
theorem vV.pl {us : Nat} {pr : Nat → Int32} {v : Int64} (h : vV us pr v) (hu : us ≤ 200) : pl v < us ∧ pr (pl v) = 0 ∧ v = 17179869184 + lN (pl v) := by
  obtain ⟨p, hp, hpr, rfl⟩ := h
  rw [pl_var (by omega)]; exact ⟨hp, hpr, rfl⟩
theorem IU.cell {M : vM} {n us p : Nat} (h : IU M n us) (hp : p < us) : vO us (M.1 17) (M.2 15 p) ∧ vO us (M.1 17) (M.2 16 p) := by
  obtain ⟨sz, pd, hg, hts⟩ := h
  exact hg.2.2.2.2.2.2.2.2.2.2.1 p hp
theorem IU.glo {M : vM} {n us k : Nat} (h : IU M n us) (hk : k < 8) : vO us (M.1 17) (M.2 14 k) := by
  obtain ⟨sz, pd, hg, hts⟩ := h
  exact hg.2.2.2.2.2.2.2.2.2.2.2.2 k hk
theorem iu_reading {M : vM} {n us i x : Nat} {v : Int64} (h : IU M n us) (hi : i < n) (hin : fIn M (tb i)) (hv : vV us (M.1 17) v) : IU (fReading M (tb i) x v).1 n us := by
  obtain ⟨ca, e, r, w, hI⟩ := h.at hi
  obtain ⟨h3, hca, h4, he, h5, hr, h6, hw, hso, huq, hct, hctm, hwt, hwtm, hwt0, hpk, hst, hem, hov, hrg, hsv, hrd, hwr, hva⟩ := id hI
  have hp := (hv.pl h.us).1
  unfold fReading
  split
  next k hk =>
    have hk' := lastW_lt hk
    rw [h6, nn_nI (by omega)] at hk'
    exact iu_reg h hi (hva k hk')
  next hk =>
    split
    · exact iu_aborted h hi hin
    · split
      · exact iu_reg h hi (h.cell hp).1
      · split
        · exact h
        next hn =>
          obtain ⟨k, hk9, h0, -⟩ := fIn_at hI hin
          have hr4 : r ≠ 40 := fun z9 => hn (by rw [h5, z9]; rfl)
          have h' : IU (mI (mL M (tb i + 15) (nn (M.1 (tb i) 5)) v) (tb i) 5 (M.1 (tb i) 5 + 1)) n us :=
            h.t1 hi (sm_read tb22) (ti_read tb22 hI (by rw [h5, nn_nI (by omega)]) (by rw [h5, nI_1]) (by omega) hv ⟨k, hk9, h0⟩)
          refine iu_reg h' hi ?_
          rw [show (mI (mL M (tb i + 15) (nn (M.1 (tb i) 5)) v) (tb i) 5 (M.1 (tb i) 5 + 1)).1 17 = M.1 17 from mI_n _ _ _ _ (by unfold tb; omega)]
          exact (h.cell hp).1
theorem IU.far {M M' : vM} {n us : Nat} (h : IU M n us) (hr : ∀ x, 22 ≤ x → M'.1 x = M.1 x ∧ M'.2 x = M.2 x) (h17 : M'.1 17 = M.1 17) (hg : ∀ sz pd, gI M n sz us pd → ∃ sz pd, gI M' n sz us pd) : IU M' n us := by
  obtain ⟨sz, pd, hg1, hts⟩ := h
  obtain ⟨sz2, pd2, hg2⟩ := hg sz pd hg1
  refine ⟨sz2, pd2, hg2, fun j hj => ?_⟩
  obtain ⟨ca, e, r, w, q⟩ := hts j hj
  refine ⟨ca, e, r, w, ?_⟩
  have hb : 22 ≤ tb j := tb22
  rw [tI_C] at q ⊢
  rw [(hr (tb j) hb).1, (hr (tb j + 11) (by omega)).1, (hr (tb j + 13) (by omega)).1, (hr (tb j + 14) (by omega)).1, (hr (tb j + 8) (by omega)).2, (hr (tb j + 9) (by omega)).2, (hr (tb j + 15) (by omega)).2, (hr (tb j + 16) (by omega)).2, (hr (tb j + 17) (by omega)).2, h17]
  exact q
theorem iu_19 {M : vM} {n us p : Nat} {v : Int32} (h : IU M n us) : IU (mI M 19 p v) n us := by
  refine h.far (fun x hx => ⟨mI_n _ _ _ _ (by omega), rfl⟩) (mI_n _ _ _ _ (by decide)) (fun sz pd hg => ⟨sz, pd, ?_⟩)
  unfold gI
  rw [mI_n _ _ _ _ (by decide : (0 : Nat) ≠ 19), mI_n _ _ _ _ (by decide : (17 : Nat) ≠ 19)]
  exact hg
theorem iu_15 {M : vM} {n us p : Nat} {v : Int64} (h : IU M n us) (hv : vO us (M.1 17) v) (hpr : vO us (M.1 17) v) : IU (mL M 15 p v) n us := by
  refine h.far (fun x hx => ⟨rfl, mL_n _ _ _ _ (by omega)⟩) rfl (fun sz pd hg => ⟨sz, pd, ?_⟩)
  obtain ⟨hsz, hsz2, hn2, hn1, hn16, hus, hus2, hpd, hpd2, h17, hfs, hvi, hgl⟩ := hg
  refine ⟨hsz, hsz2, hn2, hn1, hn16, hus, hus2, hpd, hpd2, h17, fun q hq => ⟨?_, ?_⟩, fun q hq => ?_, fun q hq => ?_⟩
  · rw [mL_r]
    by_cases hqp : q = p
    · subst hqp; rw [pk_uLs]; exact hv
    · rw [pk_uLn hqp]; exact (hfs q hq).1
  · rw [mL_n _ _ _ _ (by decide)]; exact (hfs q hq).2
  · rw [mL_n _ _ _ _ (by decide)]; exact hvi q hq
  · rw [mL_n _ _ _ _ (by decide)]; exact hgl q hq
theorem iu_14 {M : vM} {n us p : Nat} {v : Int64} (h : IU M n us) (hv : vO us (M.1 17) v) : IU (mL M 14 p v) n us := by
  refine h.far (fun x hx => ⟨rfl, mL_n _ _ _ _ (by omega)⟩) rfl (fun sz pd hg => ⟨sz, pd, ?_⟩)
  obtain ⟨hsz, hsz2, hn2, hn1, hn16, hus, hus2, hpd, hpd2, h17, hfs, hvi, hgl⟩ := hg
  refine ⟨hsz, hsz2, hn2, hn1, hn16, hus, hus2, hpd, hpd2, h17, fun q hq => ⟨?_, ?_⟩, fun q hq => ?_, fun q hq => ?_⟩
  · rw [mL_n _ _ _ _ (by decide)]; exact (hfs q hq).1
  · rw [mL_n _ _ _ _ (by decide)]; exact (hfs q hq).2
  · rw [mL_n _ _ _ _ (by decide)]; exact hvi q hq
  · rw [mL_r]
    by_cases hqp : q = p
    · subst hqp; rw [pk_uLs]; exact hv
    · rw [pk_uLn hqp]; exact hgl q hq
theorem iu_print {M : vM} {n us : Nat} {v : Int32} (h : IU M n us) : IU (fPrint M v) n us := by
  refine h.far (fun x hx => ?_) ?_ (fun sz pd hg => ?_)
  · unfold fPrint
    split
    · exact ⟨by rw [mI_n _ _ _ _ (by omega), mI_n _ _ _ _ (by omega), mI_n _ _ _ _ (by omega), mRI_n _ _ _ (by omega)], rfl⟩
    · exact ⟨by rw [mI_n _ _ _ _ (by omega), mI_n _ _ _ _ (by omega)], rfl⟩
  · unfold fPrint
    split
    · rw [mI_n _ _ _ _ (by decide), mI_n _ _ _ _ (by decide), mI_n _ _ _ _ (by decide), mRI_n _ _ _ (by decide)]
    · rw [mI_n _ _ _ _ (by decide), mI_n _ _ _ _ (by decide)]
  · obtain ⟨hsz, hsz2, hn2, hn1, hn16, hus, hus2, hpd, hpd2, h17, hfs, hvi, hgl⟩ := hg
    unfold fPrint
    split
    · refine ⟨sz, 200, ?_⟩
      have e17 : ∀ (M0 : vM), (mI (mI (mI (mRI M0 21 (fun k => if k < 199 then M0.1 21 (k + 1) else M0.1 21 k)) 0 8 199) 21 199 v) 0 8 200).1 17 = M0.1 17 := fun M0 => by
        rw [mI_n _ _ _ _ (by decide), mI_n _ _ _ _ (by decide), mI_n _ _ _ _ (by decide), mRI_n _ _ _ (by decide)]
      have e0 : ∀ (M0 : vM) (k : Nat), k ≠ 8 → (mI (mI (mI (mRI M0 21 (fun k => if k < 199 then M0.1 21 (k + 1) else M0.1 21 k)) 0 8 199) 21 199 v) 0 8 200).1 0 k = M0.1 0 k := fun M0 k hk => by
        rw [mI_o _ _ _ _ hk, mI_n _ _ _ _ (by decide), mI_o _ _ _ _ hk, mRI_n _ _ _ (by decide)]
      unfold gI
      rw [e17, e0 _ _ (by decide), e0 _ _ (by decide), e0 _ _ (by decide), mI_s]
      exact ⟨hsz, hsz2, hn2, hn1, hn16, hus, hus2, rfl, Nat.le_refl _, h17, hfs, hvi, hgl⟩
    next hne =>
      refine ⟨sz, pd + 1, ?_⟩
      have hne' : pd ≠ 200 := fun z9 => hne (by rw [hpd, z9]; rfl)
      unfold gI
      rw [mI_n _ _ _ _ (by decide : (17 : Nat) ≠ 0), mI_n _ _ _ _ (by decide : (17 : Nat) ≠ 21), mI_o _ _ _ _ (by decide), mI_o _ _ _ _ (by decide), mI_o _ _ _ _ (by decide), mI_s, mI_n _ _ _ _ (by decide : (0 : Nat) ≠ 21), hpd, nI_1]
      exact ⟨hsz, hsz2, hn2, hn1, hn16, hus, hus2, rfl, by omega, h17, hfs, hvi, hgl⟩
theorem iu_wr {M : vM} {n us : Nat} {wr va : Nat → Int64} {clk : Int32} (h : IU M n us) : ∀ k, (∀ q, q < k → vO us (M.1 17) (va q)) → IU (fWr wr va clk k M) n us ∧ (fWr wr va clk k M).1 17 = M.1 17
  | 0, _ => ⟨h, rfl⟩
  | k + 1, hv => by
    obtain ⟨h1, h2⟩ := iu_wr (wr := wr) (clk := clk) h k (fun q hq => hv q (by omega))
    refine ⟨?_, ?_⟩
    · rw [fWr]
      have hx : vO us ((fWr wr va clk k M).1 17) (va k) := by rw [h2]; exact hv k (Nat.lt_succ_self k)
      exact iu_19 (iu_15 h1 hx hx)
    · rw [fWr, mI_n _ _ _ _ (by decide)]; exact h2
theorem iu_wake {M : vM} {n us i nw : Nat} {wr : Nat → Int64} (h : IU M n us) (hi : i < n) : IU (fWake M (tb i) wr nw) n us := by
  unfold fWake
  split
  next hc =>
    obtain ⟨ca, e, r, w, hI⟩ := h.at hi
    obtain ⟨h3, hca, h4, he, h5, hr, h6, hw, hso, huq, hct, hctm, hwt, hwtm, hwt0, hpk, hst, hem, hov, hrg, hsv, hrd, hwr, hva⟩ := id hI
    obtain ⟨k0, hk0, h00⟩ := hpk hc.1
    obtain ⟨k, hk, h0, hix⟩ := fIn_at hI ⟨k0, by rw [h4, nn_nI (by omega)]; exact hk0, h00⟩
    rw [hix]
    exact h.t1 hi (sm_again tb22) (ti_again tb22 hI hk h0)
  · exact h
theorem iu_wakes {M : vM} {n us nw : Nat} {wr : Nat → Int64} (h : IU M n us) : ∀ q, q ≤ n → IU (fWakes wr nw q M) n us
  | 0, _ => h
  | q + 1, hq => iu_wake (iu_wakes h q (by omega)) (by omega)
theorem iu_committed {M : vM} {n us i : Nat} (h : IU M n us) (hi : i < n) (hin : fIn M (tb i)) (h1 : M.1 (tb i) 0 = 1) (h0 : M.1 (tb i + 11) (nn (M.1 (tb i) 4) - 1) = 0) : IU (fCommitted M n (tb i)) n us := by
  obtain ⟨ca, e, r, w, hI⟩ := h.at hi
  obtain ⟨h3, hca, h4, he, h5, hr, h6, hw, hso, huq, hct, hctm, hwt, hwtm, hwt0, hpk, hst, hem, hov, hrg, hsv, hrd, hwr, hva⟩ := id hI
  obtain ⟨k, hk, -, -⟩ := fIn_at hI hin
  rw [h4, nn_nI (by omega)] at h0
  have hM2 : IU (mI (mI (mI M (tb i) 4 (M.1 (tb i) 4 - 1)) (tb i) 5 0) (tb i) 6 0) n us :=
    h.t1 hi (sm_out tb22) (ti_out tb22 hI (q := e - 1) (by rw [h4]; obtain ⟨e1, rfl⟩ : ∃ e1, e = e1 + 1 := ⟨e - 1, by omega⟩; rw [nI_pred]; rfl) (by omega) h0 h1)
  unfold fCommitted
  dsimp only
  split
  · exact hM2
  · have h17 : (mI (mI (mI (mI M (tb i) 4 (M.1 (tb i) 4 - 1)) (tb i) 5 0) (tb i) 6 0) 0 4 (M.1 0 4 + 1)).1 17 = M.1 17 := by
      rw [mI_n _ _ _ _ (by decide), mI_n _ _ _ _ (by unfold tb; omega), mI_n _ _ _ _ (by unfold tb; omega), mI_n _ _ _ _ (by unfold tb; omega)]
    refine iu_wakes (iu_wr (iu_cnt hM2 (by decide)) _ (fun q hq => ?_)).1 n (Nat.le_refl n)
    rw [h17]
    rw [h6, nn_nI (by omega)] at hq
    exact hva q hq
theorem topN_ge {s : Nat → Int32} {a : Nat} (h : s a ≠ 2) : ∀ {e : Nat}, a < e → topN s e < e ∧ a ≤ topN s e ∧ s (topN s e) ≠ 2
  | 0, h0 => absurd h0 (Nat.not_lt_zero a)
  | e + 1, h0 => by
    rw [topN]
    by_cases h2 : s e = 2
    · rw [if_pos h2]
      have hae : a < e := by
        rcases Nat.lt_succ_iff_lt_or_eq.mp h0 with y9 | y9
        · exact y9
        · rw [y9] at h; exact absurd h2 h
      obtain ⟨q1, q2, q3⟩ := topN_ge h hae
      exact ⟨by omega, q2, q3⟩
    · rw [if_neg h2]
      exact ⟨by omega, by omega, h2⟩
theorem iu_retried {M : vM} {n us i : Nat} (h : IU M n us) (hi : i < n) (hin : fIn M (tb i)) (h1 : M.1 (tb i) 0 = 1) : IU (fRetried M (tb i)) n us := by
  obtain ⟨ca, e, r, w, hI⟩ := h.at hi
  obtain ⟨h3, hca, h4, he, h5, hr, h6, hw, hso, huq, hct, hctm, hwt, hwtm, hwt0, hpk, hst, hem, hov, hrg, hsv, hrd, hwr, hva⟩ := id hI
  obtain ⟨a, ha, ha0, -⟩ := fIn_at hI hin
  unfold fRetried
  dsimp only
  rw [h4, nn_nI (by omega)]
  obtain ⟨q1, q2, q3⟩ := topN_ge (s := M.1 (tb i + 11)) (a := a) (by rw [ha0]; decide) ha
  split
  next hk1 =>
    have hak : a < topN (M.1 (tb i + 11)) e := by
      rcases Nat.lt_or_eq_of_le q2 with y9 | y9
      · exact y9
      · rw [← y9, ha0] at hk1; exact absurd hk1 (by decide)
    exact h.t1 hi (sm_roll tb22) (ti_roll tb22 hI q1 (fun z9 => absurd ha0 (z9 a hak)) h1)
  · split
    · exact h.t1 hi (sm_park tb22) (ti_park tb22 hI ⟨a, ha, ha0⟩)
    · exact iu_aborted h hi hin
theorem iu_throw {n us i : Nat} {code : Int32} (hi : i < n) : ∀ (e : Nat) (M : vM) (ca r w : Nat), IU M n us → M.1 (tb i) 0 = 1 → tI M us (tb i) ca e r w → IU (fThrow (tb i) code e M) n us
  | 0, M, ca, r, w, h, h1, hI => by
    rw [fThrow]; exact iu_end h hi (Or.inr rfl)
  | e + 1, M, ca, r, w, h, h1, hI => by
    obtain ⟨h3, hca, h4, he, h5, hr, h6, hw, hso, huq, hct, hctm, hwt, hwtm, hwt0, hpk, hst, hem, hov, hrg, hsv, hrd, hwr, hva⟩ := id hI
    rw [fThrow]
    split
    next h2 =>
      have h' : IU (fRollBack M (tb i) e) n us := h.t1 hi (sm_roll tb22) (ti_roll tb22 hI (Nat.lt_succ_self e) (fun z9 => by
        have hh := hem (fun k hk => by
          rcases Nat.lt_succ_iff_lt_or_eq.mp hk with y9 | rfl
          · exact z9 k y9
          · rw [h2]; decide)
        have := (hwt e (Nat.lt_succ_self e)).2
        exact ⟨hh.1, by omega⟩) h1)
      exact iu_reg h' hi (vO_i code)
    · split
      next h0 =>
        have hin : fIn M (tb i) := ⟨e, by rw [h4, nn_nI (by omega)]; exact Nat.lt_succ_self e, h0⟩
        split
        · refine iu_throw hi e _ _ _ _ (h.t1 hi (sm_out2 tb22) (ti_out2 tb22 hI rfl (Nat.lt_succ_self e) h0 h1)) ?_ (ti_out2 tb22 hI rfl (Nat.lt_succ_self e) h0 h1)
          rw [mI_o _ _ _ _ (by decide), mI_o _ _ _ _ (by decide), mI_o _ _ _ _ (by decide)]; exact h1
        · exact iu_aborted h hi hin
      next hn0 =>
        refine iu_throw hi e _ _ _ _ (h.t1 hi (sm_pop tb22) (ti_pop tb22 hI rfl rfl hn0 h1)) ?_ (ti_pop tb22 hI rfl rfl hn0 h1)
        rw [mI_o _ _ _ _ (by decide)]; exact h1
