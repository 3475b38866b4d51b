/-! CLASS AND REFERENCE: throwing, committing -/
theorem sH_t {G G' N N' : vM} {us i : Nat} (h : sH G N us) (hG : sameK G G' (tb i)) (hN : sameT N N' (tb i)) : sH G' N' us := by
  have nx : ∀ x, x ≠ 0 → x < 30 → N'.1 x = N.1 x ∧ N'.2 x = N.2 x := fun x h0 hx => hN.1 x h0 (by unfold tb; omega)
  intro p hp
  rw [(hG.g0 (x := 17) (by decide) (by decide)).1, (hG.g0 (x := 15) (by decide) (by decide)).2, (hG.g0 (x := 16) (by decide) (by decide)).2, (nx 17 (by decide) (by decide)).1, (nx 15 (by decide) (by decide)).2, (nx 16 (by decide) (by decide)).2, (nx 19 (by decide) (by decide)).1]
  exact h p hp
theorem sR_4 {G N : vM} {b : Nat} {v : Int32} (h : sR G N b) : sR G (mI N b 4 v) b := by
  obtain ⟨h1, h2, h3, h4, h5, h6, h7, h8, h9, h10, h11, h12, h13, h14, h15, h16, h17⟩ := h
  simp [sR, mI, mL, mRI, mRL, va_up, upd, vp_updL, h1, h2, h3, h4, h5, h6, h7, h8, h9, h10, h11, h12, h13, h14, h15, h16, h17]
theorem z_throw {G0 N0 : vM} {n s us i : Nat} {code : Int32} (h0 : Sm G0 N0 n s) (hU : IU N0 n us) (hi : i < n) {E : Nat} (hE : E ≤ 24) : ∀ (e : Nat) (G N : vM), e ≤ E → (∀ j q, j < E → q < E → N.1 (tb i + 11) j = 0 → N.1 (tb i + 11) q = 0 → j = q) → (∀ k, k < nn (N.1 (tb i) 5) → vV us (N.1 17) (N.2 (tb i + 15) k)) → N.1 (tb i) 4 = nI e → N.1 (tb i) 0 = 1 → N.1 (tb i) 1 = 0 → sameK G0 G (tb i) → sameT N0 N (tb i) → sC G N → sR G N (tb i) → sA G N (tb i) E → Sm (gThrow (tb i) code e G) (fThrow (tb i) code e N) n s
  | 0, G, N, he, huq, hrd, h4, h1, hb, hG, hN, hc, hR, hA => by
    rw [gThrow, fThrow]
    exact h0.t hi (hG.trans sameK_fail) (hN.trans (sm_end tb22)) (sC_o hc gFail_0 fEnd_0) (sT_end hR (sA_13 hA hE))
  | e + 1, G, N, he, huq, hrd, h4, h1, hb, hG, hN, hc, hR, hA => by
    have hrow : G.1 (tb i + 11) = N.1 (tb i + 11) := by
      obtain ⟨r1, r2, r3, r4, r5, r6, r7, r8, r9, -⟩ := hR
      exact r9
    have hu := hU.us
    have hH : sH G N us := sH_t (h0.v hU).2 hG hN
    rw [gThrow, fThrow, hrow]
    by_cases q2 : N.1 (tb i + 11) e = 2
    · rw [if_pos q2, if_pos q2]
      exact z_reg (h0.t hi (hG.trans sameK_back) (hN.trans (sm_roll tb22)) (sC_o hc gBack_0 fRoll_0) (sT_roll hR hA huq (by omega) hE (fun _ => hb))) hi
    · rw [if_neg q2, if_neg q2]
      by_cases q0 : N.1 (tb i + 11) e = 0
      · rw [if_pos q0, if_pos q0]
        have hV := gV_iff hR hH hu hrd
        by_cases hv : fValid N (tb i)
        · rw [if_pos (hV.mpr hv), if_pos hv]
          refine z_throw h0 hU hi hE e _ _ (by omega) ?_ (fun k hk => ?_) (mI_s _ _ _ _) ?_ ?_ (hG.trans sameK_clear) (hN.trans (sm_out2 tb22)) ?_ (sR_4 (sR_clr hR)) ?_
          · rw [mI_n _ _ _ _ (by omega), mI_n _ _ _ _ (by omega), mI_n _ _ _ _ (by omega)]; exact huq
          · rw [mI_o _ _ _ _ (by decide), mI_o _ _ _ _ (by decide), mI_s] at hk
            exact absurd hk (Nat.not_lt_zero k)
          · rw [mI_o _ _ _ _ (by decide), mI_o _ _ _ _ (by decide), mI_o _ _ _ _ (by decide)]; exact h1
          · rw [mI_o _ _ _ _ (by decide), mI_o _ _ _ _ (by decide), mI_o _ _ _ _ (by decide)]; exact hb
          · exact sC_o hc (gClear_n z0k) (by simp [mI_n, z00])
          · unfold sA
            rw [mI_n _ _ _ _ (show tb i + 11 ≠ tb i by omega), mI_n _ _ _ _ (show tb i + 11 ≠ tb i by omega), mI_n _ _ _ _ (show tb i + 11 ≠ tb i by omega), gClear_n (show tb i ≠ tb i + 18 by omega)]
            exact hA
        · rw [if_neg (fun z9 => hv (hV.mp z9)), if_neg hv]
          unfold fAborted gAbort
          rw [h4, nn_nI (by omega), aIdx_eq (Nat.lt_succ_self e) q0 (fun j hj z9 => absurd (huq j e (by omega) (by omega) z9 q0) (by omega)), hc.1]
          have e1 : ∀ c, c ≠ 0 → (mI N 0 5 (N.1 0 5 + 1)).1 c = N.1 c := fun c hc => mI_n _ _ _ _ hc
          have hR' : sR (mI G 0 6 (G.1 0 6 + 1)) (mI N 0 5 (N.1 0 5 + 1)) (tb i) := sR_cong hR (fun k _ => ⟨mI_n _ _ _ _ z0k.symm, rfl⟩) (fun k _ => ⟨mI_n _ _ _ _ z0k.symm, rfl⟩)
          have hA' : sA (mI G 0 6 (G.1 0 6 + 1)) (mI N 0 5 (N.1 0 5 + 1)) (tb i) E := by
            unfold sA
            rw [e1 _ z0k.symm, mI_n _ _ _ _ z00.symm]; exact hA
          refine h0.t hi ((hG.trans sameK_c).trans sameK_again) ((hN.trans (sameT.cnt (by decide))).trans (sm_again tb22)) ?_ (sT_again hR' hA' (by rw [e1 _ z0k.symm]; exact huq) (by omega) hE (by rw [e1 _ z00.symm]; exact h1) (by rw [e1 _ z00.symm]; exact hb))
          refine sC_o (G := mI G 0 6 (G.1 0 6 + 1)) (N := mI N 0 5 (N.1 0 5 + 1)) ?_ gAgain_0 fAgain_0
          obtain ⟨c1, c2, c3, c4⟩ := hc
          simp [sC, mI, mL, mRI, mRL, va_up, upd, vp_updL, c1, c2, c3, c4]
      · rw [if_neg q0, if_neg q0]
        refine z_throw h0 hU hi hE e _ _ (by omega) ?_ (fun k hk => ?_) (mI_s _ _ _ _) ?_ ?_ hG (hN.trans (sm_pop tb22)) ?_ (sR_4 hR) ?_
        · rw [mI_n _ _ _ _ (by omega)]; exact huq
        · rw [mI_o _ _ _ _ (by decide)] at hk
          rw [mI_n _ _ _ _ (by unfold tb; omega)]
          exact hrd k hk
        · rw [mI_o _ _ _ _ (by decide)]; exact h1
        · rw [mI_o _ _ _ _ (by decide)]; exact hb
        · exact sC_o hc rfl (by simp [mI_n, z00])
        · unfold sA
          rw [mI_n _ _ _ _ (show tb i + 11 ≠ tb i by omega)]
          exact hA
/-! committing -/
theorem mI_comm {M : vM} {c d k q : Nat} {v w : Int32} (h : c ≠ d) : mI (mI M c k v) d q w = mI (mI M d q w) c k v := by
  refine Prod.ext (funext fun x => ?_) rfl
  by_cases h1 : x = d
  · subst h1
    rw [mI_r, mI_n _ _ _ _ (Ne.symm h), mI_n _ _ _ _ (Ne.symm h), mI_r]
  · by_cases h2 : x = c
    · subst h2
      rw [mI_n _ _ _ _ h, mI_r, mI_r, mI_n _ _ _ _ h]
    · rw [mI_n _ _ _ _ h1, mI_n _ _ _ _ h2, mI_n _ _ _ _ h2, mI_n _ _ _ _ h1]
theorem gDrop_comm {M : vM} {b c k : Nat} {v q : Int32} (h : c ≠ b) : gDrop (mI M c k v) b q = mI (gDrop M b q) c k v := by
  unfold gDrop
  rw [mI_n _ _ _ _ (Ne.symm h)]
  split
  · rw [mI_comm h, mI_comm h]
  · rw [mI_comm h]
theorem gRest_comm {M : vM} {b c k q : Nat} {v : Int32} (h : c ≠ b) (h2 : c ≠ b + 12) (h3 : c ≠ b + 13) : gRest (mI M c k v) b q = mI (gRest M b q) c k v := by
  unfold gRest
  rw [mI_n _ _ _ _ (Ne.symm h2), mI_n _ _ _ _ (Ne.symm h3), mI_comm h, mI_comm h]
  rfl
theorem gBegin_comm {M : vM} {b c k : Nat} {v q : Int32} (h : c ≠ b + 18) : gBegin (mI M c k v) b q = mI (gBegin M b q) c k v := by
  unfold gBegin
  rw [mI_comm h, mI_comm h, mI_comm h]
theorem gAgain_comm {M : vM} {b c k q : Nat} {v w : Int32} (h : c ≠ b) (h2 : c ≠ b + 12) (h3 : c ≠ b + 13) (h8 : c ≠ b + 18) : gAgain (mI M c k v) b q w = mI (gAgain M b q w) c k v := by
  unfold gAgain
  rw [gRest_comm h h2 h3, gDrop_comm h, gBegin_comm h8]
theorem gClear_wake {M : vM} {i j k : Nat} {c : Int32} (h : i ≠ j) : gClear (gAgain (mI M (tb j) 8 1) (tb j) k c) (tb i) = gAgain (mI (gClear M (tb i)) (tb j) 8 1) (tb j) k c := by
  have n1 : tb i + 18 ≠ tb j := by unfold tb; omega
  have n2 : tb i + 18 ≠ tb j + 12 := by unfold tb; omega
  have n3 : tb i + 18 ≠ tb j + 13 := by unfold tb; omega
  have n4 : tb i + 18 ≠ tb j + 18 := by unfold tb; omega
  unfold gClear
  rw [← gAgain_comm n1 n2 n3 n4, ← gAgain_comm n1 n2 n3 n4, mI_comm n1.symm, mI_comm n1.symm]
theorem gClear_wr {p : Nat → Int32} {va : Nat → Int64} {clk : Int32} {M : vM} {b : Nat} : ∀ {k : Nat}, gClear (gWr p va clk k M) b = gWr p va clk k (gClear M b)
  | 0 => rfl
  | k + 1 => by
    rw [gWr, gWr, ← gClear_wr (k := k)]; rfl
theorem gClear_cnt {M : vM} {i k : Nat} {v : Int32} : gClear (mI M 0 k v) (tb i) = mI (gClear M (tb i)) 0 k v := by
  unfold gClear
  rw [mI_comm z0k, mI_comm z0k]
