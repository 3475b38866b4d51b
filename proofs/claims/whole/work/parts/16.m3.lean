/-! COMMITTING (reference) -/
theorem fRestore_1 {M : vM} {b k x : Nat} (h : x ≠ b) : (fRestore M b k).1 x = M.1 x := mI_n _ _ _ _ h
theorem fRestore_2 {M : vM} {b k x : Nat} (h : x ≠ b + 8) : (fRestore M b k).2 x = M.2 x := mRL_n _ _ _ h
theorem fAgain_1 {M : vM} {b k x : Nat} {c : Int32} (h : x ≠ b) : (fAgain M b k c).1 x = M.1 x := by
  unfold fAgain
  rw [mI_n _ _ _ _ h, mI_n _ _ _ _ h, mI_n _ _ _ _ h, mI_n _ _ _ _ h, mI_n _ _ _ _ h, mI_n _ _ _ _ h, fRestore_1 h]
theorem fAgain_2 {M : vM} {b k x : Nat} {c : Int32} (h : x ≠ b + 8) : (fAgain M b k c).2 x = M.2 x := by
  show (fRestore M b k).2 x = _
  exact fRestore_2 h
theorem fWake_1 {M : vM} {b x nw : Nat} {wr : Nat → Int64} (h : x ≠ b) : (fWake M b wr nw).1 x = M.1 x := by
  unfold fWake
  split
  · exact fAgain_1 h
  · rfl
theorem fWake_2 {M : vM} {b x nw : Nat} {wr : Nat → Int64} (h : x ≠ b + 8) : (fWake M b wr nw).2 x = M.2 x := by
  unfold fWake
  split
  · exact fAgain_2 h
  · rfl
theorem fWakes_1 {M : vM} {x nw : Nat} {wr : Nat → Int64} : ∀ {q : Nat}, (∀ j, j < q → x ≠ tb j) → (fWakes wr nw q M).1 x = M.1 x
  | 0, _ => rfl
  | q + 1, h => (fWake_1 (h q (Nat.lt_succ_self q))).trans (fWakes_1 (fun j hj => h j (Nat.lt_succ_of_lt hj)))
theorem fWakes_2 {M : vM} {x nw : Nat} {wr : Nat → Int64} : ∀ {q : Nat}, (∀ j, j < q → x ≠ tb j + 8) → (fWakes wr nw q M).2 x = M.2 x
  | 0, _ => rfl
  | q + 1, h => (fWake_2 (h q (Nat.lt_succ_self q))).trans (fWakes_2 (fun j hj => h j (Nat.lt_succ_of_lt hj)))
theorem fWr_1 {M : vM} {x : Nat} {wr va : Nat → Int64} {c : Int32} (h : x ≠ 19) : ∀ {k : Nat}, (fWr wr va c k M).1 x = M.1 x
  | 0 => rfl
  | k + 1 => (mI_n _ _ _ _ h).trans (fWr_1 h (k := k))
theorem fWr_2 {M : vM} {x : Nat} {wr va : Nat → Int64} {c : Int32} (h : x ≠ 15) : ∀ {k : Nat}, (fWr wr va c k M).2 x = M.2 x
  | 0 => rfl
  | k + 1 => (mL_n _ _ _ _ h).trans (fWr_2 h (k := k))
theorem aIn_bP {f : Nat → Int64} {e : Nat} {v : Int64} {r : Int32} (h : aIn f e v r) : r = bP (∃ k, k < e ∧ f k = v) := by
  rcases h with ⟨rfl, h⟩ | ⟨rfl, h⟩
  · rw [bP_t h]
  · rw [bP_f (fun z9 => by obtain ⟨k, h1, h2⟩ := z9; exact h k h1 h2)]
theorem bP_or (a b : Prop) : bP a ||| bP b = bP (a ∨ b) := by
  by_cases ha : a
  · by_cases hb : b
    · rw [bP_t ha, bP_t hb, bP_t (Or.inl ha)]; decide
    · rw [bP_t ha, bP_f hb, bP_t (Or.inl ha)]; decide
  · by_cases hb : b
    · rw [bP_f ha, bP_t hb, bP_t (Or.inr hb)]; decide
    · rw [bP_f ha, bP_f hb, bP_f (fun z9 => z9.elim ha hb)]; decide
/-- a task that waits can run again: its atomic nest -/
def canWake (M : vM) (b : Nat) : Prop := ∃ e r k, M.1 b 4 = nI e ∧ e ≤ 24 ∧ M.1 b 5 = nI r ∧ r ≤ 40 ∧ k < e ∧ M.1 (b + 11) k = 0 ∧ ∀ j, j < k → M.1 (b + 11) j ≠ 0
set_option maxHeartbeats 4000000 in
set_option maxRecDepth 100000 in
/-- committed(t) -/
theorem c_X9_committed {l : Launch} {D : va_G} {Y : Nat → ClassId} {z : Nat → Nat} {n : Nat} {ad : Nat → Nat} {M : vM} {i nw : Nat} (hi : i < n) (hn16 : n ≤ 16) (hn : M.1 0 2 = nI n) (hnw : M.1 (tb i) 6 = nI nw) (hw40 : nw ≤ 40) (hpw : ∀ k, k < nw → plOk (M.2 (tb i + 16) k)) (hst1 : M.1 (tb i) 0 = 1) (hwake : ∀ q, q < n → M.1 (tb q) 0 = 2 → canWake M (tb q)) : Ct l D Y z yX9_committed cX9_committed 7 (some FieldType.int) 2 44 [.ref (ad (0)), .ref (ad (tb i))] (wM Y n ad M) 0 0 (fun r w => r = some (.int 0) ∧ w = wM Y n ad (fCommitted M n (tb i))) := by
  refine v_entry (by decide +kernel) (Nat.le_of_ble_eq_true rfl) ?_
  intro K X R hR hnm hl hD hY hz
  subst hl hD hY hz
  refine v_sub (lv' := [(0, .ref (ad (0))), (1, .ref (ad (tb i)))]) [0, 1] rfl ?_
  refine v_aload_n (pc' := 1) (i := 1) (j := 1) X dX9_committed_0 rfl rfl rfl ?_
  refine v_dup (pc' := 2) X dX9_committed_1 rfl rfl ?_
  refine fg_X9_121 (pc' := 5) X hi (v := M.1 (tb i) 4) rfl dX9_committed_2 rfl ?_
  refine v_iconst (pc' := 6) (v := 1) X dX9_committed_5 (by decide) rfl ?_
  refine v_isub (pc' := 7) X dX9_committed_6 rfl ?_
  refine fp_X9_121 (pc' := 10) X hi dX9_committed_7 rfl ?_
  refine v_aload_n (pc' := 11) (i := 1) (j := 1) X dX9_committed_10 rfl rfl rfl ?_
  refine fg_X9_172 (pc' := 14) X hi (v := nI nw) ((mI_o _ _ _ _ (by decide)).trans hnw) dX9_committed_11 rfl ?_
  refine v_istore_n (pc' := 15) (i := 2) (lv' := [(2, .int (nI nw)), (0, .ref (ad (0))), (1, .ref (ad (tb i)))]) X dX9_committed_14 rfl (by decide) rfl rfl ?_
  refine v_aload_n (pc' := 16) (i := 1) (j := 2) X dX9_committed_15 rfl rfl rfl ?_
  refine v_iconst (pc' := 17) (v := 0) X dX9_committed_16 (by decide) rfl ?_
  refine fp_X9_149 (pc' := 20) X hi dX9_committed_17 rfl ?_
  refine v_aload_n (pc' := 21) (i := 1) (j := 2) X dX9_committed_20 rfl rfl rfl ?_
  refine v_iconst (pc' := 22) (v := 0) X dX9_committed_21 (by decide) rfl ?_
  refine fp_X9_172 (pc' := 25) X hi dX9_committed_22 rfl ?_
  refine v_iload_n (pc' := 26) (i := 2) (j := 0) X dX9_committed_25 rfl rfl rfl ?_
  refine v_if_ne (pc' := 29) (tgt := 31) X dX9_committed_26 (by decide) rfl (fun hc_26 => ?_) (fun hc_26 => ?_)
  -- taken 26
  · refine v_aload_n (pc' := 32) (i := 0) (j := 1) X dX9_committed_31 rfl rfl rfl ?_
    refine v_dup (pc' := 33) X dX9_committed_32 rfl rfl ?_
    refine fg_X9_161 (pc' := 36) X (v := M.1 0 4) ((congrFun (mI_n _ _ _ _ (by unfold tb; omega)) _).trans ((congrFun (mI_n _ _ _ _ (by unfold tb; omega)) _).trans (congrFun (mI_n _ _ _ _ (by unfold tb; omega)) _))) dX9_committed_33 rfl ?_
    refine v_iconst (pc' := 37) (v := 1) X dX9_committed_36 (by decide) rfl ?_
    refine v_iadd (pc' := 38) X dX9_committed_37 rfl ?_
    refine fp_X9_161 (pc' := 41) X dX9_committed_38 rfl ?_
    refine v_iconst (pc' := 42) (v := 0) X dX9_committed_41 (by decide) rfl ?_
    refine v_istore_n (pc' := 43) (i := 3) (lv' := [(3, .int 0), (2, .int (nI nw)), (0, .ref (ad (0))), (1, .ref (ad (tb i)))]) X dX9_committed_42 rfl (by decide) rfl rfl ?_
    have hloop : ∀ (dd_hloop : Nat) (k : Nat), nw - k < dd_hloop → (k ≤ nw) → V K 7 (wM (kY K) n ad (fWr (M.2 (tb i + 16)) (M.2 (tb i + 17)) (M.1 0 4 + 1) k (mI (mI (mI (mI M (tb i) 4 (M.1 (tb i) 4 - 1)) (tb i) 5 0) (tb i) 6 0) 0 4 (M.1 0 4 + 1)))) 0 0 43 [(3, .int (nI k)), (2, .int (nI nw)), (1, .ref (ad (tb i))), (0, .ref (ad (0)))] [] := by
      intro dd_hloop
      induction dd_hloop with
      | zero => intro k hlt_hloop; exact absurd hlt_hloop (Nat.not_lt_zero _)
      | succ dd_hloop ih_hloop =>
        intro k hlt_hloop hk
        refine v_iload_n (pc' := 44) (i := 3) (j := 0) X dX9_committed_43 rfl rfl rfl ?_
        refine v_iload_n (pc' := 45) (i := 2) (j := 1) X dX9_committed_44 rfl rfl rfl ?_
        refine v_icmp_ge (pc' := 48) (tgt := 92) X dX9_committed_45 (by decide) rfl (fun hc_45 => ?_) (fun hc_45 => ?_)
        -- taken 45
        · have hkw : k = nw := by have hh := le_of_nI hc_45 (by omega) (by omega); omega
          rw [hkw]
          refine v_iconst (pc' := 93) (v := 0) X dX9_committed_92 (by decide) rfl ?_
          refine v_istore_n (pc' := 94) (i := 3) (lv' := [(3, .int 0), (2, .int (nI nw)), (1, .ref (ad (tb i))), (0, .ref (ad (0)))]) X dX9_committed_93 rfl (by decide) rfl rfl ?_
          have hloop2 : ∀ (dd_hloop2 : Nat) (q : Nat), n - q < dd_hloop2 → (q ≤ n) → V K 7 (wM (kY K) n ad (fWakes (M.2 (tb i + 16)) nw q (fWr (M.2 (tb i + 16)) (M.2 (tb i + 17)) (M.1 0 4 + 1) nw (mI (mI (mI (mI M (tb i) 4 (M.1 (tb i) 4 - 1)) (tb i) 5 0) (tb i) 6 0) 0 4 (M.1 0 4 + 1))))) 0 0 94 [(3, .int (nI q)), (2, .int (nI nw)), (1, .ref (ad (tb i))), (0, .ref (ad (0)))] [] := by
            intro dd_hloop2
            induction dd_hloop2 with
            | zero => intro q hlt_hloop2; exact absurd hlt_hloop2 (Nat.not_lt_zero _)
            | succ dd_hloop2 ih_hloop2 =>
              intro q hlt_hloop2 hq
              have hB0 : (fWakes (M.2 (tb i + 16)) nw q (fWr (M.2 (tb i + 16)) (M.2 (tb i + 17)) (M.1 0 4 + 1) nw (mI (mI (mI (mI M (tb i) 4 (M.1 (tb i) 4 - 1)) (tb i) 5 0) (tb i) 6 0) 0 4 (M.1 0 4 + 1)))).1 0 2 = M.1 0 2 := by rw [fWakes_1 (fun j9 _ => by unfold tb; omega), fWr_1 (by decide), mI_o _ _ _ _ (by decide), mI_n _ _ _ _ (by unfold tb; omega), mI_n _ _ _ _ (by unfold tb; omega), mI_n _ _ _ _ (by unfold tb; omega)]
              refine v_iload_n (pc' := 95) (i := 3) (j := 0) X dX9_committed_94 rfl rfl rfl ?_
              refine v_aload_n (pc' := 96) (i := 0) (j := 3) X dX9_committed_95 rfl rfl rfl ?_
              refine fg_X9_7 (pc' := 99) X (v := nI n) (hB0.trans hn) dX9_committed_96 rfl ?_
              refine v_icmp_ge (pc' := 102) (tgt := 177) X dX9_committed_99 (by decide) rfl (fun hc_99 => ?_) (fun hc_99 => ?_)
              -- taken 99
              · refine v_iconst (pc' := 178) (v := 0) X dX9_committed_177 (by decide) rfl ?_
                refine v_ireturn X R (Nat.zero_le _) (Nat.zero_le _) dX9_committed_178 ?_
                obtain rfl : q = n := by have hh := le_of_nI hc_99 (by omega) (by omega); omega
                have hF : fCommitted M q (tb i) = (fWakes (M.2 (tb i + 16)) nw q (fWr (M.2 (tb i + 16)) (M.2 (tb i + 17)) (M.1 0 4 + 1) nw (mI (mI (mI (mI M (tb i) 4 (M.1 (tb i) 4 - 1)) (tb i) 5 0) (tb i) 6 0) 0 4 (M.1 0 4 + 1)))) := by
                  unfold fCommitted
                  rw [hnw, nn_nI (by omega)]
                  exact if_neg (fun z9 => hc_26 (by rw [z9]; rfl))
                rw [hF]
                exact ⟨rfl, rfl⟩
              -- not taken 99
              · have hqn : q < n := by
                  rcases Nat.lt_or_ge q n with q9 | q9
                  · exact q9
                  · exact absurd (nI_le q9 (by omega)) hc_99
                have hst : (fWakes (M.2 (tb i + 16)) nw q (fWr (M.2 (tb i + 16)) (M.2 (tb i + 17)) (M.1 0 4 + 1) nw (mI (mI (mI (mI M (tb i) 4 (M.1 (tb i) 4 - 1)) (tb i) 5 0) (tb i) 6 0) 0 4 (M.1 0 4 + 1)))).1 (tb q) 0 = M.1 (tb q) 0 := by
                  rw [fWakes_1 (fun j9 hj9 => by unfold tb; omega), fWr_1 (by unfold tb; omega), mI_n _ _ _ _ (by unfold tb; omega)]
                  by_cases hqi : q = i
                  · subst hqi; rw [mI_o _ _ _ _ (by decide), mI_o _ _ _ _ (by decide), mI_o _ _ _ _ (by decide)]
                  · rw [mI_n _ _ _ _ (by unfold tb; omega), mI_n _ _ _ _ (by unfold tb; omega), mI_n _ _ _ _ (by unfold tb; omega)]
                refine v_aload_n (pc' := 103) (i := 0) (j := 3) X dX9_committed_102 rfl rfl rfl ?_
                refine fg_X9_28 (pc' := 106) X dX9_committed_103 rfl ?_
                refine v_iload_n (pc' := 107) (i := 3) (j := 0) X dX9_committed_106 rfl rfl rfl ?_
                refine ag_M13 (pc' := 108) X (q) rfl (by omega) (by omega) dX9_committed_107 rfl ?_
                refine v_astore (pc' := 110) (lv' := [(4, .ref (ad (tb q))), (3, .int (nI q)), (2, .int (nI nw)), (1, .ref (ad (tb i))), (0, .ref (ad (0)))]) X dX9_committed_108 (by decide) rfl rfl ?_
                refine v_aload (pc' := 112) (j := 0) X dX9_committed_110 rfl rfl ?_
                refine fg_X9_208 (pc' := 115) X (by omega) (v := M.1 (tb q) 0) hst dX9_committed_112 rfl ?_
                refine v_iconst (pc' := 116) (v := 2) X dX9_committed_115 (by decide) rfl ?_
                refine v_icmp_eq (pc' := 119) (tgt := 122) X dX9_committed_116 (by decide) rfl (fun hc_116 => ?_) (fun hc_116 => ?_)
                -- taken 116
                · have hqi : q ≠ i := fun z9 => by rw [z9, hst1] at hc_116; exact absurd hc_116 (by decide)
                  have hr : (fWakes (M.2 (tb i + 16)) nw q (fWr (M.2 (tb i + 16)) (M.2 (tb i + 17)) (M.1 0 4 + 1) nw (mI (mI (mI (mI M (tb i) 4 (M.1 (tb i) 4 - 1)) (tb i) 5 0) (tb i) 6 0) 0 4 (M.1 0 4 + 1)))).1 (tb q) = M.1 (tb q) := by rw [fWakes_1 (fun j9 hj9 => by unfold tb; omega), fWr_1 (by unfold tb; omega), mI_n _ _ _ _ (by unfold tb; omega), mI_n _ _ _ _ (by unfold tb; omega), mI_n _ _ _ _ (by unfold tb; omega), mI_n _ _ _ _ (by unfold tb; omega)]
                  have hr11 : (fWakes (M.2 (tb i + 16)) nw q (fWr (M.2 (tb i + 16)) (M.2 (tb i + 17)) (M.1 0 4 + 1) nw (mI (mI (mI (mI M (tb i) 4 (M.1 (tb i) 4 - 1)) (tb i) 5 0) (tb i) 6 0) 0 4 (M.1 0 4 + 1)))).1 (tb q + 11) = M.1 (tb q + 11) := by rw [fWakes_1 (fun j9 hj9 => by unfold tb; omega), fWr_1 (by unfold tb; omega), mI_n _ _ _ _ (by unfold tb; omega), mI_n _ _ _ _ (by unfold tb; omega), mI_n _ _ _ _ (by unfold tb; omega), mI_n _ _ _ _ (by unfold tb; omega)]
                  have hr15 : (fWakes (M.2 (tb i + 16)) nw q (fWr (M.2 (tb i + 16)) (M.2 (tb i + 17)) (M.1 0 4 + 1) nw (mI (mI (mI (mI M (tb i) 4 (M.1 (tb i) 4 - 1)) (tb i) 5 0) (tb i) 6 0) 0 4 (M.1 0 4 + 1)))).2 (tb q + 15) = M.2 (tb q + 15) := by rw [fWakes_2 (fun j9 hj9 => by unfold tb; omega), fWr_2 (by unfold tb; omega)]; rfl
                  have hr4 : (fWakes (M.2 (tb i + 16)) nw q (fWr (M.2 (tb i + 16)) (M.2 (tb i + 17)) (M.1 0 4 + 1) nw (mI (mI (mI (mI M (tb i) 4 (M.1 (tb i) 4 - 1)) (tb i) 5 0) (tb i) 6 0) 0 4 (M.1 0 4 + 1)))).1 (tb q) 4 = M.1 (tb q) 4 := congrFun hr 4
                  have hr5 : (fWakes (M.2 (tb i + 16)) nw q (fWr (M.2 (tb i + 16)) (M.2 (tb i + 17)) (M.1 0 4 + 1) nw (mI (mI (mI (mI M (tb i) 4 (M.1 (tb i) 4 - 1)) (tb i) 5 0) (tb i) 6 0) 0 4 (M.1 0 4 + 1)))).1 (tb q) 5 = M.1 (tb q) 5 := congrFun hr 5
                  have hrw : (fWakes (M.2 (tb i + 16)) nw q (fWr (M.2 (tb i + 16)) (M.2 (tb i + 17)) (M.1 0 4 + 1) nw (mI (mI (mI (mI M (tb i) 4 (M.1 (tb i) 4 - 1)) (tb i) 5 0) (tb i) 6 0) 0 4 (M.1 0 4 + 1)))).2 (tb i + 16) = M.2 (tb i + 16) := by rw [fWakes_2 (fun j9 hj9 => by unfold tb; omega), fWr_2 (by unfold tb; omega)]; rfl
                  obtain ⟨e9, r9, k9, h4, he9, h5, hr9, hk9, h0, hfirst⟩ := hwake q hqn hc_116
                  have hcond : (∃ k q1, k < nw ∧ q1 < nn ((fWakes (M.2 (tb i + 16)) nw q (fWr (M.2 (tb i + 16)) (M.2 (tb i + 17)) (M.1 0 4 + 1) nw (mI (mI (mI (mI M (tb i) 4 (M.1 (tb i) 4 - 1)) (tb i) 5 0) (tb i) 6 0) 0 4 (M.1 0 4 + 1)))).1 (tb q) 5) ∧ (fWakes (M.2 (tb i + 16)) nw q (fWr (M.2 (tb i + 16)) (M.2 (tb i + 17)) (M.1 0 4 + 1) nw (mI (mI (mI (mI M (tb i) 4 (M.1 (tb i) 4 - 1)) (tb i) 5 0) (tb i) 6 0) 0 4 (M.1 0 4 + 1)))).2 (tb q + 15) q1 = M.2 (tb i + 16) k) ↔ (∃ k q1, k < nw ∧ q1 < r9 ∧ M.2 (tb q + 15) q1 = M.2 (tb i + 16) k) := by rw [hr5, h5, nn_nI (by omega), hr15]
                  refine v_iconst (pc' := 123) (v := 0) X dX9_committed_122 (by decide) rfl ?_
                  refine v_istore (pc' := 125) (lv' := [(5, .int 0), (4, .ref (ad (tb q))), (3, .int (nI q)), (2, .int (nI nw)), (1, .ref (ad (tb i))), (0, .ref (ad (0)))]) X dX9_committed_123 (by decide) rfl rfl ?_
                  refine v_iconst (pc' := 126) (v := 0) X dX9_committed_125 (by decide) rfl ?_
                  refine v_istore (pc' := 128) (lv' := [(6, .int 0), (5, .int 0), (4, .ref (ad (tb q))), (3, .int (nI q)), (2, .int (nI nw)), (1, .ref (ad (tb i))), (0, .ref (ad (0)))]) X dX9_committed_126 (by decide) rfl rfl ?_
                  have hloop3 : ∀ (dd_hloop3 : Nat) (k : Nat) (x5 : Int32), nw - k < dd_hloop3 → (k ≤ nw) → (x5 = bP (∃ k1 q1, k1 < k ∧ q1 < r9 ∧ M.2 (tb q + 15) q1 = M.2 (tb i + 16) k1)) → V K 7 (wM (kY K) n ad (fWakes (M.2 (tb i + 16)) nw q (fWr (M.2 (tb i + 16)) (M.2 (tb i + 17)) (M.1 0 4 + 1) nw (mI (mI (mI (mI M (tb i) 4 (M.1 (tb i) 4 - 1)) (tb i) 5 0) (tb i) 6 0) 0 4 (M.1 0 4 + 1))))) 0 0 128 [(6, .int (nI k)), (5, .int x5), (4, .ref (ad (tb q))), (3, .int (nI q)), (2, .int (nI nw)), (1, .ref (ad (tb i))), (0, .ref (ad (0)))] [] := by
                    intro dd_hloop3
                    induction dd_hloop3 with
                    | zero => intro k x5 hlt_hloop3; exact absurd hlt_hloop3 (Nat.not_lt_zero _)
                    | succ dd_hloop3 ih_hloop3 =>
                      intro k x5 hlt_hloop3 hk hx5
                      refine v_iload (pc' := 130) (j := 0) X dX9_committed_128 rfl rfl ?_
                      refine v_iload_n (pc' := 131) (i := 2) (j := 4) X dX9_committed_130 rfl rfl rfl ?_
                      refine v_icmp_ge (pc' := 134) (tgt := 157) X dX9_committed_131 (by decide) rfl (fun hc_131 => ?_) (fun hc_131 => ?_)
                      -- taken 131
                      · have hkn : k = nw := by have hh := le_of_nI hc_131 (by omega) (by omega); omega
                        rw [hkn] at hx5
                        subst hx5
                        refine v_iload (pc' := 159) (j := 1) X dX9_committed_157 rfl rfl ?_
                        refine v_ifB_eq (pc' := 162) (tgt := 171) X dX9_committed_159 (by decide) rfl (fun hc_159 => ?_) (fun hc_159 => ?_)
                        -- taken 159
                        · refine v_iinc (pc' := 174) (j := 3) (v := nI (q + 1)) (lv' := [(3, .int (nI (q + 1))), (6, .int (nI k)), (5, .int (bP (∃ k1 q1, k1 < nw ∧ q1 < r9 ∧ M.2 (tb q + 15) q1 = M.2 (tb i + 16) k1))), (4, .ref (ad (tb q))), (2, .int (nI nw)), (1, .ref (ad (tb i))), (0, .ref (ad (0)))]) X dX9_committed_171 rfl (nI_add (q) 1) (by decide) rfl rfl ?_
                          refine v_goto (pc' := 94) X dX9_committed_174 (by decide) ?_
                          have hW : (fWakes (M.2 (tb i + 16)) nw (q + 1) (fWr (M.2 (tb i + 16)) (M.2 (tb i + 17)) (M.1 0 4 + 1) nw (mI (mI (mI (mI M (tb i) 4 (M.1 (tb i) 4 - 1)) (tb i) 5 0) (tb i) 6 0) 0 4 (M.1 0 4 + 1)))) = (fWakes (M.2 (tb i + 16)) nw q (fWr (M.2 (tb i + 16)) (M.2 (tb i + 17)) (M.1 0 4 + 1) nw (mI (mI (mI (mI M (tb i) 4 (M.1 (tb i) 4 - 1)) (tb i) 5 0) (tb i) 6 0) 0 4 (M.1 0 4 + 1)))) := by
                            rw [fWakes]; unfold fWake
                            rw [if_neg (fun z9 => hc_159 (hcond.mp z9.2))]
                          refine v_eqw (ws' := wM (kY K) n ad (fWakes (M.2 (tb i + 16)) nw (q + 1) (fWr (M.2 (tb i + 16)) (M.2 (tb i + 17)) (M.1 0 4 + 1) nw (mI (mI (mI (mI M (tb i) 4 (M.1 (tb i) 4 - 1)) (tb i) 5 0) (tb i) 6 0) 0 4 (M.1 0 4 + 1))))) (by rw [hW]) ?_
                          refine v_sub (lv' := [(3, .int (nI (q + 1))), (2, .int (nI nw)), (1, .ref (ad (tb i))), (0, .ref (ad (0)))]) [0, 4, 5, 6] rfl ?_
                          exact ih_hloop2 (q + 1) (by omega) (by omega)
                        -- not taken 159
                        · refine v_aload (pc' := 164) (j := 2) X dX9_committed_162 rfl rfl ?_
                          refine v_aload_n (pc' := 165) (i := 0) (j := 6) X dX9_committed_164 rfl rfl rfl ?_
                          refine fg_X9_161 (pc' := 168) X (v := (fWakes (M.2 (tb i + 16)) nw q (fWr (M.2 (tb i + 16)) (M.2 (tb i + 17)) (M.1 0 4 + 1) nw (mI (mI (mI (mI M (tb i) 4 (M.1 (tb i) 4 - 1)) (tb i) 5 0) (tb i) 6 0) 0 4 (M.1 0 4 + 1)))).1 0 4) rfl dX9_committed_165 rfl ?_
                          refine v_callV (pc' := 171) X (st := []) (c_X8_again (M := (fWakes (M.2 (tb i + 16)) nw q (fWr (M.2 (tb i + 16)) (M.2 (tb i + 17)) (M.1 0 4 + 1) nw (mI (mI (mI (mI M (tb i) 4 (M.1 (tb i) 4 - 1)) (tb i) 5 0) (tb i) 6 0) 0 4 (M.1 0 4 + 1))))) hqn (e := e9) (k := k9) (hr4.trans h4) he9 hk9 (by rw [hr11]; exact h0) (by rw [hr11]; exact hfirst)) k_X8_again w_ml_X9_164 w_im_X8_again w_se_X8_X8_again (rv_T hqn) (by rw [hR]; exact ⟨Nat.le_of_ble_eq_true rfl, Nat.le_of_ble_eq_true rfl⟩) rfl rfl (Nat.le_of_ble_eq_true rfl) dX9_committed_168 rfl (⟨Nat.zero_le _, Nat.zero_le _⟩) ?_
                          rintro _ _ ⟨rfl, rfl⟩
                          refine v_iinc (pc' := 174) (j := 3) (v := nI (q + 1)) (lv' := [(3, .int (nI (q + 1))), (6, .int (nI k)), (5, .int (bP (∃ k1 q1, k1 < nw ∧ q1 < r9 ∧ M.2 (tb q + 15) q1 = M.2 (tb i + 16) k1))), (4, .ref (ad (tb q))), (2, .int (nI nw)), (1, .ref (ad (tb i))), (0, .ref (ad (0)))]) X dX9_committed_171 rfl (nI_add (q) 1) (by decide) rfl rfl ?_
                          refine v_goto (pc' := 94) X dX9_committed_174 (by decide) ?_
                          have hW : (fWakes (M.2 (tb i + 16)) nw (q + 1) (fWr (M.2 (tb i + 16)) (M.2 (tb i + 17)) (M.1 0 4 + 1) nw (mI (mI (mI (mI M (tb i) 4 (M.1 (tb i) 4 - 1)) (tb i) 5 0) (tb i) 6 0) 0 4 (M.1 0 4 + 1)))) = (fAgain (fWakes (M.2 (tb i + 16)) nw q (fWr (M.2 (tb i + 16)) (M.2 (tb i + 17)) (M.1 0 4 + 1) nw (mI (mI (mI (mI M (tb i) 4 (M.1 (tb i) 4 - 1)) (tb i) 5 0) (tb i) 6 0) 0 4 (M.1 0 4 + 1)))) (tb q) k9 ((fWakes (M.2 (tb i + 16)) nw q (fWr (M.2 (tb i + 16)) (M.2 (tb i + 17)) (M.1 0 4 + 1) nw (mI (mI (mI (mI M (tb i) 4 (M.1 (tb i) 4 - 1)) (tb i) 5 0) (tb i) 6 0) 0 4 (M.1 0 4 + 1)))).1 0 4)) := by
                            rw [fWakes]; unfold fWake
                            rw [if_pos ⟨hst.trans hc_116, hcond.mpr hc_159⟩]
                            rw [aIdx_eq (k := k9) (by rw [hr4, h4, nn_nI (by omega)]; exact hk9) (by rw [hr11]; exact h0) (by rw [hr11]; exact hfirst)]
                          refine v_eqw (ws' := wM (kY K) n ad (fWakes (M.2 (tb i + 16)) nw (q + 1) (fWr (M.2 (tb i + 16)) (M.2 (tb i + 17)) (M.1 0 4 + 1) nw (mI (mI (mI (mI M (tb i) 4 (M.1 (tb i) 4 - 1)) (tb i) 5 0) (tb i) 6 0) 0 4 (M.1 0 4 + 1))))) (by rw [hW]) ?_
                          refine v_sub (lv' := [(3, .int (nI (q + 1))), (2, .int (nI nw)), (1, .ref (ad (tb i))), (0, .ref (ad (0)))]) [0, 4, 5, 6] rfl ?_
                          exact ih_hloop2 (q + 1) (by omega) (by omega)
                      -- not taken 131
                      · have hke : k < nw := by
                          rcases Nat.lt_or_ge k nw with q9 | q9
                          · exact q9
                          · exact absurd (nI_le q9 (by omega)) hc_131
                        refine v_iload (pc' := 136) (j := 1) X dX9_committed_134 rfl rfl ?_
                        refine v_aload (pc' := 138) (j := 2) X dX9_committed_136 rfl rfl ?_
                        refine v_aload_n (pc' := 139) (i := 1) (j := 5) X dX9_committed_138 rfl rfl rfl ?_
                        refine fg_X9_175 (pc' := 142) X hi dX9_committed_139 rfl ?_
                        refine v_iload (pc' := 144) (j := 0) X dX9_committed_142 rfl rfl ?_
                        refine ag_T16 (pc' := 145) X hi (v := M.2 (tb i + 16) k) (k) rfl (by omega) (congrFun hrw _) dX9_committed_144 rfl ?_
                        refine v_callV (pc' := 148) X (st := [.int x5]) (c_X8_hasRead (M := (fWakes (M.2 (tb i + 16)) nw q (fWr (M.2 (tb i + 16)) (M.2 (tb i + 17)) (M.1 0 4 + 1) nw (mI (mI (mI (mI M (tb i) 4 (M.1 (tb i) 4 - 1)) (tb i) 5 0) (tb i) 6 0) 0 4 (M.1 0 4 + 1))))) hqn (e := r9) (hr5.trans h5) hr9 (v := M.2 (tb i + 16) k)) k_X8_hasRead w_ml_X9_205 w_im_X8_hasRead w_se_X8_X8_hasRead (rv_T hqn) (by rw [hR]; exact ⟨Nat.le_of_ble_eq_true rfl, Nat.le_of_ble_eq_true rfl⟩) rfl rfl (Nat.le_of_ble_eq_true rfl) dX9_committed_145 rfl (⟨Nat.zero_le _, Nat.zero_le _⟩) ?_
                        rintro _ _ ⟨rfl, x9, rfl, hx9⟩
                        rw [hr15] at hx9
                        obtain rfl := aIn_bP hx9
                        refine v_ior (pc' := 149) X dX9_committed_148 rfl ?_
                        refine v_istore (pc' := 151) (lv' := [(5, .int (x5 ||| (bP (∃ q1, q1 < r9 ∧ M.2 (tb q + 15) q1 = M.2 (tb i + 16) k)))), (6, .int (nI k)), (4, .ref (ad (tb q))), (3, .int (nI q)), (2, .int (nI nw)), (1, .ref (ad (tb i))), (0, .ref (ad (0)))]) X dX9_committed_149 (by decide) rfl rfl ?_
                        refine v_iinc (pc' := 154) (j := 1) (v := nI (k + 1)) (lv' := [(6, .int (nI (k + 1))), (5, .int (x5 ||| (bP (∃ q1, q1 < r9 ∧ M.2 (tb q + 15) q1 = M.2 (tb i + 16) k)))), (4, .ref (ad (tb q))), (3, .int (nI q)), (2, .int (nI nw)), (1, .ref (ad (tb i))), (0, .ref (ad (0)))]) X dX9_committed_151 rfl (nI_add (k) 1) (by decide) rfl rfl ?_
                        refine v_goto (pc' := 128) X dX9_committed_154 (by decide) ?_
                        have hnew : x5 ||| bP (∃ q1, q1 < r9 ∧ M.2 (tb q + 15) q1 = M.2 (tb i + 16) k) = bP (∃ k1 q1, k1 < k + 1 ∧ q1 < r9 ∧ M.2 (tb q + 15) q1 = M.2 (tb i + 16) k1) := by
                          rw [hx5, bP_or]
                          refine bP_congr ⟨fun z9 => ?_, fun z9 => ?_⟩
                          · rcases z9 with ⟨k1, q1, z1, z2, z3⟩ | ⟨q1, z2, z3⟩
                            · exact ⟨k1, q1, by omega, z2, z3⟩
                            · exact ⟨k, q1, by omega, z2, z3⟩
                          · obtain ⟨k1, q1, z1, z2, z3⟩ := z9
                            rcases Nat.lt_or_ge k1 k with y9 | y9
                            · exact Or.inl ⟨k1, q1, y9, z2, z3⟩
                            · obtain rfl : k1 = k := by omega
                              exact Or.inr ⟨q1, z2, z3⟩
                        exact ih_hloop3 (k + 1) _ (by omega) (by omega) hnew
                  exact hloop3 _ 0 0 (Nat.lt_succ_self _) (Nat.zero_le _) (bP_f (fun z9 => by obtain ⟨k1, q1, z1, -⟩ := z9; omega)).symm
                -- not taken 116
                · refine v_goto (pc' := 171) X dX9_committed_119 (by decide) ?_
                  refine v_iinc (pc' := 174) (j := 1) (v := nI (q + 1)) (lv' := [(3, .int (nI (q + 1))), (4, .ref (ad (tb q))), (2, .int (nI nw)), (1, .ref (ad (tb i))), (0, .ref (ad (0)))]) X dX9_committed_171 rfl (nI_add (q) 1) (by decide) rfl rfl ?_
                  refine v_goto (pc' := 94) X dX9_committed_174 (by decide) ?_
                  have hW : (fWakes (M.2 (tb i + 16)) nw (q + 1) (fWr (M.2 (tb i + 16)) (M.2 (tb i + 17)) (M.1 0 4 + 1) nw (mI (mI (mI (mI M (tb i) 4 (M.1 (tb i) 4 - 1)) (tb i) 5 0) (tb i) 6 0) 0 4 (M.1 0 4 + 1)))) = (fWakes (M.2 (tb i + 16)) nw q (fWr (M.2 (tb i + 16)) (M.2 (tb i + 17)) (M.1 0 4 + 1) nw (mI (mI (mI (mI M (tb i) 4 (M.1 (tb i) 4 - 1)) (tb i) 5 0) (tb i) 6 0) 0 4 (M.1 0 4 + 1)))) := by
                    rw [fWakes]; unfold fWake
                    rw [if_neg (fun z9 => hc_116 (hst.symm.trans z9.1))]
                  refine v_eqw (ws' := wM (kY K) n ad (fWakes (M.2 (tb i + 16)) nw (q + 1) (fWr (M.2 (tb i + 16)) (M.2 (tb i + 17)) (M.1 0 4 + 1) nw (mI (mI (mI (mI M (tb i) 4 (M.1 (tb i) 4 - 1)) (tb i) 5 0) (tb i) 6 0) 0 4 (M.1 0 4 + 1))))) (by rw [hW]) ?_
                  refine v_sub (lv' := [(3, .int (nI (q + 1))), (2, .int (nI nw)), (1, .ref (ad (tb i))), (0, .ref (ad (0)))]) [0, 2, 3, 4] rfl ?_
                  exact ih_hloop2 (q + 1) (by omega) (by omega)
          exact hloop2 _ 0 (Nat.lt_succ_self _) (Nat.zero_le _)
        -- not taken 45
        · have hke : k < nw := by
            rcases Nat.lt_or_ge k nw with q9 | q9
            · exact q9
            · exact absurd (nI_le q9 (by omega)) hc_45
          obtain ⟨hp1, hp2⟩ := hpw k hke
          refine v_aload_n (pc' := 49) (i := 0) (j := 3) X dX9_committed_48 rfl rfl rfl ?_
          refine fg_X9_36 (pc' := 52) X dX9_committed_49 rfl ?_
          refine v_aload_n (pc' := 53) (i := 1) (j := 2) X dX9_committed_52 rfl rfl rfl ?_
          refine fg_X9_175 (pc' := 56) X hi dX9_committed_53 rfl ?_
          refine v_iload_n (pc' := 57) (i := 3) (j := 0) X dX9_committed_56 rfl rfl rfl ?_
          refine ag_T16 (pc' := 58) X hi (v := M.2 (tb i + 16) k) (k) rfl (by omega) (congrFun (fWr_2 (by unfold tb; omega)) _) dX9_committed_57 rfl ?_
          refine v_callS (pc' := 61) X (st := [.ref (ad (15))]) (c_X9_place (n := n) (ad := ad) (M := (fWr (M.2 (tb i + 16)) (M.2 (tb i + 17)) (M.1 0 4 + 1) k (mI (mI (mI (mI M (tb i) 4 (M.1 (tb i) 4 - 1)) (tb i) 5 0) (tb i) 6 0) 0 4 (M.1 0 4 + 1)))) (v := M.2 (tb i + 16) k)) k_X9_place w_ml_X9_137 w_st_X9_place (by rw [hR]; exact ⟨Nat.le_of_ble_eq_true rfl, Nat.le_of_ble_eq_true rfl⟩) rfl rfl (Nat.le_of_ble_eq_true rfl) dX9_committed_58 rfl (⟨Nat.zero_le _, Nat.zero_le _⟩) ?_
          rintro _ _ ⟨rfl, rfl⟩
          refine v_aload_n (pc' := 62) (i := 1) (j := 2) X dX9_committed_61 rfl rfl rfl ?_
          refine fg_X9_178 (pc' := 65) X hi dX9_committed_62 rfl ?_
          refine v_iload_n (pc' := 66) (i := 3) (j := 0) X dX9_committed_65 rfl rfl rfl ?_
          refine ag_T17 (pc' := 67) X hi (v := M.2 (tb i + 17) k) (k) rfl (by omega) (congrFun (fWr_2 (by unfold tb; omega)) _) dX9_committed_66 rfl ?_
          refine as_M15 (pc' := 68) X (pl (M.2 (tb i + 16) k)) hp2 (by omega) dX9_committed_67 rfl ?_
          refine v_aload_n (pc' := 69) (i := 0) (j := 3) X dX9_committed_68 rfl rfl rfl ?_
          refine fg_X9_49 (pc' := 72) X dX9_committed_69 rfl ?_
          refine v_aload_n (pc' := 73) (i := 1) (j := 2) X dX9_committed_72 rfl rfl rfl ?_
          refine fg_X9_175 (pc' := 76) X hi dX9_committed_73 rfl ?_
          refine v_iload_n (pc' := 77) (i := 3) (j := 0) X dX9_committed_76 rfl rfl rfl ?_
          refine ag_T16 (pc' := 78) X hi (v := M.2 (tb i + 16) k) (k) rfl (by omega) ((congrFun (mL_n _ _ _ _ (by unfold tb; omega)) _).trans (congrFun (fWr_2 (by unfold tb; omega)) _)) dX9_committed_77 rfl ?_
          refine v_callS (pc' := 81) X (st := [.ref (ad (19))]) (c_X9_place (n := n) (ad := ad) (M := (mL (fWr (M.2 (tb i + 16)) (M.2 (tb i + 17)) (M.1 0 4 + 1) k (mI (mI (mI (mI M (tb i) 4 (M.1 (tb i) 4 - 1)) (tb i) 5 0) (tb i) 6 0) 0 4 (M.1 0 4 + 1))) 15 (pl (M.2 (tb i + 16) k)) (M.2 (tb i + 17) k))) (v := M.2 (tb i + 16) k)) k_X9_place w_ml_X9_137 w_st_X9_place (by rw [hR]; exact ⟨Nat.le_of_ble_eq_true rfl, Nat.le_of_ble_eq_true rfl⟩) rfl rfl (Nat.le_of_ble_eq_true rfl) dX9_committed_78 rfl (⟨Nat.zero_le _, Nat.zero_le _⟩) ?_
          rintro _ _ ⟨rfl, rfl⟩
          refine v_aload_n (pc' := 82) (i := 0) (j := 3) X dX9_committed_81 rfl rfl rfl ?_
          refine fg_X9_161 (pc' := 85) X (v := M.1 0 4 + 1) ((congrFun (fWr_1 (by decide)) _).trans (mI_s _ _ _ _)) dX9_committed_82 rfl ?_
          refine as_M19 (pc' := 86) X (pl (M.2 (tb i + 16) k)) hp2 (by omega) dX9_committed_85 rfl ?_
          refine v_iinc (pc' := 89) (j := 0) (v := nI (k + 1)) (lv' := [(3, .int (nI (k + 1))), (2, .int (nI nw)), (1, .ref (ad (tb i))), (0, .ref (ad (0)))]) X dX9_committed_86 rfl (nI_add (k) 1) (by decide) rfl rfl ?_
          refine v_goto (pc' := 43) X dX9_committed_89 (by decide) ?_
          exact ih_hloop (k + 1) (by omega) (by omega)
    refine v_sub (lv' := [(3, .int 0), (2, .int (nI nw)), (1, .ref (ad (tb i))), (0, .ref (ad (0)))]) [0, 1, 3, 2] rfl ?_
    exact hloop _ 0 (Nat.lt_succ_self _) (Nat.zero_le _)
  -- not taken 26
  · refine v_iconst (pc' := 30) (v := 0) X dX9_committed_29 (by decide) rfl ?_
    refine v_ireturn X R (Nat.zero_le _) (Nat.zero_le _) dX9_committed_30 ?_
    have hF : fCommitted M n (tb i) = (mI (mI (mI M (tb i) 4 (M.1 (tb i) 4 - 1)) (tb i) 5 0) (tb i) 6 0) := by
      unfold fCommitted
      rw [hnw, nn_nI (by omega)]
      exact if_pos (eq_of_nI (b := 0) hc_26 (by omega) (by omega))
    rw [hF]
    exact ⟨rfl, rfl⟩
