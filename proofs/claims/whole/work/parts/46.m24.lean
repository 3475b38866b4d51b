/-! THE CLASS'S COLLECTION: REACHING ROWS -/
def gReachR (row : Nat → Int64) : Nat → vM → vM
  | 0, M => M
  | k + 1, M => gReach (gReachR row k M) (row k)
theorem gReach_2 {M : vM} {v : Int64} : (gReach M v).2 = M.2 := by
  unfold gReach
  split
  · rfl
  · split <;> rfl
theorem gReach_1 {M : vM} {v : Int64} {c : Nat} (h : c ≠ 1 ∧ c ≠ 18 ∧ c ≠ 20) : (gReach M v).1 c = M.1 c := by
  unfold gReach
  split
  · rfl
  · split
    · rw [mI_n _ _ _ _ h.1, mI_n _ _ _ _ h.2.1, mI_n _ _ _ _ h.2.2]
    · rfl
theorem gReach_15 {M : vM} {v : Int64} {k : Nat} (h : k ≠ 6) : (gReach M v).1 1 k = M.1 1 k := by
  unfold gReach
  split
  · rfl
  · split
    · rw [mI_o _ _ _ _ h, mI_n _ _ _ _ (by decide), mI_n _ _ _ _ (by decide)]
    · rfl
theorem gReachR_2 {row : Nat → Int64} {M : vM} : ∀ k, (gReachR row k M).2 = M.2
  | 0 => rfl
  | k + 1 => (gReach_2).trans (gReachR_2 k)
theorem gReachR_1 {row : Nat → Int64} {M : vM} {c : Nat} (h : c ≠ 1 ∧ c ≠ 18 ∧ c ≠ 20) : ∀ k, (gReachR row k M).1 c = M.1 c
  | 0 => rfl
  | k + 1 => (gReach_1 h).trans (gReachR_1 h k)
theorem gReachR_15 {row : Nat → Int64} {M : vM} {q : Nat} (h : q ≠ 6) : ∀ k, (gReachR row k M).1 1 q = M.1 1 q
  | 0 => rfl
  | k + 1 => (gReach_15 h).trans (gReachR_15 h k)
theorem gReachR_RI {row : Nat → Int64} {M : vM} (hR : RI M) : ∀ k, (∀ j, j < k → ok1 (row j)) → RI (gReachR row k M)
  | 0, _ => hR
  | k + 1, h => gReach_RI (gReachR_RI hR k (fun j hj => h j (by omega))) (h k (Nat.lt_succ_self k))
def gOnw : Nat → Nat → vM → vM
  | 0, _, M => M
  | d + 1, i, M => if i < nn (M.1 1 6) then gOnw d (i + 1) (gReach (gReach M (M.2 15 (nn (M.1 18 i)))) (M.2 16 (nn (M.1 18 i)))) else M
theorem RI.le {M : vM} (h : RI M) : nn (M.1 1 6) ≤ 200 := by have := h.2.1; omega
theorem gReach_18 {M : vM} {v : Int64} {j : Nat} (h : j < nn (M.1 1 6)) : (gReach M v).1 18 j = M.1 18 j ∧ nn (M.1 1 6) ≤ nn (M.1 1 6) := by
  refine ⟨?_, Nat.le_refl _⟩
  unfold gReach
  split
  · rfl
  · split
    · rw [mI_n _ _ _ _ (by decide), mI_o _ _ _ _ (by omega), mI_n _ _ _ _ (by decide)]
    · rfl
theorem gReach_6 {M : vM} {v : Int64} (h : nn (M.1 1 6) < 2 ^ 31 - 1) : nn (M.1 1 6) ≤ nn ((gReach M v).1 1 6) := by
  unfold gReach
  split
  · exact Nat.le_refl _
  · split
    · rw [mI_s, nn_nI (by omega)]; omega
    · exact Nat.le_refl _
set_option maxHeartbeats 4000000 in
set_option maxRecDepth 100000 in
theorem c_X1_reachRow {l : Launch} {D : va_G} {Y : Nat → ClassId} {zz : Nat → Nat} {n s cp cq : Nat} {ad : Nat → Nat} {M : vM} {c len : Nat} (hc : c ∈ csK n s cp) (hcell : ∀ f g, cK n s cp cq ad Y c f g = .inl (Y 1, len, .inr (.inl g))) (hlen : len < 2 ^ 31) {e : Nat} (he : e ≤ len) (hR0 : RI M) (hrow : ∀ k, k < e → ok1 (M.2 c k)) : Ct l D Y zz yX1_reachRow cX1_reachRow 4 none 2 44 [.ref (ad (1)), .ref (ad (c)), .int (nI e)] (wK Y n s cp cq ad M) 0 0 (fun r w => r = none ∧ w = wK Y n s cp cq ad (gReachR (M.2 c) e M)) := by
  refine v_entry (by decide +kernel) (Nat.le_of_ble_eq_true rfl) ?_
  intro K X R hR hnm hl hD hY hz
  subst hl hD hY hz
  refine v_sub (lv' := [(0, .ref (ad (1))), (1, .ref (ad (c))), (2, .int (nI e))]) [0, 1, 2] rfl ?_
  refine v_iconst (pc' := 1) (v := 0) X dX1_reachRow_0 (by decide) rfl ?_
  refine v_istore_n (pc' := 2) (i := 3) (lv' := [(3, .int 0), (0, .ref (ad (1))), (1, .ref (ad (c))), (2, .int (nI e))]) X dX1_reachRow_1 rfl (by decide) rfl rfl ?_
  have hloop : ∀ (dd_hloop : Nat) (k : Nat), e - k < dd_hloop → (k ≤ e) → V K 4 (wK (kY K) n s cp cq ad (gReachR (M.2 c) k M)) 0 0 2 [(3, .int (nI k)), (2, .int (nI e)), (1, .ref (ad (c))), (0, .ref (ad (1)))] [] := by
    intro dd_hloop
    induction dd_hloop with
    | zero => intro k hlt_hloop; exact absurd hlt_hloop (Nat.not_lt_zero _)
    | succ dd_hloop ih_hloop =>
      intro k hlt_hloop hk
      refine v_iload_n (pc' := 3) (i := 3) (j := 0) X dX1_reachRow_2 rfl rfl rfl ?_
      refine v_iload_n (pc' := 4) (i := 2) (j := 1) X dX1_reachRow_3 rfl rfl rfl ?_
      refine v_icmp_ge (pc' := 7) (tgt := 20) X dX1_reachRow_4 (by decide) rfl (fun hc_4 => ?_) (fun hc_4 => ?_)
      -- taken 4
      · refine v_return X R (Nat.zero_le _) (Nat.zero_le _) dX1_reachRow_20 ?_
        obtain rfl : k = e := by have hh := le_of_nI hc_4 (by omega) (by omega); omega
        exact ⟨rfl, rfl⟩
      -- not taken 4
      · have hke : k < e := by
          rcases Nat.lt_or_ge k e with q9 | q9
          · exact q9
          · exact absurd (nI_le q9 (by omega)) hc_4
        refine v_aload_n (pc' := 8) (i := 0) (j := 3) X dX1_reachRow_7 rfl rfl rfl ?_
        refine v_aload_n (pc' := 9) (i := 1) (j := 2) X dX1_reachRow_8 rfl rfl rfl ?_
        refine v_iload_n (pc' := 10) (i := 3) (j := 0) X dX1_reachRow_9 rfl rfl rfl ?_
        refine p_lald X hc hcell (v := M.2 c k) (k) rfl (by omega) hlen (by rw [gReachR_2]) dX1_reachRow_10 rfl ?_
        refine v_callV (pc' := 14) X (st := []) (c_X1_reach (M := (gReachR (M.2 c) k M)) (v := M.2 c k) (gReachR_RI hR0 k (fun j hj => hrow j (by omega))) (hrow k hke)) k_X1_reach w_ml_X1_49 w_im_X1_reach w_se_X1_X1_reach rw_X1 (by rw [hR]; exact ⟨Nat.le_of_ble_eq_true rfl, Nat.le_of_ble_eq_true rfl⟩) rfl rfl (Nat.le_of_ble_eq_true rfl) dX1_reachRow_11 rfl (⟨Nat.zero_le _, Nat.zero_le _⟩) ?_
        rintro _ _ ⟨rfl, rfl⟩
        refine v_iinc (pc' := 17) (j := 0) (v := nI (k + 1)) (lv' := [(3, .int (nI (k + 1))), (2, .int (nI e)), (1, .ref (ad (c))), (0, .ref (ad (1)))]) X dX1_reachRow_14 rfl (nI_add (k) 1) (by decide) rfl rfl ?_
        refine v_goto (pc' := 2) X dX1_reachRow_17 (by decide) ?_
        exact ih_hloop (k + 1) (by omega) (by omega)
  refine v_sub (lv' := [(3, .int 0), (2, .int (nI e)), (1, .ref (ad (c))), (0, .ref (ad (1)))]) [0, 3, 2, 1] rfl ?_
  exact hloop _ 0 (Nat.lt_succ_self _) (Nat.zero_le _)
set_option maxHeartbeats 4000000 in
set_option maxRecDepth 100000 in
theorem c_X1_reachPlaces {l : Launch} {D : va_G} {Y : Nat → ClassId} {zz : Nat → Nat} {n s cp cq : Nat} {ad : Nat → Nat} {M : vM} {c len : Nat} (hc : c ∈ csK n s cp) (hcell : ∀ f g, cK n s cp cq ad Y c f g = .inl (Y 0, len, .inl f)) (hlen : len < 2 ^ 31) {e : Nat} (he : e ≤ len) (hcx : c ≠ 1 ∧ c ≠ 18 ∧ c ≠ 20) (hR0 : RI M) (hrow : ∀ k, k < e → ok1 (17179869184 + (M.1 c k).toInt64)) : Ct l D Y zz yX1_reachPlaces cX1_reachPlaces 4 none 2 44 [.ref (ad (1)), .ref (ad (c)), .int (nI e)] (wK Y n s cp cq ad M) 0 0 (fun r w => r = none ∧ w = wK Y n s cp cq ad (gReachR (fun k => 17179869184 + (M.1 c k).toInt64) e M)) := by
  refine v_entry (by decide +kernel) (Nat.le_of_ble_eq_true rfl) ?_
  intro K X R hR hnm hl hD hY hz
  subst hl hD hY hz
  refine v_sub (lv' := [(0, .ref (ad (1))), (1, .ref (ad (c))), (2, .int (nI e))]) [0, 1, 2] rfl ?_
  refine v_iconst (pc' := 1) (v := 0) X dX1_reachPlaces_0 (by decide) rfl ?_
  refine v_istore_n (pc' := 2) (i := 3) (lv' := [(3, .int 0), (0, .ref (ad (1))), (1, .ref (ad (c))), (2, .int (nI e))]) X dX1_reachPlaces_1 rfl (by decide) rfl rfl ?_
  have hloop : ∀ (dd_hloop : Nat) (k : Nat), e - k < dd_hloop → (k ≤ e) → V K 4 (wK (kY K) n s cp cq ad (gReachR (fun k => 17179869184 + (M.1 c k).toInt64) k M)) 0 0 2 [(3, .int (nI k)), (2, .int (nI e)), (1, .ref (ad (c))), (0, .ref (ad (1)))] [] := by
    intro dd_hloop
    induction dd_hloop with
    | zero => intro k hlt_hloop; exact absurd hlt_hloop (Nat.not_lt_zero _)
    | succ dd_hloop ih_hloop =>
      intro k hlt_hloop hk
      refine v_iload_n (pc' := 3) (i := 3) (j := 0) X dX1_reachPlaces_2 rfl rfl rfl ?_
      refine v_iload_n (pc' := 4) (i := 2) (j := 1) X dX1_reachPlaces_3 rfl rfl rfl ?_
      refine v_icmp_ge (pc' := 7) (tgt := 25) X dX1_reachPlaces_4 (by decide) rfl (fun hc_4 => ?_) (fun hc_4 => ?_)
      -- taken 4
      · refine v_return X R (Nat.zero_le _) (Nat.zero_le _) dX1_reachPlaces_25 ?_
        obtain rfl : k = e := by have hh := le_of_nI hc_4 (by omega) (by omega); omega
        exact ⟨rfl, rfl⟩
      -- not taken 4
      · have hke : k < e := by
          rcases Nat.lt_or_ge k e with q9 | q9
          · exact q9
          · exact absurd (nI_le q9 (by omega)) hc_4
        refine v_aload_n (pc' := 8) (i := 0) (j := 3) X dX1_reachPlaces_7 rfl rfl rfl ?_
        refine v_ldc2 (pc' := 11) (v := 17179869184) X dX1_reachPlaces_8 w_kl_X1_41 rfl ?_
        refine v_aload_n (pc' := 12) (i := 1) (j := 2) X dX1_reachPlaces_11 rfl rfl rfl ?_
        refine v_iload_n (pc' := 13) (i := 3) (j := 0) X dX1_reachPlaces_12 rfl rfl rfl ?_
        refine p_iald X hc hcell (v := M.1 c k) (k) rfl (by omega) hlen (by rw [gReachR_1 hcx]) dX1_reachPlaces_13 rfl ?_
        refine v_i2l (pc' := 15) X dX1_reachPlaces_14 rfl rfl ?_
        refine v_ladd (pc' := 16) X dX1_reachPlaces_15 rfl ?_
        refine v_callV (pc' := 19) X (st := []) (c_X1_reach (M := (gReachR (fun k => 17179869184 + (M.1 c k).toInt64) k M)) (v := 17179869184 + ((M.1 c k).toInt64)) (gReachR_RI hR0 k (fun j hj => hrow j (by omega))) (hrow k hke)) k_X1_reach w_ml_X1_49 w_im_X1_reach w_se_X1_X1_reach rw_X1 (by rw [hR]; exact ⟨Nat.le_of_ble_eq_true rfl, Nat.le_of_ble_eq_true rfl⟩) rfl rfl (Nat.le_of_ble_eq_true rfl) dX1_reachPlaces_16 rfl (⟨Nat.zero_le _, Nat.zero_le _⟩) ?_
        rintro _ _ ⟨rfl, rfl⟩
        refine v_iinc (pc' := 22) (j := 0) (v := nI (k + 1)) (lv' := [(3, .int (nI (k + 1))), (2, .int (nI e)), (1, .ref (ad (c))), (0, .ref (ad (1)))]) X dX1_reachPlaces_19 rfl (nI_add (k) 1) (by decide) rfl rfl ?_
        refine v_goto (pc' := 2) X dX1_reachPlaces_22 (by decide) ?_
        exact ih_hloop (k + 1) (by omega) (by omega)
  refine v_sub (lv' := [(3, .int 0), (2, .int (nI e)), (1, .ref (ad (c))), (0, .ref (ad (1)))]) [0, 3, 2, 1] rfl ?_
  exact hloop _ 0 (Nat.lt_succ_self _) (Nat.zero_le _)
