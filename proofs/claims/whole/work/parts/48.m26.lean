/-! THE CLASS'S COLLECTION: FOLLOWING -/
def kv (to : Nat → Int32) (v : Int64) : Int64 := if v < 8589934592 then v else v - v.toInt32.toInt64 + (to (pl v)).toInt64
def kvR (to : Nat → Int32) (row : Nat → Int64) (e : Nat) : Nat → Int64 := fun k => if k < e then kv to (row k) else row k
def plR (to : Nat → Int32) (row : Nat → Int32) (e : Nat) : Nat → Int32 := fun k => if k < e then to (nn (row k)) else row k
theorem kvR_0 {to : Nat → Int32} {row : Nat → Int64} : kvR to row 0 = row := by
  funext k; exact if_neg (Nat.not_lt_zero k)
theorem plR_0 {to : Nat → Int32} {row : Nat → Int32} : plR to row 0 = row := by
  funext k; exact if_neg (Nat.not_lt_zero k)
theorem kvR_s {to : Nat → Int32} {row : Nat → Int64} {k : Nat} : vp_updL (kvR to row k) k (kv to (row k)) = kvR to row (k + 1) := by
  funext q
  show (if q = k then kv to (row k) else kvR to row k q) = _
  unfold kvR
  by_cases h1 : q = k
  · subst h1; rw [if_pos rfl, if_pos (by omega)]
  · rw [if_neg h1]
    by_cases h2 : q < k
    · rw [if_pos h2, if_pos (by omega)]
    · rw [if_neg h2, if_neg (by omega)]
theorem kvR_n {to : Nat → Int32} {row : Nat → Int64} {k : Nat} (h : row k < 8589934592) : kvR to row k = kvR to row (k + 1) := by
  funext q
  unfold kvR
  by_cases h1 : q = k
  · subst h1; rw [if_neg (Nat.lt_irrefl q), if_pos (by omega)]; exact (if_pos h).symm
  · by_cases h2 : q < k
    · rw [if_pos h2, if_pos (by omega)]
    · rw [if_neg h2, if_neg (by omega)]
theorem plR_s {to : Nat → Int32} {row : Nat → Int32} {k : Nat} : upd (plR to row k) k (to (nn (row k))) = plR to row (k + 1) := by
  funext q
  show (if q = k then to (nn (row k)) else plR to row k q) = _
  unfold plR
  by_cases h1 : q = k
  · subst h1; rw [if_pos rfl, if_pos (by omega)]
  · rw [if_neg h1]
    by_cases h2 : q < k
    · rw [if_pos h2, if_pos (by omega)]
    · rw [if_neg h2, if_neg (by omega)]
set_option maxHeartbeats 4000000 in
set_option maxRecDepth 100000 in
theorem c_X1_followRow {l : Launch} {D : va_G} {Y : Nat → ClassId} {zz : Nat → Nat} {n s cp cq : Nat} {ad : Nat → Nat} {M : vM} {c len : Nat} (hc : c ∈ csK n s cp) (hcell : ∀ f g, cK n s cp cq ad Y c f g = .inl (Y 1, len, .inr (.inl g))) (hlen : len < 2 ^ 31) {e : Nat} (he : e ≤ len) (hrow : ∀ k, k < e → ok1 (M.2 c k)) : Ct l D Y zz yX1_followRow cX1_followRow 5 none 1 21 [.ref (ad (1)), .ref (ad (c)), .int (nI e)] (wK Y n s cp cq ad M) 0 0 (fun r w => r = none ∧ w = wK Y n s cp cq ad (mRL M c (kvR (M.1 20) (M.2 c) e))) := by
  refine v_entry (by decide +kernel) (Nat.le_of_ble_eq_true rfl) ?_
  intro K X R hR hnm hl hD hY hz
  subst hl hD hY hz
  refine v_sub (lv' := [(0, .ref (ad (1))), (1, .ref (ad (c))), (2, .int (nI e))]) [0, 1, 2] rfl ?_
  refine v_iconst (pc' := 1) (v := 0) X dX1_followRow_0 (by decide) rfl ?_
  refine v_istore_n (pc' := 2) (i := 3) (lv' := [(3, .int 0), (0, .ref (ad (1))), (1, .ref (ad (c))), (2, .int (nI e))]) X dX1_followRow_1 rfl (by decide) rfl rfl ?_
  have hloop : ∀ (dd_hloop : Nat) (k : Nat), e - k < dd_hloop → (k ≤ e) → V K 5 (wK (kY K) n s cp cq ad (mRL M c (kvR (M.1 20) (M.2 c) k))) 0 0 2 [(3, .int (nI k)), (2, .int (nI e)), (1, .ref (ad (c))), (0, .ref (ad (1)))] [] := by
    intro dd_hloop
    induction dd_hloop with
    | zero => intro k hlt_hloop; exact absurd hlt_hloop (Nat.not_lt_zero _)
    | succ dd_hloop ih_hloop =>
      intro k hlt_hloop hk
      refine v_iload_n (pc' := 3) (i := 3) (j := 0) X dX1_followRow_2 rfl rfl rfl ?_
      refine v_iload_n (pc' := 4) (i := 2) (j := 1) X dX1_followRow_3 rfl rfl rfl ?_
      refine v_icmp_ge (pc' := 7) (tgt := 50) X dX1_followRow_4 (by decide) rfl (fun hc_4 => ?_) (fun hc_4 => ?_)
      -- taken 4
      · refine v_return X R (Nat.zero_le _) (Nat.zero_le _) dX1_followRow_50 ?_
        obtain rfl : k = e := by have hh := le_of_nI hc_4 (by omega) (by omega); omega
        exact ⟨rfl, rfl⟩
      -- not taken 4
      · have hke : k < e := by
          rcases Nat.lt_or_ge k e with q9 | q9
          · exact q9
          · exact absurd (nI_le q9 (by omega)) hc_4
        refine v_aload_n (pc' := 8) (i := 1) (j := 2) X dX1_followRow_7 rfl rfl rfl ?_
        refine v_iload_n (pc' := 9) (i := 3) (j := 0) X dX1_followRow_8 rfl rfl rfl ?_
        refine p_lald X hc hcell (v := M.2 c k) (k) rfl (by omega) hlen (by rw [mRL_r]; exact if_neg (Nat.lt_irrefl k)) dX1_followRow_9 rfl ?_
        refine v_ldc2 (pc' := 13) (v := 8589934592) X dX1_followRow_10 w_kl_X1_35 rfl ?_
        refine v_lcmp (pc' := 14) X dX1_followRow_13 rfl ?_
        refine v_lif_lt (pc' := 17) (tgt := 44) X dX1_followRow_14 (by decide) rfl (fun hc_14 => ?_) (fun hc_14 => ?_)
        -- taken 14
        · refine v_iinc (pc' := 47) (j := 0) (v := nI (k + 1)) (lv' := [(3, .int (nI (k + 1))), (2, .int (nI e)), (1, .ref (ad (c))), (0, .ref (ad (1)))]) X dX1_followRow_44 rfl (nI_add (k) 1) (by decide) rfl rfl ?_
          refine v_goto (pc' := 2) X dX1_followRow_47 (by decide) ?_
          refine v_eqw (ws' := wK (kY K) n s cp cq ad (mRL M c (kvR (M.1 20) (M.2 c) (k + 1)))) (by rw [kvR_n hc_14]) ?_
          exact ih_hloop (k + 1) (by omega) (by omega)
        -- not taken 14
        · obtain ⟨hp1, hp2⟩ := (hrow k hke).resolve_left (Int64.not_lt.mpr hc_14)
          refine v_aload_n (pc' := 18) (i := 1) (j := 2) X dX1_followRow_17 rfl rfl rfl ?_
          refine v_iload_n (pc' := 19) (i := 3) (j := 0) X dX1_followRow_18 rfl rfl rfl ?_
          refine p_lald X hc hcell (v := M.2 c k) (k) rfl (by omega) hlen (by rw [mRL_r]; exact if_neg (Nat.lt_irrefl k)) dX1_followRow_19 rfl ?_
          refine v_callSN (pc' := 23) X (st := []) (c_X7_placeOf (n := n) (s := s) (cp := cp) (cq := cq) (ad := ad) (M := (mRL M c (kvR (M.1 20) (M.2 c) k))) (v := M.2 c k)) k_X7_placeOf n_ml_X1_53 w_st_X7_placeOf (by rw [hR]; exact ⟨Nat.le_of_ble_eq_true rfl, Nat.le_of_ble_eq_true rfl⟩) rfl rfl (Nat.le_of_ble_eq_true rfl) dX1_followRow_20 rfl (⟨Nat.zero_le _, Nat.zero_le _⟩) ?_
          rintro _ _ ⟨rfl, rfl⟩
          refine v_istore (pc' := 25) (lv' := [(4, .int ((M.2 c k).toInt32)), (3, .int (nI k)), (2, .int (nI e)), (1, .ref (ad (c))), (0, .ref (ad (1)))]) X dX1_followRow_23 (by decide) rfl rfl ?_
          refine v_aload_n (pc' := 26) (i := 1) (j := 3) X dX1_followRow_25 rfl rfl rfl ?_
          refine v_iload_n (pc' := 27) (i := 3) (j := 1) X dX1_followRow_26 rfl rfl rfl ?_
          refine v_aload_n (pc' := 28) (i := 1) (j := 3) X dX1_followRow_27 rfl rfl rfl ?_
          refine v_iload_n (pc' := 29) (i := 3) (j := 1) X dX1_followRow_28 rfl rfl rfl ?_
          refine p_lald X hc hcell (v := M.2 c k) (k) rfl (by omega) hlen (by rw [mRL_r]; exact if_neg (Nat.lt_irrefl k)) dX1_followRow_29 rfl ?_
          refine v_iload (pc' := 32) (j := 0) X dX1_followRow_30 rfl rfl ?_
          refine v_i2l (pc' := 33) X dX1_followRow_32 rfl rfl ?_
          refine v_lsub (pc' := 34) X dX1_followRow_33 rfl ?_
          refine v_aload_n (pc' := 35) (i := 0) (j := 4) X dX1_followRow_34 rfl rfl rfl ?_
          refine fk_X1_25 (pc' := 38) X dX1_followRow_35 rfl ?_
          refine v_iload (pc' := 40) (j := 0) X dX1_followRow_38 rfl rfl ?_
          refine ak_K20 (pc' := 41) X (v := M.1 20 (pl (M.2 c k))) (pl (M.2 c k)) hp2 (by omega) (congrFun (congrFun (mRL_1 _ _ _) _) _) dX1_followRow_40 rfl ?_
          refine v_i2l (pc' := 42) X dX1_followRow_41 rfl rfl ?_
          refine v_ladd (pc' := 43) X dX1_followRow_42 rfl ?_
          refine p_last X hc hcell (k) rfl (by omega) hlen dX1_followRow_43 rfl ?_
          refine v_iinc (pc' := 47) (j := 1) (v := nI (k + 1)) (lv' := [(3, .int (nI (k + 1))), (4, .int ((M.2 c k).toInt32)), (2, .int (nI e)), (1, .ref (ad (c))), (0, .ref (ad (1)))]) X dX1_followRow_44 rfl (nI_add (k) 1) (by decide) rfl rfl ?_
          refine v_goto (pc' := 2) X dX1_followRow_47 (by decide) ?_
          refine v_eqw (ws' := wK (kY K) n s cp cq ad (mRL M c (kvR (M.1 20) (M.2 c) (k + 1)))) (by rw [mL_mRL, ← kvR_s, kv, if_neg (Int64.not_lt.mpr hc_14)]) ?_
          refine v_sub (lv' := [(3, .int (nI (k + 1))), (2, .int (nI e)), (1, .ref (ad (c))), (0, .ref (ad (1)))]) [0, 2, 3, 4] rfl ?_
          exact ih_hloop (k + 1) (by omega) (by omega)
  refine v_eqw (ws' := wK (kY K) n s cp cq ad (mRL M c (kvR (M.1 20) (M.2 c) 0))) (by rw [kvR_0, mRL_self]) ?_
  refine v_sub (lv' := [(3, .int 0), (2, .int (nI e)), (1, .ref (ad (c))), (0, .ref (ad (1)))]) [0, 3, 2, 1] rfl ?_
  exact hloop _ 0 (Nat.lt_succ_self _) (Nat.zero_le _)
set_option maxHeartbeats 4000000 in
set_option maxRecDepth 100000 in
theorem c_X1_followPlaces {l : Launch} {D : va_G} {Y : Nat → ClassId} {zz : Nat → Nat} {n s cp cq : Nat} {ad : Nat → Nat} {M : vM} {c len : Nat} (hc : c ∈ csK n s cp) (hcell : ∀ f g, cK n s cp cq ad Y c f g = .inl (Y 0, len, .inl f)) (hlen : len < 2 ^ 31) {e : Nat} (he : e ≤ len) (hcx : 20 ≠ c) (hrow : ∀ k, k < e → M.1 c k = nI (nn (M.1 c k)) ∧ nn (M.1 c k) < 200) : Ct l D Y zz yX1_followPlaces cX1_followPlaces 4 none 0 0 [.ref (ad (1)), .ref (ad (c)), .int (nI e)] (wK Y n s cp cq ad M) 0 0 (fun r w => r = none ∧ w = wK Y n s cp cq ad (mRI M c (plR (M.1 20) (M.1 c) e))) := by
  refine v_entry (by decide +kernel) (Nat.le_of_ble_eq_true rfl) ?_
  intro K X R hR hnm hl hD hY hz
  subst hl hD hY hz
  refine v_sub (lv' := [(0, .ref (ad (1))), (1, .ref (ad (c))), (2, .int (nI e))]) [0, 1, 2] rfl ?_
  refine v_iconst (pc' := 1) (v := 0) X dX1_followPlaces_0 (by decide) rfl ?_
  refine v_istore_n (pc' := 2) (i := 3) (lv' := [(3, .int 0), (0, .ref (ad (1))), (1, .ref (ad (c))), (2, .int (nI e))]) X dX1_followPlaces_1 rfl (by decide) rfl rfl ?_
  have hloop : ∀ (dd_hloop : Nat) (k : Nat), e - k < dd_hloop → (k ≤ e) → V K 4 (wK (kY K) n s cp cq ad (mRI M c (plR (M.1 20) (M.1 c) k))) 0 0 2 [(3, .int (nI k)), (2, .int (nI e)), (1, .ref (ad (c))), (0, .ref (ad (1)))] [] := by
    intro dd_hloop
    induction dd_hloop with
    | zero => intro k hlt_hloop; exact absurd hlt_hloop (Nat.not_lt_zero _)
    | succ dd_hloop ih_hloop =>
      intro k hlt_hloop hk
      refine v_iload_n (pc' := 3) (i := 3) (j := 0) X dX1_followPlaces_2 rfl rfl rfl ?_
      refine v_iload_n (pc' := 4) (i := 2) (j := 1) X dX1_followPlaces_3 rfl rfl rfl ?_
      refine v_icmp_ge (pc' := 7) (tgt := 24) X dX1_followPlaces_4 (by decide) rfl (fun hc_4 => ?_) (fun hc_4 => ?_)
      -- taken 4
      · refine v_return X R (Nat.zero_le _) (Nat.zero_le _) dX1_followPlaces_24 ?_
        obtain rfl : k = e := by have hh := le_of_nI hc_4 (by omega) (by omega); omega
        exact ⟨rfl, rfl⟩
      -- not taken 4
      · have hke : k < e := by
          rcases Nat.lt_or_ge k e with q9 | q9
          · exact q9
          · exact absurd (nI_le q9 (by omega)) hc_4
        have hp1 := (hrow k hke).2
        refine v_aload_n (pc' := 8) (i := 1) (j := 2) X dX1_followPlaces_7 rfl rfl rfl ?_
        refine v_iload_n (pc' := 9) (i := 3) (j := 0) X dX1_followPlaces_8 rfl rfl rfl ?_
        refine v_aload_n (pc' := 10) (i := 0) (j := 3) X dX1_followPlaces_9 rfl rfl rfl ?_
        refine fk_X1_25 (pc' := 13) X dX1_followPlaces_10 rfl ?_
        refine v_aload_n (pc' := 14) (i := 1) (j := 2) X dX1_followPlaces_13 rfl rfl rfl ?_
        refine v_iload_n (pc' := 15) (i := 3) (j := 0) X dX1_followPlaces_14 rfl rfl rfl ?_
        refine p_iald X hc hcell (v := M.1 c k) (k) rfl (by omega) hlen (by rw [mRI_r]; exact if_neg (Nat.lt_irrefl k)) dX1_followPlaces_15 rfl ?_
        refine ak_K20 (pc' := 17) X (v := M.1 20 (nn (M.1 c k))) (nn (M.1 c k)) (hrow k hke).1 (by omega) (by rw [mRI_n _ _ _ hcx]) dX1_followPlaces_16 rfl ?_
        refine p_iast X hc hcell (k) rfl (by omega) hlen dX1_followPlaces_17 rfl ?_
        refine v_iinc (pc' := 21) (j := 0) (v := nI (k + 1)) (lv' := [(3, .int (nI (k + 1))), (2, .int (nI e)), (1, .ref (ad (c))), (0, .ref (ad (1)))]) X dX1_followPlaces_18 rfl (nI_add (k) 1) (by decide) rfl rfl ?_
        refine v_goto (pc' := 2) X dX1_followPlaces_21 (by decide) ?_
        refine v_eqw (ws' := wK (kY K) n s cp cq ad (mRI M c (plR (M.1 20) (M.1 c) (k + 1)))) (by rw [mI_mRI, plR_s]) ?_
        exact ih_hloop (k + 1) (by omega) (by omega)
  refine v_eqw (ws' := wK (kY K) n s cp cq ad (mRI M c (plR (M.1 20) (M.1 c) 0))) (by rw [plR_0, mRI_self]) ?_
  refine v_sub (lv' := [(3, .int 0), (2, .int (nI e)), (1, .ref (ad (c))), (0, .ref (ad (1)))]) [0, 3, 2, 1] rfl ?_
  exact hloop _ 0 (Nat.lt_succ_self _) (Nat.zero_le _)
