/-! THE REFERENCE'S SMALL METHODS -/
def plOk (v : Int64) : Prop := pl v < 200 ∧ v.toInt32 = nI (pl v)
set_option maxHeartbeats 4000000 in
set_option maxRecDepth 100000 in
theorem c_X9_thrown {l : Launch} {D : va_G} {Y : Nat → ClassId} {z : Nat → Nat} {n : Nat} {ad : Nat → Nat} {M : vM}  : Ct l D Y z yX9_thrown cX9_thrown 1 (some FieldType.int) 0 0 [.ref (ad (0))] (wM Y n ad M) 0 0 (fun r w => r = some (.int (M.1 0 0)) ∧ w = wM Y n ad M) := by
  refine v_entry (by decide +kernel) (Nat.le_of_ble_eq_true rfl) ?_
  intro K X R hR hnm hl hD hY hz
  subst hl hD hY hz
  refine v_sub (lv' := [(0, .ref (ad (0)))]) [0] rfl ?_
  refine v_aload_n (pc' := 1) (i := 0) (j := 0) X dX9_thrown_0 rfl rfl rfl ?_
  refine fg_X9_59 (pc' := 4) X (v := M.1 0 0) rfl dX9_thrown_1 rfl ?_
  refine v_ireturn X R (Nat.zero_le _) (Nat.zero_le _) dX9_thrown_4 ?_
  exact ⟨rfl, rfl⟩
set_option maxHeartbeats 4000000 in
set_option maxRecDepth 100000 in
theorem c_X9_fail {l : Launch} {D : va_G} {Y : Nat → ClassId} {z : Nat → Nat} {n : Nat} {ad : Nat → Nat} {M : vM} {code : Int32} : Ct l D Y z yX9_fail cX9_fail 2 (some FieldType.int) 0 0 [.ref (ad (0)), .int code] (wM Y n ad M) 0 0 (fun r w => r = some (.int 0) ∧ w = wM Y n ad (mI M 0 0 code)) := by
  refine v_entry (by decide +kernel) (Nat.le_of_ble_eq_true rfl) ?_
  intro K X R hR hnm hl hD hY hz
  subst hl hD hY hz
  refine v_sub (lv' := [(0, .ref (ad (0))), (1, .int code)]) [0, 1] rfl ?_
  refine v_aload_n (pc' := 1) (i := 0) (j := 0) X dX9_fail_0 rfl rfl rfl ?_
  refine v_iload_n (pc' := 2) (i := 1) (j := 1) X dX9_fail_1 rfl rfl rfl ?_
  refine fp_X9_59 (pc' := 5) X dX9_fail_2 rfl ?_
  refine v_iconst (pc' := 6) (v := 0) X dX9_fail_5 (by decide) rfl ?_
  refine v_ireturn X R (Nat.zero_le _) (Nat.zero_le _) dX9_fail_6 ?_
  exact ⟨rfl, rfl⟩
set_option maxHeartbeats 4000000 in
set_option maxRecDepth 100000 in
theorem c_X9_isInt {l : Launch} {D : va_G} {Y : Nat → ClassId} {z : Nat → Nat} {n : Nat} {ad : Nat → Nat} {M : vM} {v : Int64} : Ct l D Y z yX9_isInt cX9_isInt 2 (some FieldType.boolean) 0 0 [.long v] (wM Y n ad M) 0 0 (fun r w => r = some (.int (bP (isI v))) ∧ w = wM Y n ad M) := by
  refine v_entry (by decide +kernel) (Nat.le_of_ble_eq_true rfl) ?_
  intro K X R hR hnm hl hD hY hz
  subst hl hD hY hz
  refine v_sub (lv' := [(0, .long v)]) [0] rfl ?_
  refine v_lload_n (pc' := 1) (i := 0) (j := 0) X dX9_isInt_0 rfl rfl rfl ?_
  refine v_ldc2 (pc' := 4) (v := 8589934592) X dX9_isInt_1 w_kl_X9_62 rfl ?_
  refine v_lcmp (pc' := 5) X dX9_isInt_4 rfl ?_
  refine v_lif_ge (pc' := 8) (tgt := 12) X dX9_isInt_5 (by decide) rfl (fun hc_5 => ?_) (fun hc_5 => ?_)
  -- taken 5
  · refine v_iconst (pc' := 13) (v := 0) X dX9_isInt_12 (by decide) rfl ?_
    refine v_zreturn X R (by decide) (Nat.zero_le _) (Nat.zero_le _) dX9_isInt_13 ?_
    exact ⟨by rw [bP_f (c := isI v) (fun z9 => absurd hc_5 (Int64.not_le.mpr z9))], rfl⟩
  -- not taken 5
  · refine v_iconst (pc' := 9) (v := 1) X dX9_isInt_8 (by decide) rfl ?_
    refine v_goto (pc' := 13) X dX9_isInt_9 (by decide) ?_
    refine v_zreturn X R (by decide) (Nat.zero_le _) (Nat.zero_le _) dX9_isInt_13 ?_
    exact ⟨by rw [bP_t (c := isI v) (hc_5)], rfl⟩
set_option maxHeartbeats 4000000 in
set_option maxRecDepth 100000 in
theorem c_X9_isVar {l : Launch} {D : va_G} {Y : Nat → ClassId} {z : Nat → Nat} {n : Nat} {ad : Nat → Nat} {M : vM} {v : Int64} : Ct l D Y z yX9_isVar cX9_isVar 2 (some FieldType.boolean) 0 0 [.long v] (wM Y n ad M) 0 0 (fun r w => r = some (.int (bP (isV v))) ∧ w = wM Y n ad M) := by
  refine v_entry (by decide +kernel) (Nat.le_of_ble_eq_true rfl) ?_
  intro K X R hR hnm hl hD hY hz
  subst hl hD hY hz
  refine v_sub (lv' := [(0, .long v)]) [0] rfl ?_
  refine v_lload_n (pc' := 1) (i := 0) (j := 0) X dX9_isVar_0 rfl rfl rfl ?_
  refine v_ldc2 (pc' := 4) (v := 17179869184) X dX9_isVar_1 w_kl_X9_64 rfl ?_
  refine v_lcmp (pc' := 5) X dX9_isVar_4 rfl ?_
  refine v_lif_lt (pc' := 8) (tgt := 12) X dX9_isVar_5 (by decide) rfl (fun hc_5 => ?_) (fun hc_5 => ?_)
  -- taken 5
  · refine v_iconst (pc' := 13) (v := 0) X dX9_isVar_12 (by decide) rfl ?_
    refine v_zreturn X R (by decide) (Nat.zero_le _) (Nat.zero_le _) dX9_isVar_13 ?_
    exact ⟨by rw [bP_f (c := isV v) (fun z9 => absurd hc_5 (Int64.not_lt.mpr z9))], rfl⟩
  -- not taken 5
  · refine v_iconst (pc' := 9) (v := 1) X dX9_isVar_8 (by decide) rfl ?_
    refine v_goto (pc' := 13) X dX9_isVar_9 (by decide) ?_
    refine v_zreturn X R (by decide) (Nat.zero_le _) (Nat.zero_le _) dX9_isVar_13 ?_
    exact ⟨by rw [bP_t (c := isV v) (hc_5)], rfl⟩
set_option maxHeartbeats 4000000 in
set_option maxRecDepth 100000 in
theorem c_X9_isPair {l : Launch} {D : va_G} {Y : Nat → ClassId} {z : Nat → Nat} {n : Nat} {ad : Nat → Nat} {M : vM} {v : Int64} : Ct l D Y z yX9_isPair cX9_isPair 2 (some FieldType.boolean) 0 0 [.long v] (wM Y n ad M) 0 0 (fun r w => r = some (.int (bP (isP v))) ∧ w = wM Y n ad M) := by
  refine v_entry (by decide +kernel) (Nat.le_of_ble_eq_true rfl) ?_
  intro K X R hR hnm hl hD hY hz
  subst hl hD hY hz
  refine v_sub (lv' := [(0, .long v)]) [0] rfl ?_
  refine v_lload_n (pc' := 1) (i := 0) (j := 0) X dX9_isPair_0 rfl rfl rfl ?_
  refine v_ldc2 (pc' := 4) (v := 8589934592) X dX9_isPair_1 w_kl_X9_62 rfl ?_
  refine v_lcmp (pc' := 5) X dX9_isPair_4 rfl ?_
  refine v_lif_lt (pc' := 8) (tgt := 20) X dX9_isPair_5 (by decide) rfl (fun hc_5 => ?_) (fun hc_5 => ?_)
  -- taken 5
  · refine v_iconst (pc' := 21) (v := 0) X dX9_isPair_20 (by decide) rfl ?_
    refine v_zreturn X R (by decide) (Nat.zero_le _) (Nat.zero_le _) dX9_isPair_21 ?_
    exact ⟨by rw [bP_f (c := isP v) (fun z9 => absurd hc_5 (Int64.not_lt.mpr z9.1))], rfl⟩
  -- not taken 5
  · refine v_lload_n (pc' := 9) (i := 0) (j := 0) X dX9_isPair_8 rfl rfl rfl ?_
    refine v_ldc2 (pc' := 12) (v := 17179869184) X dX9_isPair_9 w_kl_X9_64 rfl ?_
    refine v_lcmp (pc' := 13) X dX9_isPair_12 rfl ?_
    refine v_lif_ge (pc' := 16) (tgt := 20) X dX9_isPair_13 (by decide) rfl (fun hc_13 => ?_) (fun hc_13 => ?_)
    -- taken 13
    · refine v_iconst (pc' := 21) (v := 0) X dX9_isPair_20 (by decide) rfl ?_
      refine v_zreturn X R (by decide) (Nat.zero_le _) (Nat.zero_le _) dX9_isPair_21 ?_
      exact ⟨by rw [bP_f (c := isP v) (fun z9 => absurd hc_13 (Int64.not_le.mpr z9.2))], rfl⟩
    -- not taken 13
    · refine v_iconst (pc' := 17) (v := 1) X dX9_isPair_16 (by decide) rfl ?_
      refine v_goto (pc' := 21) X dX9_isPair_17 (by decide) ?_
      refine v_zreturn X R (by decide) (Nat.zero_le _) (Nat.zero_le _) dX9_isPair_21 ?_
      exact ⟨by rw [bP_t (c := isP v) (⟨hc_5, hc_13⟩)], rfl⟩
set_option maxHeartbeats 4000000 in
set_option maxRecDepth 100000 in
theorem c_X9_noRegister {l : Launch} {D : va_G} {Y : Nat → ClassId} {z : Nat → Nat} {n : Nat} {ad : Nat → Nat} {M : vM} {k : Int32} : Ct l D Y z yX9_noRegister cX9_noRegister 1 (some FieldType.boolean) 0 0 [.int k] (wM Y n ad M) 0 0 (fun r w => r = some (.int (bP (nrg k))) ∧ w = wM Y n ad M) := by
  refine v_entry (by decide +kernel) (Nat.le_of_ble_eq_true rfl) ?_
  intro K X R hR hnm hl hD hY hz
  subst hl hD hY hz
  refine v_sub (lv' := [(0, .int k)]) [0] rfl ?_
  refine v_iload_n (pc' := 1) (i := 0) (j := 0) X dX9_noRegister_0 rfl rfl rfl ?_
  refine v_if_lt (pc' := 4) (tgt := 10) X dX9_noRegister_1 (by decide) rfl (fun hc_1 => ?_) (fun hc_1 => ?_)
  -- taken 1
  · refine v_iconst (pc' := 11) (v := 1) X dX9_noRegister_10 (by decide) rfl ?_
    refine v_goto (pc' := 15) X dX9_noRegister_11 (by decide) ?_
    refine v_zreturn X R (by decide) (Nat.zero_le _) (Nat.zero_le _) dX9_noRegister_15 ?_
    exact ⟨by rw [bP_t (by unfold nrg; simp only [← Int32.not_le]; simp_all)], rfl⟩
  -- not taken 1
  · refine v_iload_n (pc' := 5) (i := 0) (j := 0) X dX9_noRegister_4 rfl rfl rfl ?_
    refine v_bipush (pc' := 7) (v := 15) X dX9_noRegister_5 (by decide) rfl ?_
    refine v_icmp_le (pc' := 10) (tgt := 14) X dX9_noRegister_7 (by decide) rfl (fun hc_7 => ?_) (fun hc_7 => ?_)
    -- taken 7
    · refine v_iconst (pc' := 15) (v := 0) X dX9_noRegister_14 (by decide) rfl ?_
      refine v_zreturn X R (by decide) (Nat.zero_le _) (Nat.zero_le _) dX9_noRegister_15 ?_
      exact ⟨by rw [bP_f (by unfold nrg; simp only [← Int32.not_le]; simp_all)], rfl⟩
    -- not taken 7
    · refine v_iconst (pc' := 11) (v := 1) X dX9_noRegister_10 (by decide) rfl ?_
      refine v_goto (pc' := 15) X dX9_noRegister_11 (by decide) ?_
      refine v_zreturn X R (by decide) (Nat.zero_le _) (Nat.zero_le _) dX9_noRegister_15 ?_
      exact ⟨by rw [bP_t (by unfold nrg; simp only [← Int32.not_le]; simp_all)], rfl⟩
set_option maxHeartbeats 4000000 in
set_option maxRecDepth 100000 in
theorem c_X9_noGlobal {l : Launch} {D : va_G} {Y : Nat → ClassId} {z : Nat → Nat} {n : Nat} {ad : Nat → Nat} {M : vM} {k : Int32} : Ct l D Y z yX9_noGlobal cX9_noGlobal 1 (some FieldType.boolean) 0 0 [.int k] (wM Y n ad M) 0 0 (fun r w => r = some (.int (bP (ngl k))) ∧ w = wM Y n ad M) := by
  refine v_entry (by decide +kernel) (Nat.le_of_ble_eq_true rfl) ?_
  intro K X R hR hnm hl hD hY hz
  subst hl hD hY hz
  refine v_sub (lv' := [(0, .int k)]) [0] rfl ?_
  refine v_iload_n (pc' := 1) (i := 0) (j := 0) X dX9_noGlobal_0 rfl rfl rfl ?_
  refine v_if_lt (pc' := 4) (tgt := 10) X dX9_noGlobal_1 (by decide) rfl (fun hc_1 => ?_) (fun hc_1 => ?_)
  -- taken 1
  · refine v_iconst (pc' := 11) (v := 1) X dX9_noGlobal_10 (by decide) rfl ?_
    refine v_goto (pc' := 15) X dX9_noGlobal_11 (by decide) ?_
    refine v_zreturn X R (by decide) (Nat.zero_le _) (Nat.zero_le _) dX9_noGlobal_15 ?_
    exact ⟨by rw [bP_t (by unfold ngl; simp only [← Int32.not_le]; simp_all)], rfl⟩
  -- not taken 1
  · refine v_iload_n (pc' := 5) (i := 0) (j := 0) X dX9_noGlobal_4 rfl rfl rfl ?_
    refine v_bipush (pc' := 7) (v := 7) X dX9_noGlobal_5 (by decide) rfl ?_
    refine v_icmp_le (pc' := 10) (tgt := 14) X dX9_noGlobal_7 (by decide) rfl (fun hc_7 => ?_) (fun hc_7 => ?_)
    -- taken 7
    · refine v_iconst (pc' := 15) (v := 0) X dX9_noGlobal_14 (by decide) rfl ?_
      refine v_zreturn X R (by decide) (Nat.zero_le _) (Nat.zero_le _) dX9_noGlobal_15 ?_
      exact ⟨by rw [bP_f (by unfold ngl; simp only [← Int32.not_le]; simp_all)], rfl⟩
    -- not taken 7
    · refine v_iconst (pc' := 11) (v := 1) X dX9_noGlobal_10 (by decide) rfl ?_
      refine v_goto (pc' := 15) X dX9_noGlobal_11 (by decide) ?_
      refine v_zreturn X R (by decide) (Nat.zero_le _) (Nat.zero_le _) dX9_noGlobal_15 ?_
      exact ⟨by rw [bP_t (by unfold ngl; simp only [← Int32.not_le]; simp_all)], rfl⟩
set_option maxHeartbeats 4000000 in
set_option maxRecDepth 100000 in
theorem c_X9_place {l : Launch} {D : va_G} {Y : Nat → ClassId} {z : Nat → Nat} {n : Nat} {ad : Nat → Nat} {M : vM} {v : Int64} : Ct l D Y z yX9_place cX9_place 2 (some FieldType.int) 0 0 [.long v] (wM Y n ad M) 0 0 (fun r w => r = some (.int v.toInt32) ∧ w = wM Y n ad M) := by
  refine v_entry (by decide +kernel) (Nat.le_of_ble_eq_true rfl) ?_
  intro K X R hR hnm hl hD hY hz
  subst hl hD hY hz
  refine v_sub (lv' := [(0, .long v)]) [0] rfl ?_
  refine v_lload_n (pc' := 1) (i := 0) (j := 0) X dX9_place_0 rfl rfl rfl ?_
  refine v_l2i (pc' := 2) X dX9_place_1 rfl rfl ?_
  refine v_ireturn X R (Nat.zero_le _) (Nat.zero_le _) dX9_place_2 ?_
  exact ⟨rfl, rfl⟩
set_option maxHeartbeats 4000000 in
set_option maxRecDepth 100000 in
theorem c_X9_noTask {l : Launch} {D : va_G} {Y : Nat → ClassId} {z : Nat → Nat} {n : Nat} {ad : Nat → Nat} {M : vM} (hn : M.1 0 2 = nI n) {k : Int32} : Ct l D Y z yX9_noTask cX9_noTask 2 (some FieldType.boolean) 0 0 [.ref (ad (0)), .int k] (wM Y n ad M) 0 0 (fun r w => r = some (.int (bP (k < 0 ∨ nI n ≤ k))) ∧ w = wM Y n ad M) := by
  refine v_entry (by decide +kernel) (Nat.le_of_ble_eq_true rfl) ?_
  intro K X R hR hnm hl hD hY hz
  subst hl hD hY hz
  refine v_sub (lv' := [(0, .ref (ad (0))), (1, .int k)]) [0, 1] rfl ?_
  refine v_iload_n (pc' := 1) (i := 1) (j := 1) X dX9_noTask_0 rfl rfl rfl ?_
  refine v_if_lt (pc' := 4) (tgt := 12) X dX9_noTask_1 (by decide) rfl (fun hc_1 => ?_) (fun hc_1 => ?_)
  -- taken 1
  · refine v_iconst (pc' := 13) (v := 1) X dX9_noTask_12 (by decide) rfl ?_
    refine v_goto (pc' := 17) X dX9_noTask_13 (by decide) ?_
    refine v_zreturn X R (by decide) (Nat.zero_le _) (Nat.zero_le _) dX9_noTask_17 ?_
    exact ⟨by rw [bP_t (by simp_all)], rfl⟩
  -- not taken 1
  · refine v_iload_n (pc' := 5) (i := 1) (j := 1) X dX9_noTask_4 rfl rfl rfl ?_
    refine v_aload_n (pc' := 6) (i := 0) (j := 0) X dX9_noTask_5 rfl rfl rfl ?_
    refine fg_X9_7 (pc' := 9) X (v := nI n) hn dX9_noTask_6 rfl ?_
    refine v_icmp_lt (pc' := 12) (tgt := 16) X dX9_noTask_9 (by decide) rfl (fun hc_9 => ?_) (fun hc_9 => ?_)
    -- taken 9
    · refine v_iconst (pc' := 17) (v := 0) X dX9_noTask_16 (by decide) rfl ?_
      refine v_zreturn X R (by decide) (Nat.zero_le _) (Nat.zero_le _) dX9_noTask_17 ?_
      exact ⟨by rw [bP_f (by simp_all)], rfl⟩
    -- not taken 9
    · refine v_iconst (pc' := 13) (v := 1) X dX9_noTask_12 (by decide) rfl ?_
      refine v_goto (pc' := 17) X dX9_noTask_13 (by decide) ?_
      refine v_zreturn X R (by decide) (Nat.zero_le _) (Nat.zero_le _) dX9_noTask_17 ?_
      exact ⟨by rw [bP_t (by simp_all)], rfl⟩
set_option maxHeartbeats 4000000 in
set_option maxRecDepth 100000 in
/-- valid(t) -/
theorem c_X9_valid {l : Launch} {D : va_G} {Y : Nat → ClassId} {z : Nat → Nat} {n : Nat} {ad : Nat → Nat} {M : vM} {i e : Nat} (hi : i < n) (hne : M.1 (tb i) 5 = nI e) (he : e ≤ 40) (hpl : ∀ k, k < e → plOk (M.2 (tb i + 15) k)) : Ct l D Y z yX9_valid cX9_valid 3 (some FieldType.boolean) 1 21 [.ref (ad (0)), .ref (ad (tb i))] (wM Y n ad M) 0 0 (fun r w => r = some (.int (bP (fValid M (tb i)))) ∧ w = wM Y n ad M) := by
  refine v_entry (by decide +kernel) (Nat.le_of_ble_eq_true rfl) ?_
  intro K X R hR hnm hl hD hY hz
  subst hl hD hY hz
  refine v_sub (lv' := [(0, .ref (ad (0))), (1, .ref (ad (tb i)))]) [0, 1] rfl ?_
  refine v_iconst (pc' := 1) (v := 0) X dX9_valid_0 (by decide) rfl ?_
  refine v_istore_n (pc' := 2) (i := 2) (lv' := [(2, .int 0), (0, .ref (ad (0))), (1, .ref (ad (tb i)))]) X dX9_valid_1 rfl (by decide) rfl rfl ?_
  have hloop : ∀ (dd_hloop : Nat) (k : Nat), e - k < dd_hloop → (k ≤ e) → (∀ j, j < k → ¬ M.1 (tb i) 7 < M.1 19 (pl (M.2 (tb i + 15) j))) → V K 3 (wM (kY K) n ad M) 0 0 2 [(2, .int (nI k)), (1, .ref (ad (tb i))), (0, .ref (ad (0)))] [] := by
    intro dd_hloop
    induction dd_hloop with
    | zero => intro k hlt_hloop; exact absurd hlt_hloop (Nat.not_lt_zero _)
    | succ dd_hloop ih_hloop =>
      intro k hlt_hloop hk hno
      refine v_iload_n (pc' := 3) (i := 2) (j := 0) X dX9_valid_2 rfl rfl rfl ?_
      refine v_aload_n (pc' := 4) (i := 1) (j := 1) X dX9_valid_3 rfl rfl rfl ?_
      refine fg_X9_149 (pc' := 7) X hi (v := nI e) hne dX9_valid_4 rfl ?_
      refine v_icmp_ge (pc' := 10) (tgt := 39) X dX9_valid_7 (by decide) rfl (fun hc_7 => ?_) (fun hc_7 => ?_)
      -- taken 7
      · refine v_iconst (pc' := 40) (v := 1) X dX9_valid_39 (by decide) rfl ?_
        refine v_zreturn X R (by decide) (Nat.zero_le _) (Nat.zero_le _) dX9_valid_40 ?_
        have hh := le_of_nI hc_7 (by omega) (by omega)
        exact ⟨by rw [bP_t]; unfold fValid; rw [hne, nn_nI (by omega)]; exact fun j hj => hno j (by omega), rfl⟩
      -- not taken 7
      · have hke : k < e := by
          rcases Nat.lt_or_ge k e with q9 | q9
          · exact q9
          · exact absurd (nI_le q9 (by omega)) hc_7
        obtain ⟨hp1, hp2⟩ := hpl k hke
        refine v_aload_n (pc' := 11) (i := 0) (j := 2) X dX9_valid_10 rfl rfl rfl ?_
        refine fg_X9_49 (pc' := 14) X dX9_valid_11 rfl ?_
        refine v_aload_n (pc' := 15) (i := 1) (j := 1) X dX9_valid_14 rfl rfl rfl ?_
        refine fg_X9_152 (pc' := 18) X hi dX9_valid_15 rfl ?_
        refine v_iload_n (pc' := 19) (i := 2) (j := 0) X dX9_valid_18 rfl rfl rfl ?_
        refine ag_T15 (pc' := 20) X hi (v := M.2 (tb i + 15) k) (k) rfl (by omega) rfl dX9_valid_19 rfl ?_
        refine v_callS (pc' := 23) X (st := [.ref (ad (19))]) (c_X9_place (n := n) (ad := ad) (M := M) (v := M.2 (tb i + 15) k)) k_X9_place w_ml_X9_137 w_st_X9_place (by rw [hR]; exact ⟨Nat.le_of_ble_eq_true rfl, Nat.le_of_ble_eq_true rfl⟩) rfl rfl (Nat.le_of_ble_eq_true rfl) dX9_valid_20 rfl (⟨Nat.zero_le _, Nat.zero_le _⟩) ?_
        rintro _ _ ⟨rfl, rfl⟩
        refine ag_M19 (pc' := 24) X (v := M.1 19 (pl (M.2 (tb i + 15) k))) (pl (M.2 (tb i + 15) k)) hp2 (by omega) rfl dX9_valid_23 rfl ?_
        refine v_aload_n (pc' := 25) (i := 1) (j := 1) X dX9_valid_24 rfl rfl rfl ?_
        refine fg_X9_155 (pc' := 28) X hi (v := M.1 (tb i) 7) rfl dX9_valid_25 rfl ?_
        refine v_icmp_le (pc' := 31) (tgt := 33) X dX9_valid_28 (by decide) rfl (fun hc_28 => ?_) (fun hc_28 => ?_)
        -- taken 28
        · refine v_iinc (pc' := 36) (j := 0) (v := nI (k + 1)) (lv' := [(2, .int (nI (k + 1))), (1, .ref (ad (tb i))), (0, .ref (ad (0)))]) X dX9_valid_33 rfl (nI_add (k) 1) (by decide) rfl rfl ?_
          refine v_goto (pc' := 2) X dX9_valid_36 (by decide) ?_
          exact ih_hloop (k + 1) (by omega) (by omega) (lt_s hno (Int32.not_lt.mpr hc_28))
        -- not taken 28
        · refine v_iconst (pc' := 32) (v := 0) X dX9_valid_31 (by decide) rfl ?_
          refine v_zreturn X R (by decide) (Nat.zero_le _) (Nat.zero_le _) dX9_valid_32 ?_
          exact ⟨by rw [bP_f]; unfold fValid; rw [hne, nn_nI (by omega)]; exact fun z9 => z9 k hke (Int32.not_le.mp hc_28), rfl⟩
  refine v_sub (lv' := [(2, .int 0), (1, .ref (ad (tb i))), (0, .ref (ad (0)))]) [0, 2, 1] rfl ?_
  exact hloop _ 0 (Nat.lt_succ_self _) (by omega) lt_0
set_option maxHeartbeats 4000000 in
set_option maxRecDepth 100000 in
/-- aborted(t) -/
theorem c_X9_aborted {l : Launch} {D : va_G} {Y : Nat → ClassId} {z : Nat → Nat} {n : Nat} {ad : Nat → Nat} {M : vM} {i e k : Nat} (hi : i < n) (hne : M.1 (tb i) 4 = nI e) (he : e ≤ 24) (hk : k < e) (h0 : M.1 (tb i + 11) k = 0) (hfirst : ∀ j, j < k → M.1 (tb i + 11) j ≠ 0) : Ct l D Y z yX9_aborted cX9_aborted 2 (some FieldType.int) 2 44 [.ref (ad (0)), .ref (ad (tb i))] (wM Y n ad M) 0 0 (fun r w => r = some (.int 0) ∧ w = wM Y n ad (fAborted M (tb i))) := by
  refine v_entry (by decide +kernel) (Nat.le_of_ble_eq_true rfl) ?_
  intro K X R hR hnm hl hD hY hz
  subst hl hD hY hz
  refine v_sub (lv' := [(0, .ref (ad (0))), (1, .ref (ad (tb i)))]) [0, 1] rfl ?_
  refine v_aload_n (pc' := 1) (i := 0) (j := 0) X dX9_aborted_0 rfl rfl rfl ?_
  refine v_dup (pc' := 2) X dX9_aborted_1 rfl rfl ?_
  refine fg_X9_158 (pc' := 5) X (v := M.1 0 5) rfl dX9_aborted_2 rfl ?_
  refine v_iconst (pc' := 6) (v := 1) X dX9_aborted_5 (by decide) rfl ?_
  refine v_iadd (pc' := 7) X dX9_aborted_6 rfl ?_
  refine fp_X9_158 (pc' := 10) X dX9_aborted_7 rfl ?_
  refine v_aload_n (pc' := 11) (i := 1) (j := 1) X dX9_aborted_10 rfl rfl rfl ?_
  refine v_aload_n (pc' := 12) (i := 0) (j := 0) X dX9_aborted_11 rfl rfl rfl ?_
  refine fg_X9_161 (pc' := 15) X (v := M.1 0 4) (mI_o _ _ _ _ (by decide)) dX9_aborted_12 rfl ?_
  refine v_callV (pc' := 18) X (st := []) (c_X8_again (M := mI M 0 5 (M.1 0 5 + 1)) hi (e := e) (k := k) ((congrFun (mI_n _ _ _ _ (by unfold tb; omega)) _).trans hne) (by omega) hk ((congrFun (mI_n _ _ _ _ (by unfold tb; omega)) _).trans h0) (fun j hj => (fun z9 => hfirst j hj ((congrFun (mI_n M 0 5 (M.1 0 5 + 1) (x := tb i + 11) (by unfold tb; omega)) j).symm.trans z9)))) k_X8_again w_ml_X9_164 w_im_X8_again w_se_X8_X8_again (rv_T hi) (by rw [hR]; exact ⟨Nat.le_of_ble_eq_true rfl, Nat.le_of_ble_eq_true rfl⟩) rfl rfl (Nat.le_of_ble_eq_true rfl) dX9_aborted_15 rfl (⟨Nat.zero_le _, Nat.zero_le _⟩) ?_
  rintro _ _ ⟨rfl, rfl⟩
  refine v_iconst (pc' := 19) (v := 0) X dX9_aborted_18 (by decide) rfl ?_
  refine v_ireturn X R (Nat.zero_le _) (Nat.zero_le _) dX9_aborted_19 ?_
  refine ⟨rfl, ?_⟩
  unfold fAborted
  rw [hne, nn_nI (by omega), aIdx_eq hk h0 hfirst]
