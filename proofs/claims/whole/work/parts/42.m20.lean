/-! THE CLASS'S SMALL METHODS -/
def gEnter (M : vM) (b ca : Nat) (t : Int32) : vM := mI (mI (mI M (b + 10) ca (M.1 b 10)) b 11 (nI (ca + 1))) b 10 t
def gLeave (M : vM) (b ca : Nat) : vM := mI (mI M b 11 (nI (ca - 1))) b 10 (M.1 (b + 10) (ca - 1))
def gDrop (M : vM) (b : Nat) (k : Int32) : vM := if k ≤ M.1 b 13 then mI (mI M b 12 k) b 13 (-1) else mI M b 12 k
def gBegin (M : vM) (b : Nat) (c : Int32) : vM := mI (mI (mI M (b + 18) 3 0) (b + 18) 4 0) (b + 18) 5 c
def gClear (M : vM) (b : Nat) : vM := mI (mI M (b + 18) 3 0) (b + 18) 4 0
def gFill (M : vM) (us : Nat) (t : Int32) (v1 v2 : Int64) : vM := mI (mL (mL (mI M 17 us t) 15 us v1) 16 us v2) 1 5 (nI (us + 1))
def gPrint (M : vM) (od pd : Nat) (v : Int32) : vM := if nI pd < 200 then mI (mI M 21 ((od + pd) % 200) v) 2 2 (nI (pd + 1)) else mI (mI M 21 ((od + pd) % 200) v) 2 1 (nI ((od + 1) % 200))
theorem rem_200 {a : Nat} (h : a < 2 ^ 31) : nI a - nI a / 200 * 200 = nI (a % 200) := by
  have h1 : nI a / 200 = nI (a / 200) := by
    apply Int32.toInt_inj.mp
    rw [Int32.toInt_div_of_ne_left _ _ (fun z9 => by have h9 := congrArg Int32.toInt z9; rw [nI_toInt h, Int32.toInt_minValue] at h9; omega), nI_toInt h, nI_toInt (by omega), show (200 : Int32).toInt = 200 by decide]
    exact (Int.ofNat_tdiv a 200).symm
  rw [h1, show (200 : Int32) = nI 200 from rfl, show nI (a / 200) * nI 200 = nI (a / 200 * 200) from (Int32.ofNat_mul _ _).symm, pk_sub (by omega)]
  congr 1
  omega
set_option maxHeartbeats 4000000 in
set_option maxRecDepth 100000 in
theorem c_X6_isInTransaction {l : Launch} {D : va_G} {Y : Nat → ClassId} {zz : Nat → Nat} {n s cp cq : Nat} {ad : Nat → Nat} {M : vM} {i : Nat} (hi : i < n) (h16 : i < 16)  : Ct l D Y zz yX6_isInTransaction cX6_isInTransaction 1 (some FieldType.boolean) 0 0 [.ref (ad (tb i))] (wK Y n s cp cq ad M) 0 0 (fun r w => r = some (.int (bP (0 ≤ M.1 (tb i) 13))) ∧ w = wK Y n s cp cq ad M) := by
  refine v_entry (by decide +kernel) (Nat.le_of_ble_eq_true rfl) ?_
  intro K X R hR hnm hl hD hY hz
  subst hl hD hY hz
  refine v_sub (lv' := [(0, .ref (ad (tb i)))]) [0] rfl ?_
  refine v_aload_n (pc' := 1) (i := 0) (j := 0) X dX6_isInTransaction_0 rfl rfl rfl ?_
  refine fk_X6_54 (pc' := 4) X hi h16 (v := M.1 (tb i) 13) rfl dX6_isInTransaction_1 rfl ?_
  refine v_if_lt (pc' := 7) (tgt := 11) X dX6_isInTransaction_4 (by decide) rfl (fun hc_4 => ?_) (fun hc_4 => ?_)
  -- taken 4
  · refine v_iconst (pc' := 12) (v := 0) X dX6_isInTransaction_11 (by decide) rfl ?_
    refine v_zreturn X R (by decide) (Nat.zero_le _) (Nat.zero_le _) dX6_isInTransaction_12 ?_
    exact ⟨by rw [bP_f (fun z9 => Int32.not_lt.mpr z9 hc_4)], rfl⟩
  -- not taken 4
  · refine v_iconst (pc' := 8) (v := 1) X dX6_isInTransaction_7 (by decide) rfl ?_
    refine v_goto (pc' := 12) X dX6_isInTransaction_8 (by decide) ?_
    refine v_zreturn X R (by decide) (Nat.zero_le _) (Nat.zero_le _) dX6_isInTransaction_12 ?_
    exact ⟨by rw [bP_t (Int32.not_lt.mp hc_4)], rfl⟩
set_option maxHeartbeats 4000000 in
set_option maxRecDepth 100000 in
theorem c_X6_callsOfInnermostNest {l : Launch} {D : va_G} {Y : Nat → ClassId} {zz : Nat → Nat} {n s cp cq : Nat} {ad : Nat → Nat} {M : vM} {i e : Nat} (hi : i < n) (h16 : i < 16) (h12 : M.1 (tb i) 12 = nI e) (he : e ≤ 24) : Ct l D Y zz yX6_callsOfInnermostNest cX6_callsOfInnermostNest 1 (some FieldType.int) 0 0 [.ref (ad (tb i))] (wK Y n s cp cq ad M) 0 0 (fun r w => r = some (.int (if e = 0 then 0 else M.1 (tb i + 13) (e - 1))) ∧ w = wK Y n s cp cq ad M) := by
  refine v_entry (by decide +kernel) (Nat.le_of_ble_eq_true rfl) ?_
  intro K X R hR hnm hl hD hY hz
  subst hl hD hY hz
  refine v_sub (lv' := [(0, .ref (ad (tb i)))]) [0] rfl ?_
  refine v_aload_n (pc' := 1) (i := 0) (j := 0) X dX6_callsOfInnermostNest_0 rfl rfl rfl ?_
  refine fk_X6_51 (pc' := 4) X hi h16 (v := nI e) h12 dX6_callsOfInnermostNest_1 rfl ?_
  refine v_if_le (pc' := 7) (tgt := 21) X dX6_callsOfInnermostNest_4 (by decide) rfl (fun hc_4 => ?_) (fun hc_4 => ?_)
  -- taken 4
  · refine v_iconst (pc' := 22) (v := 0) X dX6_callsOfInnermostNest_21 (by decide) rfl ?_
    refine v_ireturn X R (Nat.zero_le _) (Nat.zero_le _) dX6_callsOfInnermostNest_22 ?_
    have he0 : e = 0 := by
      rcases Nat.eq_zero_or_pos e with q9 | q9
      · exact q9
      · exact absurd hc_4 (fun z9 => absurd (nI_le (a := 1) (b := e) q9 (by omega)) (Int32.not_le.mpr (Int32.lt_of_le_of_lt z9 (by decide))))
    rw [if_pos he0]
    exact ⟨rfl, rfl⟩
  -- not taken 4
  · have he1 : 1 ≤ e := by
      rcases Nat.eq_zero_or_pos e with q9 | q9
      · exact absurd (by rw [q9]; decide) hc_4
      · exact q9
    refine v_aload_n (pc' := 8) (i := 0) (j := 0) X dX6_callsOfInnermostNest_7 rfl rfl rfl ?_
    refine fk_X6_25 (pc' := 11) X hi h16 dX6_callsOfInnermostNest_8 rfl ?_
    refine v_aload_n (pc' := 12) (i := 0) (j := 0) X dX6_callsOfInnermostNest_11 rfl rfl rfl ?_
    refine fk_X6_51 (pc' := 15) X hi h16 (v := nI e) h12 dX6_callsOfInnermostNest_12 rfl ?_
    refine v_iconst (pc' := 16) (v := 1) X dX6_callsOfInnermostNest_15 (by decide) rfl ?_
    refine v_isubV (pc' := 17) (v := nI (e - 1)) X (pk_sub (a := e) (b := 1) (by omega)) dX6_callsOfInnermostNest_16 rfl ?_
    refine ak_G13 (pc' := 18) X hi h16 (v := M.1 (tb i + 13) (e - 1)) (e - 1) rfl (by omega) rfl dX6_callsOfInnermostNest_17 rfl ?_
    refine v_goto (pc' := 22) X dX6_callsOfInnermostNest_18 (by decide) ?_
    refine v_ireturn X R (Nat.zero_le _) (Nat.zero_le _) dX6_callsOfInnermostNest_22 ?_
    have he0 : ¬ e = 0 := fun z9 => hc_4 (by rw [z9]; decide)
    rw [if_neg he0]
    exact ⟨rfl, rfl⟩
set_option maxHeartbeats 4000000 in
set_option maxRecDepth 100000 in
theorem c_X6_enter {l : Launch} {D : va_G} {Y : Nat → ClassId} {zz : Nat → Nat} {n s cp cq : Nat} {ad : Nat → Nat} {M : vM} {i ca : Nat} (hi : i < n) (h16 : i < 16) (h11 : M.1 (tb i) 11 = nI ca) (hca : ca < 40) {t : Int32} : Ct l D Y zz yX6_enter cX6_enter 2 none 0 0 [.ref (ad (tb i)), .int t] (wK Y n s cp cq ad M) 0 0 (fun r w => r = none ∧ w = wK Y n s cp cq ad (gEnter M (tb i) ca t)) := by
  refine v_entry (by decide +kernel) (Nat.le_of_ble_eq_true rfl) ?_
  intro K X R hR hnm hl hD hY hz
  subst hl hD hY hz
  refine v_sub (lv' := [(0, .ref (ad (tb i))), (1, .int t)]) [0, 1] rfl ?_
  refine v_aload_n (pc' := 1) (i := 0) (j := 0) X dX6_enter_0 rfl rfl rfl ?_
  refine fk_X6_15 (pc' := 4) X hi h16 dX6_enter_1 rfl ?_
  refine v_aload_n (pc' := 5) (i := 0) (j := 0) X dX6_enter_4 rfl rfl rfl ?_
  refine fk_X6_48 (pc' := 8) X hi h16 (v := nI ca) h11 dX6_enter_5 rfl ?_
  refine v_aload_n (pc' := 9) (i := 0) (j := 0) X dX6_enter_8 rfl rfl rfl ?_
  refine fk_X6_57 (pc' := 12) X hi h16 (v := M.1 (tb i) 10) rfl dX6_enter_9 rfl ?_
  refine aq_G10 (pc' := 13) X hi h16 (ca) rfl (by omega) dX6_enter_12 rfl ?_
  refine v_aload_n (pc' := 14) (i := 0) (j := 0) X dX6_enter_13 rfl rfl rfl ?_
  refine v_dup (pc' := 15) X dX6_enter_14 rfl rfl ?_
  refine fk_X6_48 (pc' := 18) X hi h16 (v := nI ca) ((congrFun (mI_n _ _ _ _ (by omega)) _).trans h11) dX6_enter_15 rfl ?_
  refine v_iconst (pc' := 19) (v := 1) X dX6_enter_18 (by decide) rfl ?_
  refine v_iaddV (pc' := 20) (v := nI (ca + 1)) X (nI_add (ca) 1) dX6_enter_19 rfl ?_
  refine fq_X6_48 (pc' := 23) X hi h16 dX6_enter_20 rfl ?_
  refine v_aload_n (pc' := 24) (i := 0) (j := 0) X dX6_enter_23 rfl rfl rfl ?_
  refine v_iload_n (pc' := 25) (i := 1) (j := 1) X dX6_enter_24 rfl rfl rfl ?_
  refine fq_X6_57 (pc' := 28) X hi h16 dX6_enter_25 rfl ?_
  refine v_return X R (Nat.zero_le _) (Nat.zero_le _) dX6_enter_28 ?_
  exact ⟨rfl, rfl⟩
set_option maxHeartbeats 4000000 in
set_option maxRecDepth 100000 in
theorem c_X6_leave {l : Launch} {D : va_G} {Y : Nat → ClassId} {zz : Nat → Nat} {n s cp cq : Nat} {ad : Nat → Nat} {M : vM} {i ca : Nat} (hi : i < n) (h16 : i < 16) (h11 : M.1 (tb i) 11 = nI ca) (hca : ca ≤ 40) (hc1 : 1 ≤ ca) : Ct l D Y zz yX6_leave cX6_leave 1 none 0 0 [.ref (ad (tb i))] (wK Y n s cp cq ad M) 0 0 (fun r w => r = none ∧ w = wK Y n s cp cq ad (gLeave M (tb i) ca)) := by
  refine v_entry (by decide +kernel) (Nat.le_of_ble_eq_true rfl) ?_
  intro K X R hR hnm hl hD hY hz
  subst hl hD hY hz
  refine v_sub (lv' := [(0, .ref (ad (tb i)))]) [0] rfl ?_
  refine v_aload_n (pc' := 1) (i := 0) (j := 0) X dX6_leave_0 rfl rfl rfl ?_
  refine v_dup (pc' := 2) X dX6_leave_1 rfl rfl ?_
  refine fk_X6_48 (pc' := 5) X hi h16 (v := nI ca) h11 dX6_leave_2 rfl ?_
  refine v_iconst (pc' := 6) (v := 1) X dX6_leave_5 (by decide) rfl ?_
  refine v_isubV (pc' := 7) (v := nI (ca - 1)) X (pk_sub (a := ca) (b := 1) (by omega)) dX6_leave_6 rfl ?_
  refine fq_X6_48 (pc' := 10) X hi h16 dX6_leave_7 rfl ?_
  refine v_aload_n (pc' := 11) (i := 0) (j := 0) X dX6_leave_10 rfl rfl rfl ?_
  refine v_aload_n (pc' := 12) (i := 0) (j := 0) X dX6_leave_11 rfl rfl rfl ?_
  refine fk_X6_15 (pc' := 15) X hi h16 dX6_leave_12 rfl ?_
  refine v_aload_n (pc' := 16) (i := 0) (j := 0) X dX6_leave_15 rfl rfl rfl ?_
  refine fk_X6_48 (pc' := 19) X hi h16 (v := nI (ca - 1)) (mI_s _ _ _ _) dX6_leave_16 rfl ?_
  refine ak_G10 (pc' := 20) X hi h16 (v := M.1 (tb i + 10) (ca - 1)) (ca - 1) rfl (by omega) (congrFun (mI_n _ _ _ _ (by omega)) _) dX6_leave_19 rfl ?_
  refine fq_X6_57 (pc' := 23) X hi h16 dX6_leave_20 rfl ?_
  refine v_return X R (Nat.zero_le _) (Nat.zero_le _) dX6_leave_23 ?_
  exact ⟨rfl, rfl⟩
set_option maxHeartbeats 4000000 in
set_option maxRecDepth 100000 in
theorem c_X6_dropNestsTo {l : Launch} {D : va_G} {Y : Nat → ClassId} {zz : Nat → Nat} {n s cp cq : Nat} {ad : Nat → Nat} {M : vM} {i : Nat} (hi : i < n) (h16 : i < 16) {k : Int32} : Ct l D Y zz yX6_dropNestsTo cX6_dropNestsTo 2 none 0 0 [.ref (ad (tb i)), .int k] (wK Y n s cp cq ad M) 0 0 (fun r w => r = none ∧ w = wK Y n s cp cq ad (gDrop M (tb i) k)) := by
  refine v_entry (by decide +kernel) (Nat.le_of_ble_eq_true rfl) ?_
  intro K X R hR hnm hl hD hY hz
  subst hl hD hY hz
  refine v_sub (lv' := [(0, .ref (ad (tb i))), (1, .int k)]) [0, 1] rfl ?_
  refine v_aload_n (pc' := 1) (i := 0) (j := 0) X dX6_dropNestsTo_0 rfl rfl rfl ?_
  refine v_iload_n (pc' := 2) (i := 1) (j := 1) X dX6_dropNestsTo_1 rfl rfl rfl ?_
  refine fq_X6_51 (pc' := 5) X hi h16 dX6_dropNestsTo_2 rfl ?_
  refine v_aload_n (pc' := 6) (i := 0) (j := 0) X dX6_dropNestsTo_5 rfl rfl rfl ?_
  refine fk_X6_54 (pc' := 9) X hi h16 (v := M.1 (tb i) 13) (mI_o _ _ _ _ (by decide)) dX6_dropNestsTo_6 rfl ?_
  refine v_iload_n (pc' := 10) (i := 1) (j := 1) X dX6_dropNestsTo_9 rfl rfl rfl ?_
  refine v_icmp_lt (pc' := 13) (tgt := 18) X dX6_dropNestsTo_10 (by decide) rfl (fun hc_10 => ?_) (fun hc_10 => ?_)
  -- taken 10
  · refine v_return X R (Nat.zero_le _) (Nat.zero_le _) dX6_dropNestsTo_18 ?_
    unfold gDrop
    rw [if_neg (Int32.not_le.mpr hc_10)]
    exact ⟨rfl, rfl⟩
  -- not taken 10
  · refine v_aload_n (pc' := 14) (i := 0) (j := 0) X dX6_dropNestsTo_13 rfl rfl rfl ?_
    refine v_iconst (pc' := 15) (v := (-1)) X dX6_dropNestsTo_14 (by decide) rfl ?_
    refine fq_X6_54 (pc' := 18) X hi h16 dX6_dropNestsTo_15 rfl ?_
    refine v_return X R (Nat.zero_le _) (Nat.zero_le _) dX6_dropNestsTo_18 ?_
    unfold gDrop
    rw [if_pos (Int32.not_lt.mp hc_10)]
    exact ⟨rfl, rfl⟩
set_option maxHeartbeats 4000000 in
set_option maxRecDepth 100000 in
theorem c_X6_registersKept {l : Launch} {D : va_G} {Y : Nat → ClassId} {zz : Nat → Nat} {n s cp cq : Nat} {ad : Nat → Nat} {M : vM} {i : Nat} (hi : i < n) (h16 : i < 16)  : Ct l D Y zz yX6_registersKept cX6_registersKept 1 (some FieldType.int) 0 0 [.ref (ad (tb i))] (wK Y n s cp cq ad M) 0 0 (fun r w => r = some (.int (if M.1 (tb i) 8 = 3 then 1 else if M.1 (tb i) 8 = 4 then 0 else 16)) ∧ w = wK Y n s cp cq ad M) := by
  refine v_entry (by decide +kernel) (Nat.le_of_ble_eq_true rfl) ?_
  intro K X R hR hnm hl hD hY hz
  subst hl hD hY hz
  refine v_sub (lv' := [(0, .ref (ad (tb i)))]) [0] rfl ?_
  refine v_aload_n (pc' := 1) (i := 0) (j := 0) X dX6_registersKept_0 rfl rfl rfl ?_
  refine fk_X6_41 (pc' := 4) X hi h16 (v := M.1 (tb i) 8) rfl dX6_registersKept_1 rfl ?_
  refine v_iconst (pc' := 5) (v := 3) X dX6_registersKept_4 (by decide) rfl ?_
  refine v_icmp_ne (pc' := 8) (tgt := 12) X dX6_registersKept_5 (by decide) rfl (fun hc_5 => ?_) (fun hc_5 => ?_)
  -- taken 5
  · refine v_aload_n (pc' := 13) (i := 0) (j := 0) X dX6_registersKept_12 rfl rfl rfl ?_
    refine fk_X6_41 (pc' := 16) X hi h16 (v := M.1 (tb i) 8) rfl dX6_registersKept_13 rfl ?_
    refine v_iconst (pc' := 17) (v := 4) X dX6_registersKept_16 (by decide) rfl ?_
    refine v_icmp_ne (pc' := 20) (tgt := 24) X dX6_registersKept_17 (by decide) rfl (fun hc_17 => ?_) (fun hc_17 => ?_)
    -- taken 17
    · refine v_bipush (pc' := 26) (v := 16) X dX6_registersKept_24 (by decide) rfl ?_
      refine v_ireturn X R (Nat.zero_le _) (Nat.zero_le _) dX6_registersKept_26 ?_
      rw [if_neg hc_5, if_neg hc_17]
      exact ⟨rfl, rfl⟩
    -- not taken 17
    · refine v_iconst (pc' := 21) (v := 0) X dX6_registersKept_20 (by decide) rfl ?_
      refine v_goto (pc' := 26) X dX6_registersKept_21 (by decide) ?_
      refine v_ireturn X R (Nat.zero_le _) (Nat.zero_le _) dX6_registersKept_26 ?_
      rw [if_neg hc_5, if_pos hc_17]
      exact ⟨rfl, rfl⟩
  -- not taken 5
  · refine v_iconst (pc' := 9) (v := 1) X dX6_registersKept_8 (by decide) rfl ?_
    refine v_goto (pc' := 26) X dX6_registersKept_9 (by decide) ?_
    refine v_ireturn X R (Nat.zero_le _) (Nat.zero_le _) dX6_registersKept_26 ?_
    rw [if_pos hc_5]
    exact ⟨rfl, rfl⟩
set_option maxHeartbeats 4000000 in
set_option maxRecDepth 100000 in
theorem c_X3_begin {l : Launch} {D : va_G} {Y : Nat → ClassId} {zz : Nat → Nat} {n s cp cq : Nat} {ad : Nat → Nat} {M : vM} {i : Nat} (hi : i < n) (h16 : i < 16) {c : Int32} : Ct l D Y zz yX3_begin cX3_begin 2 none 0 0 [.ref (ad (tb i + 18)), .int c] (wK Y n s cp cq ad M) 0 0 (fun r w => r = none ∧ w = wK Y n s cp cq ad (gBegin M (tb i) c)) := by
  refine v_entry (by decide +kernel) (Nat.le_of_ble_eq_true rfl) ?_
  intro K X R hR hnm hl hD hY hz
  subst hl hD hY hz
  refine v_sub (lv' := [(0, .ref (ad (tb i + 18))), (1, .int c)]) [0, 1] rfl ?_
  refine v_aload_n (pc' := 1) (i := 0) (j := 0) X dX3_begin_0 rfl rfl rfl ?_
  refine v_iconst (pc' := 2) (v := 0) X dX3_begin_1 (by decide) rfl ?_
  refine fq_X3_22 (pc' := 5) X hi h16 dX3_begin_2 rfl ?_
  refine v_aload_n (pc' := 6) (i := 0) (j := 0) X dX3_begin_5 rfl rfl rfl ?_
  refine v_iconst (pc' := 7) (v := 0) X dX3_begin_6 (by decide) rfl ?_
  refine fq_X3_26 (pc' := 10) X hi h16 dX3_begin_7 rfl ?_
  refine v_aload_n (pc' := 11) (i := 0) (j := 0) X dX3_begin_10 rfl rfl rfl ?_
  refine v_iload_n (pc' := 12) (i := 1) (j := 1) X dX3_begin_11 rfl rfl rfl ?_
  refine fq_X3_29 (pc' := 15) X hi h16 dX3_begin_12 rfl ?_
  refine v_return X R (Nat.zero_le _) (Nat.zero_le _) dX3_begin_15 ?_
  exact ⟨rfl, rfl⟩
set_option maxHeartbeats 4000000 in
set_option maxRecDepth 100000 in
theorem c_X3_clear {l : Launch} {D : va_G} {Y : Nat → ClassId} {zz : Nat → Nat} {n s cp cq : Nat} {ad : Nat → Nat} {M : vM} {i : Nat} (hi : i < n) (h16 : i < 16)  : Ct l D Y zz yX3_clear cX3_clear 1 none 0 0 [.ref (ad (tb i + 18))] (wK Y n s cp cq ad M) 0 0 (fun r w => r = none ∧ w = wK Y n s cp cq ad (gClear M (tb i))) := by
  refine v_entry (by decide +kernel) (Nat.le_of_ble_eq_true rfl) ?_
  intro K X R hR hnm hl hD hY hz
  subst hl hD hY hz
  refine v_sub (lv' := [(0, .ref (ad (tb i + 18)))]) [0] rfl ?_
  refine v_aload_n (pc' := 1) (i := 0) (j := 0) X dX3_clear_0 rfl rfl rfl ?_
  refine v_iconst (pc' := 2) (v := 0) X dX3_clear_1 (by decide) rfl ?_
  refine fq_X3_22 (pc' := 5) X hi h16 dX3_clear_2 rfl ?_
  refine v_aload_n (pc' := 6) (i := 0) (j := 0) X dX3_clear_5 rfl rfl rfl ?_
  refine v_iconst (pc' := 7) (v := 0) X dX3_clear_6 (by decide) rfl ?_
  refine fq_X3_26 (pc' := 10) X hi h16 dX3_clear_7 rfl ?_
  refine v_return X R (Nat.zero_le _) (Nat.zero_le _) dX3_clear_10 ?_
  exact ⟨rfl, rfl⟩
set_option maxHeartbeats 4000000 in
set_option maxRecDepth 100000 in
theorem c_X3_addRead {l : Launch} {D : va_G} {Y : Nat → ClassId} {zz : Nat → Nat} {n s cp cq : Nat} {ad : Nat → Nat} {M : vM} {i r9 : Nat} (hi : i < n) (h16 : i < 16) (h3 : M.1 (tb i + 18) 3 = nI r9) (hr : r9 < 40) {p : Int32} : Ct l D Y zz yX3_addRead cX3_addRead 2 none 0 0 [.ref (ad (tb i + 18)), .int p] (wK Y n s cp cq ad M) 0 0 (fun r w => r = none ∧ w = wK Y n s cp cq ad (mI (mI M (tb i + 15) r9 p) (tb i + 18) 3 (nI (r9 + 1)))) := by
  refine v_entry (by decide +kernel) (Nat.le_of_ble_eq_true rfl) ?_
  intro K X R hR hnm hl hD hY hz
  subst hl hD hY hz
  refine v_sub (lv' := [(0, .ref (ad (tb i + 18))), (1, .int p)]) [0, 1] rfl ?_
  refine v_aload_n (pc' := 1) (i := 0) (j := 0) X dX3_addRead_0 rfl rfl rfl ?_
  refine fk_X3_9 (pc' := 4) X hi h16 dX3_addRead_1 rfl ?_
  refine v_aload_n (pc' := 5) (i := 0) (j := 0) X dX3_addRead_4 rfl rfl rfl ?_
  refine fk_X3_22 (pc' := 8) X hi h16 (v := nI r9) h3 dX3_addRead_5 rfl ?_
  refine v_iload_n (pc' := 9) (i := 1) (j := 1) X dX3_addRead_8 rfl rfl rfl ?_
  refine aq_G15 (pc' := 10) X hi h16 (r9) rfl (by omega) dX3_addRead_9 rfl ?_
  refine v_aload_n (pc' := 11) (i := 0) (j := 0) X dX3_addRead_10 rfl rfl rfl ?_
  refine v_dup (pc' := 12) X dX3_addRead_11 rfl rfl ?_
  refine fk_X3_22 (pc' := 15) X hi h16 (v := nI r9) ((congrFun (mI_n _ _ _ _ (by omega)) _).trans h3) dX3_addRead_12 rfl ?_
  refine v_iconst (pc' := 16) (v := 1) X dX3_addRead_15 (by decide) rfl ?_
  refine v_iaddV (pc' := 17) (v := nI (r9 + 1)) X (nI_add (r9) 1) dX3_addRead_16 rfl ?_
  refine fq_X3_22 (pc' := 20) X hi h16 dX3_addRead_17 rfl ?_
  refine v_return X R (Nat.zero_le _) (Nat.zero_le _) dX3_addRead_20 ?_
  exact ⟨rfl, rfl⟩
set_option maxHeartbeats 4000000 in
set_option maxRecDepth 100000 in
theorem c_X3_addWrite {l : Launch} {D : va_G} {Y : Nat → ClassId} {zz : Nat → Nat} {n s cp cq : Nat} {ad : Nat → Nat} {M : vM} {i w9 : Nat} (hi : i < n) (h16 : i < 16) (h4 : M.1 (tb i + 18) 4 = nI w9) (hw : w9 < 40) {p : Int32} {v : Int64} : Ct l D Y zz yX3_addWrite cX3_addWrite 4 none 0 0 [.ref (ad (tb i + 18)), .int p, .long v] (wK Y n s cp cq ad M) 0 0 (fun r w => r = none ∧ w = wK Y n s cp cq ad (mI (mL (mI M (tb i + 16) w9 p) (tb i + 17) w9 v) (tb i + 18) 4 (nI (w9 + 1)))) := by
  refine v_entry (by decide +kernel) (Nat.le_of_ble_eq_true rfl) ?_
  intro K X R hR hnm hl hD hY hz
  subst hl hD hY hz
  refine v_sub (lv' := [(0, .ref (ad (tb i + 18))), (1, .int p), (2, .long v)]) [0, 1, 2] rfl ?_
  refine v_aload_n (pc' := 1) (i := 0) (j := 0) X dX3_addWrite_0 rfl rfl rfl ?_
  refine fk_X3_15 (pc' := 4) X hi h16 dX3_addWrite_1 rfl ?_
  refine v_aload_n (pc' := 5) (i := 0) (j := 0) X dX3_addWrite_4 rfl rfl rfl ?_
  refine fk_X3_26 (pc' := 8) X hi h16 (v := nI w9) h4 dX3_addWrite_5 rfl ?_
  refine v_iload_n (pc' := 9) (i := 1) (j := 1) X dX3_addWrite_8 rfl rfl rfl ?_
  refine aq_G16 (pc' := 10) X hi h16 (w9) rfl (by omega) dX3_addWrite_9 rfl ?_
  refine v_aload_n (pc' := 11) (i := 0) (j := 0) X dX3_addWrite_10 rfl rfl rfl ?_
  refine fk_X3_18 (pc' := 14) X hi h16 dX3_addWrite_11 rfl ?_
  refine v_aload_n (pc' := 15) (i := 0) (j := 0) X dX3_addWrite_14 rfl rfl rfl ?_
  refine fk_X3_26 (pc' := 18) X hi h16 (v := nI w9) ((congrFun (mI_n _ _ _ _ (by omega)) _).trans h4) dX3_addWrite_15 rfl ?_
  refine v_lload_n (pc' := 19) (i := 2) (j := 2) X dX3_addWrite_18 rfl rfl rfl ?_
  refine aq_G17 (pc' := 20) X hi h16 (w9) rfl (by omega) dX3_addWrite_19 rfl ?_
  refine v_aload_n (pc' := 21) (i := 0) (j := 0) X dX3_addWrite_20 rfl rfl rfl ?_
  refine v_dup (pc' := 22) X dX3_addWrite_21 rfl rfl ?_
  refine fk_X3_26 (pc' := 25) X hi h16 (v := nI w9) ((congrFun (congrFun (mL_1 _ _ _ _) _) _).trans ((congrFun (mI_n _ _ _ _ (by omega)) _).trans h4)) dX3_addWrite_22 rfl ?_
  refine v_iconst (pc' := 26) (v := 1) X dX3_addWrite_25 (by decide) rfl ?_
  refine v_iaddV (pc' := 27) (v := nI (w9 + 1)) X (nI_add (w9) 1) dX3_addWrite_26 rfl ?_
  refine fq_X3_26 (pc' := 30) X hi h16 dX3_addWrite_27 rfl ?_
  refine v_return X R (Nat.zero_le _) (Nat.zero_le _) dX3_addWrite_30 ?_
  exact ⟨rfl, rfl⟩
set_option maxHeartbeats 4000000 in
set_option maxRecDepth 100000 in
theorem c_X1_fillNext {l : Launch} {D : va_G} {Y : Nat → ClassId} {zz : Nat → Nat} {n s cp cq : Nat} {ad : Nat → Nat} {M : vM} {us : Nat} (h5 : M.1 1 5 = nI us) (hu : us < 200) {t : Int32} {v1 v2 : Int64} : Ct l D Y zz yX1_fillNext cX1_fillNext 7 (some FieldType.int) 0 0 [.ref (ad (1)), .int t, .long v1, .long v2] (wK Y n s cp cq ad M) 0 0 (fun r w => r = some (.int (nI us)) ∧ w = wK Y n s cp cq ad (gFill M us t v1 v2)) := by
  refine v_entry (by decide +kernel) (Nat.le_of_ble_eq_true rfl) ?_
  intro K X R hR hnm hl hD hY hz
  subst hl hD hY hz
  refine v_sub (lv' := [(0, .ref (ad (1))), (1, .int t), (2, .long v1), (4, .long v2)]) [0, 1, 2, 3] rfl ?_
  refine v_aload_n (pc' := 1) (i := 0) (j := 0) X dX1_fillNext_0 rfl rfl rfl ?_
  refine fk_X1_28 (pc' := 4) X (v := nI us) h5 dX1_fillNext_1 rfl ?_
  refine v_istore (pc' := 6) (lv' := [(6, .int (nI us)), (0, .ref (ad (1))), (1, .int t), (2, .long v1), (4, .long v2)]) X dX1_fillNext_4 (by decide) rfl rfl ?_
  refine v_aload_n (pc' := 7) (i := 0) (j := 1) X dX1_fillNext_6 rfl rfl rfl ?_
  refine fk_X1_9 (pc' := 10) X dX1_fillNext_7 rfl ?_
  refine v_iload (pc' := 12) (j := 0) X dX1_fillNext_10 rfl rfl ?_
  refine v_iload_n (pc' := 13) (i := 1) (j := 2) X dX1_fillNext_12 rfl rfl rfl ?_
  refine aq_K17 (pc' := 14) X (us) rfl (by omega) dX1_fillNext_13 rfl ?_
  refine v_aload_n (pc' := 15) (i := 0) (j := 1) X dX1_fillNext_14 rfl rfl rfl ?_
  refine fk_X1_15 (pc' := 18) X dX1_fillNext_15 rfl ?_
  refine v_iload (pc' := 20) (j := 0) X dX1_fillNext_18 rfl rfl ?_
  refine v_lload_n (pc' := 21) (i := 2) (j := 3) X dX1_fillNext_20 rfl rfl rfl ?_
  refine aq_K15 (pc' := 22) X (us) rfl (by omega) dX1_fillNext_21 rfl ?_
  refine v_aload_n (pc' := 23) (i := 0) (j := 1) X dX1_fillNext_22 rfl rfl rfl ?_
  refine fk_X1_19 (pc' := 26) X dX1_fillNext_23 rfl ?_
  refine v_iload (pc' := 28) (j := 0) X dX1_fillNext_26 rfl rfl ?_
  refine v_lload (pc' := 30) (j := 4) X dX1_fillNext_28 rfl rfl ?_
  refine aq_K16 (pc' := 31) X (us) rfl (by omega) dX1_fillNext_30 rfl ?_
  refine v_aload_n (pc' := 32) (i := 0) (j := 1) X dX1_fillNext_31 rfl rfl rfl ?_
  refine v_dup (pc' := 33) X dX1_fillNext_32 rfl rfl ?_
  refine fk_X1_28 (pc' := 36) X (v := nI us) ((congrFun (congrFun (mL_1 _ _ _ _) _) _).trans ((congrFun (congrFun (mL_1 _ _ _ _) _) _).trans ((congrFun (mI_n _ _ _ _ (by decide)) _).trans h5))) dX1_fillNext_33 rfl ?_
  refine v_iconst (pc' := 37) (v := 1) X dX1_fillNext_36 (by decide) rfl ?_
  refine v_iaddV (pc' := 38) (v := nI (us + 1)) X (nI_add (us) 1) dX1_fillNext_37 rfl ?_
  refine fq_X1_28 (pc' := 41) X dX1_fillNext_38 rfl ?_
  refine v_iload (pc' := 43) (j := 0) X dX1_fillNext_41 rfl rfl ?_
  refine v_ireturn X R (Nat.zero_le _) (Nat.zero_le _) dX1_fillNext_43 ?_
  exact ⟨rfl, rfl⟩
set_option maxHeartbeats 4000000 in
set_option maxRecDepth 100000 in
theorem c_X1_newPair {l : Launch} {D : va_G} {Y : Nat → ClassId} {zz : Nat → Nat} {n s cp cq : Nat} {ad : Nat → Nat} {M : vM} {us : Nat} (h5 : M.1 1 5 = nI us) (hu : us < 200) {v1 v2 : Int64} : Ct l D Y zz yX1_newPair cX1_newPair 5 (some FieldType.long) 1 26 [.ref (ad (1)), .long v1, .long v2] (wK Y n s cp cq ad M) 0 0 (fun r w => r = some (.long (8589934592 + lN us)) ∧ w = wK Y n s cp cq ad (gFill M us 1 v1 v2)) := by
  refine v_entry (by decide +kernel) (Nat.le_of_ble_eq_true rfl) ?_
  intro K X R hR hnm hl hD hY hz
  subst hl hD hY hz
  refine v_sub (lv' := [(0, .ref (ad (1))), (1, .long v1), (3, .long v2)]) [0, 1, 2] rfl ?_
  refine v_ldc2 (pc' := 3) (v := 8589934592) X dX1_newPair_0 w_kl_X1_35 rfl ?_
  refine v_aload_n (pc' := 4) (i := 0) (j := 0) X dX1_newPair_3 rfl rfl rfl ?_
  refine v_iconst (pc' := 5) (v := 1) X dX1_newPair_4 (by decide) rfl ?_
  refine v_lload_n (pc' := 6) (i := 1) (j := 1) X dX1_newPair_5 rfl rfl rfl ?_
  refine v_lload_n (pc' := 7) (i := 3) (j := 2) X dX1_newPair_6 rfl rfl rfl ?_
  refine v_callV (pc' := 10) X (st := [.long 8589934592]) (c_X1_fillNext (M := M) h5 hu) k_X1_fillNext w_ml_X1_37 w_im_X1_fillNext w_se_X1_X1_fillNext rw_X1 (by rw [hR]; exact ⟨Nat.le_of_ble_eq_true rfl, Nat.le_of_ble_eq_true rfl⟩) rfl rfl (Nat.le_of_ble_eq_true rfl) dX1_newPair_7 rfl (⟨Nat.zero_le _, Nat.zero_le _⟩) ?_
  rintro _ _ ⟨rfl, rfl⟩
  refine v_i2l (pc' := 11) X dX1_newPair_10 rfl rfl ?_
  refine v_ladd (pc' := 12) X dX1_newPair_11 rfl ?_
  refine v_lreturn X R (Nat.zero_le _) (Nat.zero_le _) dX1_newPair_12 ?_
  exact ⟨by rw [nI_l (by omega)], rfl⟩
set_option maxHeartbeats 4000000 in
set_option maxRecDepth 100000 in
theorem c_X1_newVar {l : Launch} {D : va_G} {Y : Nat → ClassId} {zz : Nat → Nat} {n s cp cq : Nat} {ad : Nat → Nat} {M : vM} {us : Nat} (h5 : M.1 1 5 = nI us) (hu : us < 200) {v1 : Int64} : Ct l D Y zz yX1_newVar cX1_newVar 3 (some FieldType.long) 1 26 [.ref (ad (1)), .long v1] (wK Y n s cp cq ad M) 0 0 (fun r w => r = some (.long (17179869184 + lN us)) ∧ w = wK Y n s cp cq ad (gFill M us 2 v1 0)) := by
  refine v_entry (by decide +kernel) (Nat.le_of_ble_eq_true rfl) ?_
  intro K X R hR hnm hl hD hY hz
  subst hl hD hY hz
  refine v_sub (lv' := [(0, .ref (ad (1))), (1, .long v1)]) [0, 1] rfl ?_
  refine v_ldc2 (pc' := 3) (v := 17179869184) X dX1_newVar_0 w_kl_X1_41 rfl ?_
  refine v_aload_n (pc' := 4) (i := 0) (j := 0) X dX1_newVar_3 rfl rfl rfl ?_
  refine v_iconst (pc' := 5) (v := 2) X dX1_newVar_4 (by decide) rfl ?_
  refine v_lload_n (pc' := 6) (i := 1) (j := 1) X dX1_newVar_5 rfl rfl rfl ?_
  refine v_lconst (pc' := 7) (v := 0) X dX1_newVar_6 (by decide) rfl ?_
  refine v_callV (pc' := 10) X (st := [.long 17179869184]) (c_X1_fillNext (M := M) h5 hu) k_X1_fillNext w_ml_X1_37 w_im_X1_fillNext w_se_X1_X1_fillNext rw_X1 (by rw [hR]; exact ⟨Nat.le_of_ble_eq_true rfl, Nat.le_of_ble_eq_true rfl⟩) rfl rfl (Nat.le_of_ble_eq_true rfl) dX1_newVar_7 rfl (⟨Nat.zero_le _, Nat.zero_le _⟩) ?_
  rintro _ _ ⟨rfl, rfl⟩
  refine v_i2l (pc' := 11) X dX1_newVar_10 rfl rfl ?_
  refine v_ladd (pc' := 12) X dX1_newVar_11 rfl ?_
  refine v_lreturn X R (Nat.zero_le _) (Nat.zero_le _) dX1_newVar_12 ?_
  exact ⟨by rw [nI_l (by omega)], rfl⟩
set_option maxHeartbeats 4000000 in
set_option maxRecDepth 100000 in
theorem c_X1_assign {l : Launch} {D : va_G} {Y : Nat → ClassId} {zz : Nat → Nat} {n s cp cq : Nat} {ad : Nat → Nat} {M : vM} {p : Nat} (hp : p < 200) {v : Int64} {c : Int32} : Ct l D Y zz yX1_assign cX1_assign 5 none 0 0 [.ref (ad (1)), .int (nI p), .long v, .int c] (wK Y n s cp cq ad M) 0 0 (fun r w => r = none ∧ w = wK Y n s cp cq ad (mL (mL M 15 p v) 16 p c.toInt64)) := by
  refine v_entry (by decide +kernel) (Nat.le_of_ble_eq_true rfl) ?_
  intro K X R hR hnm hl hD hY hz
  subst hl hD hY hz
  refine v_sub (lv' := [(0, .ref (ad (1))), (1, .int (nI p)), (2, .long v), (4, .int c)]) [0, 1, 2, 3] rfl ?_
  refine v_aload_n (pc' := 1) (i := 0) (j := 0) X dX1_assign_0 rfl rfl rfl ?_
  refine fk_X1_15 (pc' := 4) X dX1_assign_1 rfl ?_
  refine v_iload_n (pc' := 5) (i := 1) (j := 1) X dX1_assign_4 rfl rfl rfl ?_
  refine v_lload_n (pc' := 6) (i := 2) (j := 2) X dX1_assign_5 rfl rfl rfl ?_
  refine aq_K15 (pc' := 7) X (p) rfl (by omega) dX1_assign_6 rfl ?_
  refine v_aload_n (pc' := 8) (i := 0) (j := 0) X dX1_assign_7 rfl rfl rfl ?_
  refine fk_X1_19 (pc' := 11) X dX1_assign_8 rfl ?_
  refine v_iload_n (pc' := 12) (i := 1) (j := 1) X dX1_assign_11 rfl rfl rfl ?_
  refine v_iload (pc' := 14) (j := 3) X dX1_assign_12 rfl rfl ?_
  refine v_i2l (pc' := 15) X dX1_assign_14 rfl rfl ?_
  refine aq_K16 (pc' := 16) X (p) rfl (by omega) dX1_assign_15 rfl ?_
  refine v_return X R (Nat.zero_le _) (Nat.zero_le _) dX1_assign_16 ?_
  exact ⟨rfl, rfl⟩
