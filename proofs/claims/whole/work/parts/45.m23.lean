/-! THE CLASS'S COLLECTION: REACHING -/
theorem and32 (v : Int64) : (v &&& 8589934591).toInt32 = v.toInt32 := by
  apply Int32.toBitVec_inj.mp
  show BitVec.signExtend 32 (v.toBitVec &&& 8589934591#64) = BitVec.signExtend 32 v.toBitVec
  have hk : ∀ k : Fin 32, (8589934591#64).getLsbD k.val = true := by decide
  apply BitVec.eq_of_getLsbD_eq
  intro k hk2
  rw [BitVec.getLsbD_signExtend, BitVec.getLsbD_signExtend]
  have h1 : k < 64 := by omega
  rw [if_pos h1, if_pos h1, BitVec.getLsbD_and, hk ⟨k, hk2⟩, Bool.and_true]
def gReach (M : vM) (v : Int64) : vM := if v < 8589934592 then M else if M.1 20 (pl v) = -1 then mI (mI (mI M 20 (pl v) (nI (pl v))) 18 (nn (M.1 1 6)) (nI (pl v))) 1 6 (nI (nn (M.1 1 6) + 1)) else M
def unm (f : Nat → Int32) : Nat → Int32 := fun p => if f p = -1 then 0 else 1
def RI (M : vM) : Prop := M.1 1 6 = nI (nn (M.1 1 6)) ∧ nn (M.1 1 6) + zcnt (unm (M.1 20)) 200 ≤ 200 ∧ (∀ j, j < nn (M.1 1 6) → nn (M.1 18 j) < 200 ∧ M.1 18 j = nI (nn (M.1 18 j)) ∧ M.1 20 (nn (M.1 18 j)) = M.1 18 j) ∧ (∀ p, p < 200 → M.1 20 p = -1 ∨ (M.1 20 p = nI p ∧ ∃ j, j < nn (M.1 1 6) ∧ M.1 18 j = nI p))
theorem unm_upd {f : Nat → Int32} {p : Nat} (hp : p < 200) : unm (upd f p (nI p)) = upd (unm f) p 1 := by
  funext q
  show (if upd f p (nI p) q = -1 then (0 : Int32) else 1) = if q = p then 1 else (if f q = -1 then 0 else 1)
  by_cases hq : q = p
  · subst hq
    rw [pk_us, if_pos rfl, if_neg]
    intro z9
    have h9 := congrArg Int32.toInt z9
    rw [nI_toInt (by omega)] at h9
    exact absurd h9 (by show ¬ ((q : Int) = -1); omega)
  · rw [pk_un hq, if_neg hq]
theorem RI.room {M : vM} (h : RI M) {p : Nat} (hp : p < 200) (hu : M.1 20 p = -1) : nn (M.1 1 6) < 200 ∧ nn (M.1 1 6) + 1 + zcnt (unm (upd (M.1 20) p (nI p))) 200 ≤ 200 := by
  have h1 := (zcnt_upd (f := unm (M.1 20)) (i := p) (by unfold unm; rw [if_pos hu]) 200).1 hp
  rw [unm_upd hp]
  have h2 := h.2.1
  omega
theorem gReach_20 {M : vM} {v : Int64} (h : ¬ v < 8589934592) (hu : M.1 20 (pl v) = -1) : (gReach M v).1 20 = upd (M.1 20) (pl v) (nI (pl v)) ∧ (gReach M v).1 18 = upd (M.1 18) (nn (M.1 1 6)) (nI (pl v)) ∧ (gReach M v).1 1 6 = nI (nn (M.1 1 6) + 1) := by
  unfold gReach
  rw [if_neg h, if_pos hu]
  refine ⟨?_, ?_, mI_s _ _ _ _⟩
  · rw [mI_n _ _ _ _ (by decide), mI_n _ _ _ _ (by decide), mI_r]
  · rw [mI_n _ _ _ _ (by decide), mI_r, mI_n _ _ _ _ (by decide)]
theorem gReach_RI {M : vM} {v : Int64} (h : RI M) (hv : ok1 v) : RI (gReach M v) := by
  by_cases hi : v < 8589934592
  · have e : gReach M v = M := if_pos hi
    rw [e]; exact h
  · by_cases hu : M.1 20 (pl v) = -1
    · obtain ⟨hp1, hp2⟩ := hv.resolve_left hi
      obtain ⟨e20, e18, e16⟩ := gReach_20 hi hu
      obtain ⟨hr1, hr2⟩ := h.room hp1 hu
      obtain ⟨g1, g2, g3, g4⟩ := h
      have ec : nn (nI (nn (M.1 1 6) + 1)) = nn (M.1 1 6) + 1 := nn_nI (by omega)
      unfold RI
      rw [e20, e18, e16, ec]
      refine ⟨rfl, hr2, fun j hj => ?_, fun p hp => ?_⟩
      · by_cases hjc : j = nn (M.1 1 6)
        · subst hjc
          rw [pk_us, nn_nI (by omega), pk_us]
          exact ⟨hp1, rfl, rfl⟩
        · rw [pk_un hjc]
          obtain ⟨q1, q2, q3⟩ := g3 j (by omega)
          refine ⟨q1, q2, ?_⟩
          by_cases hq : nn (M.1 18 j) = pl v
          · rw [hq, pk_us, q2, hq]
          · rw [pk_un hq]; exact q3
      · by_cases hq : p = pl v
        · subst hq
          exact Or.inr ⟨pk_us, nn (M.1 1 6), by omega, pk_us⟩
        · rw [pk_un hq]
          rcases g4 p hp with q | ⟨q, j, hj, hj2⟩
          · exact Or.inl q
          · exact Or.inr ⟨q, j, by omega, by rw [pk_un (by omega)]; exact hj2⟩
    · have e : gReach M v = M := by unfold gReach; rw [if_neg hi, if_neg hu]
      rw [e]; exact h
set_option maxHeartbeats 4000000 in
set_option maxRecDepth 100000 in
theorem c_X7_placeOf {l : Launch} {D : va_G} {Y : Nat → ClassId} {zz : Nat → Nat} {n s cp cq : Nat} {ad : Nat → Nat} {M : vM} {v : Int64} : Ct l D Y zz yX7_placeOf cX7_placeOf 2 (some FieldType.int) 0 0 [.long v] (wK Y n s cp cq ad M) 0 0 (fun r w => r = some (.int v.toInt32) ∧ w = wK Y n s cp cq ad M) := by
  refine v_entry (by decide +kernel) (Nat.le_of_ble_eq_true rfl) ?_
  intro K X R hR hnm hl hD hY hz
  subst hl hD hY hz
  refine v_sub (lv' := [(0, .long v)]) [0] rfl ?_
  refine v_lload_n (pc' := 1) (i := 0) (j := 0) X dX7_placeOf_0 rfl rfl rfl ?_
  refine v_ldc2 (pc' := 4) (v := 8589934591) X dX7_placeOf_1 w_kl_X7_155 rfl ?_
  refine v_land (pc' := 5) X dX7_placeOf_4 rfl ?_
  refine v_l2i (pc' := 6) X dX7_placeOf_5 rfl rfl ?_
  refine v_ireturn X R (Nat.zero_le _) (Nat.zero_le _) dX7_placeOf_6 ?_
  rw [and32]
  exact ⟨rfl, rfl⟩
set_option maxHeartbeats 4000000 in
set_option maxRecDepth 100000 in
theorem c_X7_sortOf {l : Launch} {D : va_G} {Y : Nat → ClassId} {zz : Nat → Nat} {n s cp cq : Nat} {ad : Nat → Nat} {M : vM} {v : Int64} : Ct l D Y zz yX7_sortOf cX7_sortOf 2 (some FieldType.int) 0 0 [.long v] (wK Y n s cp cq ad M) 0 0 (fun r w => r = some (.int (if 17179869184 ≤ v then 2 else if 8589934592 ≤ v then 1 else 0)) ∧ w = wK Y n s cp cq ad M) := by
  refine v_entry (by decide +kernel) (Nat.le_of_ble_eq_true rfl) ?_
  intro K X R hR hnm hl hD hY hz
  subst hl hD hY hz
  refine v_sub (lv' := [(0, .long v)]) [0] rfl ?_
  refine v_lload_n (pc' := 1) (i := 0) (j := 0) X dX7_sortOf_0 rfl rfl rfl ?_
  refine v_ldc2 (pc' := 4) (v := 17179869184) X dX7_sortOf_1 w_kl_X7_151 rfl ?_
  refine v_lcmp (pc' := 5) X dX7_sortOf_4 rfl ?_
  refine v_lif_lt (pc' := 8) (tgt := 12) X dX7_sortOf_5 (by decide) rfl (fun hc_5 => ?_) (fun hc_5 => ?_)
  -- taken 5
  · refine v_lload_n (pc' := 13) (i := 0) (j := 0) X dX7_sortOf_12 rfl rfl rfl ?_
    refine v_ldc2 (pc' := 16) (v := 8589934592) X dX7_sortOf_13 w_kl_X7_153 rfl ?_
    refine v_lcmp (pc' := 17) X dX7_sortOf_16 rfl ?_
    refine v_lif_lt (pc' := 20) (tgt := 24) X dX7_sortOf_17 (by decide) rfl (fun hc_17 => ?_) (fun hc_17 => ?_)
    -- taken 17
    · refine v_iconst (pc' := 25) (v := 0) X dX7_sortOf_24 (by decide) rfl ?_
      refine v_ireturn X R (Nat.zero_le _) (Nat.zero_le _) dX7_sortOf_25 ?_
      rw [if_neg (Int64.not_le.mpr hc_5), if_neg (Int64.not_le.mpr hc_17)]
      exact ⟨rfl, rfl⟩
    -- not taken 17
    · refine v_iconst (pc' := 21) (v := 1) X dX7_sortOf_20 (by decide) rfl ?_
      refine v_goto (pc' := 25) X dX7_sortOf_21 (by decide) ?_
      refine v_ireturn X R (Nat.zero_le _) (Nat.zero_le _) dX7_sortOf_25 ?_
      rw [if_neg (Int64.not_le.mpr hc_5), if_pos hc_17]
      exact ⟨rfl, rfl⟩
  -- not taken 5
  · refine v_iconst (pc' := 9) (v := 2) X dX7_sortOf_8 (by decide) rfl ?_
    refine v_goto (pc' := 25) X dX7_sortOf_9 (by decide) ?_
    refine v_ireturn X R (Nat.zero_le _) (Nat.zero_le _) dX7_sortOf_25 ?_
    rw [if_pos hc_5]
    exact ⟨rfl, rfl⟩
set_option maxHeartbeats 4000000 in
set_option maxRecDepth 100000 in
theorem c_X1_reach {l : Launch} {D : va_G} {Y : Nat → ClassId} {zz : Nat → Nat} {n s cp cq : Nat} {ad : Nat → Nat} {M : vM} {v : Int64} (hR0 : RI M) (hv : ok1 v) : Ct l D Y zz yX1_reach cX1_reach 4 none 1 21 [.ref (ad (1)), .long v] (wK Y n s cp cq ad M) 0 0 (fun r w => r = none ∧ w = wK Y n s cp cq ad (gReach M v)) := by
  refine v_entry (by decide +kernel) (Nat.le_of_ble_eq_true rfl) ?_
  intro K X R hR hnm hl hD hY hz
  subst hl hD hY hz
  refine v_sub (lv' := [(0, .ref (ad (1))), (1, .long v)]) [0, 1] rfl ?_
  refine v_lload_n (pc' := 1) (i := 1) (j := 1) X dX1_reach_0 rfl rfl rfl ?_
  refine v_ldc2 (pc' := 4) (v := 8589934592) X dX1_reach_1 w_kl_X1_35 rfl ?_
  refine v_lcmp (pc' := 5) X dX1_reach_4 rfl ?_
  refine v_lif_ge (pc' := 8) (tgt := 9) X dX1_reach_5 (by decide) rfl (fun hc_5 => ?_) (fun hc_5 => ?_)
  -- taken 5
  · obtain ⟨hp1, hp2⟩ := hv.resolve_left (Int64.not_lt.mpr hc_5)
    refine v_lload_n (pc' := 10) (i := 1) (j := 1) X dX1_reach_9 rfl rfl rfl ?_
    refine v_callSN (pc' := 13) X (st := []) (c_X7_placeOf (n := n) (s := s) (cp := cp) (cq := cq) (ad := ad) (M := M) (v := v)) k_X7_placeOf n_ml_X1_53 w_st_X7_placeOf (by rw [hR]; exact ⟨Nat.le_of_ble_eq_true rfl, Nat.le_of_ble_eq_true rfl⟩) rfl rfl (Nat.le_of_ble_eq_true rfl) dX1_reach_10 rfl (⟨Nat.zero_le _, Nat.zero_le _⟩) ?_
    rintro _ _ ⟨rfl, rfl⟩
    refine v_istore_n (pc' := 14) (i := 3) (lv' := [(3, .int v.toInt32), (0, .ref (ad (1))), (1, .long v)]) X dX1_reach_13 rfl (by decide) rfl rfl ?_
    refine v_aload_n (pc' := 15) (i := 0) (j := 1) X dX1_reach_14 rfl rfl rfl ?_
    refine fk_X1_25 (pc' := 18) X dX1_reach_15 rfl ?_
    refine v_iload_n (pc' := 19) (i := 3) (j := 0) X dX1_reach_18 rfl rfl rfl ?_
    refine ak_K20 (pc' := 20) X (v := M.1 20 (pl v)) (pl v) hp2 (by omega) rfl dX1_reach_19 rfl ?_
    refine v_iconst (pc' := 21) (v := (-1)) X dX1_reach_20 (by decide) rfl ?_
    refine v_icmp_ne (pc' := 24) (tgt := 51) X dX1_reach_21 (by decide) rfl (fun hc_21 => ?_) (fun hc_21 => ?_)
    -- taken 21
    · refine v_return X R (Nat.zero_le _) (Nat.zero_le _) dX1_reach_51 ?_
      rw [show gReach M v = M by unfold gReach; rw [if_neg (Int64.not_lt.mpr hc_5), if_neg hc_21]]
      exact ⟨rfl, rfl⟩
    -- not taken 21
    · have hrm := (hR0.room hp1 hc_21).1
      refine v_aload_n (pc' := 25) (i := 0) (j := 1) X dX1_reach_24 rfl rfl rfl ?_
      refine fk_X1_25 (pc' := 28) X dX1_reach_25 rfl ?_
      refine v_iload_n (pc' := 29) (i := 3) (j := 0) X dX1_reach_28 rfl rfl rfl ?_
      refine v_iload_n (pc' := 30) (i := 3) (j := 0) X dX1_reach_29 rfl rfl rfl ?_
      refine aq_K20 (pc' := 31) X (pl v) hp2 (by omega) dX1_reach_30 rfl ?_
      refine v_aload_n (pc' := 32) (i := 0) (j := 1) X dX1_reach_31 rfl rfl rfl ?_
      refine fk_X1_22 (pc' := 35) X dX1_reach_32 rfl ?_
      refine v_aload_n (pc' := 36) (i := 0) (j := 1) X dX1_reach_35 rfl rfl rfl ?_
      refine fk_X1_32 (pc' := 39) X (v := nI (nn (M.1 1 6))) ((congrFun (mI_n _ _ _ _ (by decide)) _).trans hR0.1) dX1_reach_36 rfl ?_
      refine v_iload_n (pc' := 40) (i := 3) (j := 0) X dX1_reach_39 rfl rfl rfl ?_
      refine aq_K18 (pc' := 41) X (nn (M.1 1 6)) rfl (by omega) dX1_reach_40 rfl ?_
      refine v_aload_n (pc' := 42) (i := 0) (j := 1) X dX1_reach_41 rfl rfl rfl ?_
      refine v_dup (pc' := 43) X dX1_reach_42 rfl rfl ?_
      refine fk_X1_32 (pc' := 46) X (v := nI (nn (M.1 1 6))) ((congrFun (mI_n _ _ _ _ (by decide)) _).trans ((congrFun (mI_n _ _ _ _ (by decide)) _).trans hR0.1)) dX1_reach_43 rfl ?_
      refine v_iconst (pc' := 47) (v := 1) X dX1_reach_46 (by decide) rfl ?_
      refine v_iaddV (pc' := 48) (v := nI (nn (M.1 1 6) + 1)) X (nI_add (nn (M.1 1 6)) 1) dX1_reach_47 rfl ?_
      refine fq_X1_32 (pc' := 51) X dX1_reach_48 rfl ?_
      refine v_return X R (Nat.zero_le _) (Nat.zero_le _) dX1_reach_51 ?_
      unfold gReach
      rw [if_neg (Int64.not_lt.mpr hc_5), if_pos hc_21, ← hp2]
      exact ⟨rfl, rfl⟩
  -- not taken 5
  · refine v_return X R (Nat.zero_le _) (Nat.zero_le _) dX1_reach_8 ?_
    rw [show gReach M v = M from if_pos hc_5]
    exact ⟨rfl, rfl⟩
