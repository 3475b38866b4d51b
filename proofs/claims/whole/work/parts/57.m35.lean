/-! THE CLASS'S RETRY -/
noncomputable def gRetF (M : vM) (b k : Nat) : vM := @ite _ (gValid M b) (Classical.propDecidable _) (mI M b 8 2) (gAbort M b k)
noncomputable def gRetK (M : vM) (b k : Nat) : Nat → vM
  | 0 => gRetF M b k
  | q + 1 => if q ≤ k then gRetF M b k else if M.1 (b + 11) q = 1 then gBack M b q else gRetK M b k q
set_option maxHeartbeats 4000000 in
set_option maxRecDepth 100000 in
theorem c_X7_retry {l : Launch} {D : va_G} {Y : Nat → ClassId} {zz : Nat → Nat} {n s cp cq : Nat} {ad : Nat → Nat} {M : vM} {i e k r9 : Nat} (hi : i < n) (h16 : i < 16) (h12 : M.1 (tb i) 12 = nI e) (he : e ≤ 24) (h13 : M.1 (tb i) 13 = nI k) (hke9 : k < e) (h3 : M.1 (tb i + 18) 3 = nI r9) (hr : r9 ≤ 40) (hpl : ∀ k, k < r9 → M.1 (tb i + 15) k = nI (nn (M.1 (tb i + 15) k)) ∧ nn (M.1 (tb i + 15) k) < 200)  : Ct l D Y zz yX7_retry cX7_retry 3 none 4 123 [.ref (ad (0)), .ref (ad (tb i))] (wK Y n s cp cq ad M) 0 0 (fun r w => r = none ∧ w = wK Y n s cp cq ad (gRetK M (tb i) k e)) := by
  refine v_entry (by decide +kernel) (Nat.le_of_ble_eq_true rfl) ?_
  intro K X R hR hnm hl hD hY hz
  subst hl hD hY hz
  refine v_sub (lv' := [(0, .ref (ad (0))), (1, .ref (ad (tb i)))]) [0, 1] rfl ?_
  refine v_aload_n (pc' := 1) (i := 1) (j := 1) X dX7_retry_0 rfl rfl rfl ?_
  refine fk_X7_97 (pc' := 4) X hi h16 (v := nI e) h12 dX7_retry_1 rfl ?_
  refine v_iconst (pc' := 5) (v := 1) X dX7_retry_4 (by decide) rfl ?_
  refine v_isubV (pc' := 6) (v := nI (e - 1)) X (pk_sub (a := e) (b := 1) (by omega)) dX7_retry_5 rfl ?_
  refine v_istore_n (pc' := 7) (i := 2) (lv' := [(2, .int (nI (e - 1))), (0, .ref (ad (0))), (1, .ref (ad (tb i)))]) X dX7_retry_6 rfl (by decide) rfl rfl ?_
  have hloop : ∀ (dd_hloop : Nat) (q : Nat), q < dd_hloop → (k ≤ q) → (q < e) → (gRetK M (tb i) k e = gRetK M (tb i) k (q + 1)) → V K 3 (wK (kY K) n s cp cq ad M) 0 0 7 [(2, .int (nI q)), (1, .ref (ad (tb i))), (0, .ref (ad (0)))] [] := by
    intro dd_hloop
    induction dd_hloop with
    | zero => intro q hlt_hloop; exact absurd hlt_hloop (Nat.not_lt_zero _)
    | succ dd_hloop ih_hloop =>
      intro q hlt_hloop hkq hqe hF
      refine v_iload_n (pc' := 8) (i := 2) (j := 0) X dX7_retry_7 rfl rfl rfl ?_
      refine v_aload_n (pc' := 9) (i := 1) (j := 1) X dX7_retry_8 rfl rfl rfl ?_
      refine fk_X7_257 (pc' := 12) X hi h16 (v := nI k) h13 dX7_retry_9 rfl ?_
      refine v_icmp_le (pc' := 15) (tgt := 37) X dX7_retry_12 (by decide) rfl (fun hc_12 => ?_) (fun hc_12 => ?_)
      -- taken 12
      · have hqk : q ≤ k := le_of_nI hc_12 (by omega) (by omega)
        refine v_aload_n (pc' := 38) (i := 1) (j := 1) X dX7_retry_37 rfl rfl rfl ?_
        refine fk_X7_100 (pc' := 41) X hi h16 dX7_retry_38 rfl ?_
        refine v_aload_n (pc' := 42) (i := 0) (j := 2) X dX7_retry_41 rfl rfl rfl ?_
        refine fk_X7_26 (pc' := 45) X dX7_retry_42 rfl ?_
        refine v_callVN (pc' := 48) X (st := []) (c_X3_isValid (M := M) hi h16 (r9 := r9) h3 hr hpl) k_X3_isValid n_ml_X7_334 w_im_X3_isValid w_se_X3_X3_isValid (rw_X3 hi h16) (by rw [hR]; exact ⟨Nat.le_of_ble_eq_true rfl, Nat.le_of_ble_eq_true rfl⟩) rfl rfl (Nat.le_of_ble_eq_true rfl) dX7_retry_45 rfl (⟨Nat.zero_le _, Nat.zero_le _⟩) ?_
        rintro _ _ ⟨rfl, rfl⟩
        have hVV : (∀ k, k < r9 → ¬ (M.1 (tb i + 18) 5).toInt64 < M.2 16 (nn (M.1 (tb i + 15) k))) ↔ gValid M (tb i) := by unfold gValid; rw [h3, nn_nI (by omega)]
        rw [propext hVV]
        refine v_ifB_eq (pc' := 51) (tgt := 59) X dX7_retry_48 (by decide) rfl (fun hc_48 => ?_) (fun hc_48 => ?_)
        -- taken 48
        · refine v_aload_n (pc' := 60) (i := 0) (j := 2) X dX7_retry_59 rfl rfl rfl ?_
          refine v_aload_n (pc' := 61) (i := 1) (j := 1) X dX7_retry_60 rfl rfl rfl ?_
          refine v_callV (pc' := 64) X (st := []) (c_X7_abort (M := M) hi h16 (k := k) h13 (by omega)) k_X7_abort w_ml_X7_317 w_im_X7_abort w_se_X7_X7_abort rw_X7 (by rw [hR]; exact ⟨Nat.le_of_ble_eq_true rfl, Nat.le_of_ble_eq_true rfl⟩) rfl rfl (Nat.le_of_ble_eq_true rfl) dX7_retry_61 rfl (⟨Nat.zero_le _, Nat.zero_le _⟩) ?_
          rintro _ _ ⟨rfl, rfl⟩
          refine v_return X R (Nat.zero_le _) (Nat.zero_le _) dX7_retry_64 ?_
          rw [hF, gRetK, if_pos hqk, gRetF, if_neg hc_48]
          exact ⟨rfl, rfl⟩
        -- not taken 48
        · refine v_aload_n (pc' := 52) (i := 1) (j := 1) X dX7_retry_51 rfl rfl rfl ?_
          refine v_iconst (pc' := 53) (v := 2) X dX7_retry_52 (by decide) rfl ?_
          refine fq_X7_81 (pc' := 56) X hi h16 dX7_retry_53 rfl ?_
          refine v_goto (pc' := 64) X dX7_retry_56 (by decide) ?_
          refine v_return X R (Nat.zero_le _) (Nat.zero_le _) dX7_retry_64 ?_
          rw [hF, gRetK, if_pos hqk, gRetF, if_pos hc_48]
          exact ⟨rfl, rfl⟩
      -- not taken 12
      · have hqk : k < q := by
          rcases Nat.lt_or_ge k q with q9 | q9
          · exact q9
          · exact absurd (nI_le q9 (by omega)) hc_12
        refine v_aload_n (pc' := 16) (i := 1) (j := 1) X dX7_retry_15 rfl rfl rfl ?_
        refine fk_X7_356 (pc' := 19) X hi h16 dX7_retry_16 rfl ?_
        refine v_iload_n (pc' := 20) (i := 2) (j := 0) X dX7_retry_19 rfl rfl rfl ?_
        refine ak_G11 (pc' := 21) X hi h16 (v := M.1 (tb i + 11) q) (q) rfl (by omega) rfl dX7_retry_20 rfl ?_
        refine v_iconst (pc' := 22) (v := 1) X dX7_retry_21 (by decide) rfl ?_
        refine v_icmp_ne (pc' := 25) (tgt := 31) X dX7_retry_22 (by decide) rfl (fun hc_22 => ?_) (fun hc_22 => ?_)
        -- taken 22
        · refine v_iinc (pc' := 34) (j := 0) (v := nI (q - 1)) (lv' := [(2, .int (nI (q - 1))), (1, .ref (ad (tb i))), (0, .ref (ad (0)))]) X dX7_retry_31 rfl (nI_dec (a := q) 1 (by omega)) (by decide) rfl rfl ?_
          refine v_goto (pc' := 7) X dX7_retry_34 (by decide) ?_
          exact ih_hloop (q - 1) (by omega) (by omega) (by omega) (hF.trans (by rw [show q - 1 + 1 = q by omega, gRetK, if_neg (by omega), if_neg hc_22]))
        -- not taken 22
        · refine v_aload_n (pc' := 26) (i := 1) (j := 1) X dX7_retry_25 rfl rfl rfl ?_
          refine v_iload_n (pc' := 27) (i := 2) (j := 0) X dX7_retry_26 rfl rfl rfl ?_
          refine v_callVN (pc' := 30) X (st := []) (c_X6_rollBackTo (M := M) hi h16 (k := q) (by omega)) k_X6_rollBackTo n_ml_X7_359 w_im_X6_rollBackTo w_se_X6_X6_rollBackTo (rw_X6 hi h16) (by rw [hR]; exact ⟨Nat.le_of_ble_eq_true rfl, Nat.le_of_ble_eq_true rfl⟩) rfl rfl (Nat.le_of_ble_eq_true rfl) dX7_retry_27 rfl (⟨Nat.zero_le _, Nat.zero_le _⟩) ?_
          rintro _ _ ⟨rfl, rfl⟩
          refine v_return X R (Nat.zero_le _) (Nat.zero_le _) dX7_retry_30 ?_
          rw [hF, gRetK, if_neg (by omega), if_pos hc_22]
          exact ⟨rfl, rfl⟩
  refine v_sub (lv' := [(2, .int (nI (e - 1))), (1, .ref (ad (tb i))), (0, .ref (ad (0)))]) [0, 2, 1] rfl ?_
  exact hloop _ (e - 1) (Nat.lt_succ_self _) (by omega) (by omega) (by rw [show e - 1 + 1 = e by omega])
