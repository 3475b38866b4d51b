/-! THE CLASS'S THROW -/
def gValid (M : vM) (b : Nat) : Prop := ∀ q, q < nn (M.1 (b + 18) 3) → ¬ (M.1 (b + 18) 5).toInt64 < M.2 16 (nn (M.1 (b + 15) q))
noncomputable def gThrow (b : Nat) (code : Int32) : Nat → vM → vM
  | 0, M => gFail M b code
  | e + 1, M => if M.1 (b + 11) e = 2 then mL (gBack M b e) (b + 8) 15 code.toInt64
      else if M.1 (b + 11) e = 0 then @ite _ (gValid M b) (Classical.propDecidable _) (gThrow b code e (gClear M b)) (gAbort M b e)
      else gThrow b code e M
theorem gClear_n {M : vM} {b c : Nat} (h : c ≠ b + 18) : (gClear M b).1 c = M.1 c := by
  unfold gClear; rw [mI_n _ _ _ _ h, mI_n _ _ _ _ h]
theorem gClear_3 {M : vM} {b : Nat} : (gClear M b).1 (b + 18) 3 = nI 0 := by
  unfold gClear; rw [mI_o _ _ _ _ (by decide), mI_s]; rfl
set_option maxHeartbeats 4000000 in
set_option maxRecDepth 100000 in
theorem c_X7_raise {l : Launch} {D : va_G} {Y : Nat → ClassId} {zz : Nat → Nat} {n s cp cq : Nat} {ad : Nat → Nat} {M : vM} {i e r0 : Nat} (hi : i < n) (h16 : i < 16) (h12 : M.1 (tb i) 12 = nI e) (he : e ≤ 24) (h3 : M.1 (tb i + 18) 3 = nI r0) (hr0 : r0 ≤ 40) (hpl0 : ∀ k, k < r0 → M.1 (tb i + 15) k = nI (nn (M.1 (tb i + 15) k)) ∧ nn (M.1 (tb i + 15) k) < 200) (hat : ∀ q, q < e → M.1 (tb i + 11) q = 0 → M.1 (tb i) 13 = nI q) {code : Int32}  : Ct l D Y zz yX7_raise cX7_raise 5 none 4 123 [.ref (ad (0)), .ref (ad (tb i)), .int code] (wK Y n s cp cq ad M) 0 0 (fun r w => r = none ∧ w = wK Y n s cp cq ad (gThrow (tb i) code e M)) := by
  refine v_entry (by decide +kernel) (Nat.le_of_ble_eq_true rfl) ?_
  intro K X R hR hnm hl hD hY hz
  subst hl hD hY hz
  refine v_sub (lv' := [(0, .ref (ad (0))), (1, .ref (ad (tb i))), (2, .int code)]) [0, 1, 2] rfl ?_
  refine v_aload_n (pc' := 1) (i := 1) (j := 1) X dX7_raise_0 rfl rfl rfl ?_
  refine fk_X7_97 (pc' := 4) X hi h16 (v := nI e) h12 dX7_raise_1 rfl ?_
  refine v_iconst (pc' := 5) (v := 1) X dX7_raise_4 (by decide) rfl ?_
  refine v_isub (pc' := 6) X dX7_raise_5 rfl ?_
  refine v_istore_n (pc' := 7) (i := 3) (lv' := [(3, .int (kq e)), (0, .ref (ad (0))), (1, .ref (ad (tb i))), (2, .int code)]) X dX7_raise_6 rfl (by decide) rfl rfl ?_
  obtain ⟨F, hF0⟩ : ∃ F, F = gThrow (tb i) code e M := ⟨_, rfl⟩
  rw [← hF0] at R
  have hloop : ∀ (dd q : Nat) (N : vM) (r9 : Nat), q < dd → q ≤ e → N.1 (tb i + 11) = M.1 (tb i + 11) → N.1 (tb i) 13 = M.1 (tb i) 13 → N.1 (tb i + 18) 3 = nI r9 → r9 ≤ 40 → (∀ k, k < r9 → N.1 (tb i + 15) k = nI (nn (N.1 (tb i + 15) k)) ∧ nn (N.1 (tb i + 15) k) < 200) → gThrow (tb i) code q N = F → V K 5 (wK (kY K) n s cp cq ad N) 0 0 7 [(3, .int (kq q)), (2, .int code), (1, .ref (ad (tb i))), (0, .ref (ad (0)))] [] := by
    intro dd
    induction dd with
    | zero => intro q N r9 hlt; exact absurd hlt (Nat.not_lt_zero _)
    | succ dd ih =>
      intro q N r9 hlt hqe hN11 hN13 h3N hr hpl hF
      cases q with
      | zero =>
        rw [kq_0]
        refine v_iload_n (pc' := 8) (i := 3) (j := 0) X dX7_raise_7 rfl rfl rfl ?_
        refine v_if_lt (pc' := 11) (tgt := 78) X dX7_raise_8 (by decide) rfl (fun _ => ?_) (fun hc_8 => absurd (by decide) hc_8)
        refine v_aload_n (pc' := 79) (i := 1) (j := 2) X dX7_raise_78 rfl rfl rfl ?_
        refine v_iload_n (pc' := 80) (i := 2) (j := 1) X dX7_raise_79 rfl rfl rfl ?_
        refine v_callVN (pc' := 83) X (st := []) (c_X6_fail (M := N) hi h16 (why := code)) k_X6_fail n_ml_X7_161 w_im_X6_fail w_se_X6_X6_fail (rw_X6 hi h16) (by rw [hR]; exact ⟨Nat.le_of_ble_eq_true rfl, Nat.le_of_ble_eq_true rfl⟩) rfl rfl (Nat.le_of_ble_eq_true rfl) dX7_raise_80 rfl (⟨Nat.zero_le _, Nat.zero_le _⟩) ?_
        rintro _ _ ⟨rfl, rfl⟩
        refine v_return X R (Nat.zero_le _) (Nat.zero_le _) dX7_raise_83 ?_
        rw [gThrow] at hF
        rw [← hF]
        exact ⟨rfl, rfl⟩
      | succ q =>
        rw [kq_s]
        refine v_iload_n (pc' := 8) (i := 3) (j := 0) X dX7_raise_7 rfl rfl rfl ?_
        refine v_if_lt (pc' := 11) (tgt := 78) X dX7_raise_8 (by decide) rfl (fun hc_8 => absurd hc_8 (nI_pos (by omega))) (fun _ => ?_)
        refine v_aload_n (pc' := 12) (i := 1) (j := 2) X dX7_raise_11 rfl rfl rfl ?_
        refine fk_X7_356 (pc' := 15) X hi h16 dX7_raise_12 rfl ?_
        refine v_iload_n (pc' := 16) (i := 3) (j := 0) X dX7_raise_15 rfl rfl rfl ?_
        refine ak_G11 (pc' := 17) X hi h16 (v := N.1 (tb i + 11) q) (q) rfl (by omega) rfl dX7_raise_16 rfl ?_
        refine v_istore (pc' := 19) (lv' := [(4, .int (N.1 (tb i + 11) q)), (3, .int (nI q)), (2, .int code), (1, .ref (ad (tb i))), (0, .ref (ad (0)))]) X dX7_raise_17 (by decide) rfl rfl ?_
        refine v_iload (pc' := 21) (j := 0) X dX7_raise_19 rfl rfl ?_
        refine v_iconst (pc' := 22) (v := 2) X dX7_raise_21 (by decide) rfl ?_
        refine v_icmp_ne (pc' := 25) (tgt := 40) X dX7_raise_22 (by decide) rfl (fun hc_22 => ?_) (fun hc_22 => ?_)
        -- taken 22
        · have hs2 : ¬ N.1 (tb i + 11) q = 2 := hc_22
          refine v_iload (pc' := 42) (j := 0) X dX7_raise_40 rfl rfl ?_
          refine v_if_ne (pc' := 45) (tgt := 72) X dX7_raise_42 (by decide) rfl (fun hc_42 => ?_) (fun hc_42 => ?_)
          -- taken 42
          · have hs0 : ¬ N.1 (tb i + 11) q = 0 := hc_42
            refine v_iinc (pc' := 75) (j := 1) (v := kq q) (lv' := [(3, .int (kq q)), (4, .int (N.1 (tb i + 11) q)), (2, .int code), (1, .ref (ad (tb i))), (0, .ref (ad (0)))]) X dX7_raise_72 rfl (kq_d q) (by decide) rfl rfl ?_
            refine v_goto (pc' := 7) X dX7_raise_75 (by decide) ?_
            refine v_sub (lv' := [(3, .int (kq q)), (2, .int code), (1, .ref (ad (tb i))), (0, .ref (ad (0)))]) [0, 2, 3, 4] rfl ?_
            exact ih q N r9 (by omega) (by omega) hN11 hN13 h3N hr hpl (by rw [gThrow, if_neg hs2, if_neg hs0] at hF; exact hF)
          -- not taken 42
          · have hs0 : N.1 (tb i + 11) q = 0 := hc_42
            have h13q : N.1 (tb i) 13 = nI q := hN13.trans (hat q (by omega) (by rw [← hN11]; exact hs0))
            refine v_aload_n (pc' := 46) (i := 1) (j := 3) X dX7_raise_45 rfl rfl rfl ?_
            refine fk_X7_100 (pc' := 49) X hi h16 dX7_raise_46 rfl ?_
            refine v_aload_n (pc' := 50) (i := 0) (j := 4) X dX7_raise_49 rfl rfl rfl ?_
            refine fk_X7_26 (pc' := 53) X dX7_raise_50 rfl ?_
            refine v_callVN (pc' := 56) X (st := []) (c_X3_isValid (M := N) hi h16 (r9 := r9) h3N hr hpl) k_X3_isValid n_ml_X7_334 w_im_X3_isValid w_se_X3_X3_isValid (rw_X3 hi h16) (by rw [hR]; exact ⟨Nat.le_of_ble_eq_true rfl, Nat.le_of_ble_eq_true rfl⟩) rfl rfl (Nat.le_of_ble_eq_true rfl) dX7_raise_53 rfl (⟨Nat.zero_le _, Nat.zero_le _⟩) ?_
            rintro _ _ ⟨rfl, rfl⟩
            have hVV : (∀ k, k < r9 → ¬ (N.1 (tb i + 18) 5).toInt64 < N.2 16 (nn (N.1 (tb i + 15) k))) ↔ gValid N (tb i) := by unfold gValid; rw [h3N, nn_nI (by omega)]
            rw [propext hVV]
            refine v_ifB_ne (pc' := 59) (tgt := 65) X dX7_raise_56 (by decide) rfl (fun hc_56 => ?_) (fun hc_56 => ?_)
            -- taken 56
            · have hval : gValid N (tb i) := hc_56
              refine v_aload_n (pc' := 66) (i := 1) (j := 3) X dX7_raise_65 rfl rfl rfl ?_
              refine fk_X7_100 (pc' := 69) X hi h16 dX7_raise_66 rfl ?_
              refine v_callVN (pc' := 72) X (st := []) (c_X3_clear (M := N) hi h16) k_X3_clear n_ml_X7_349 w_im_X3_clear w_se_X3_X3_clear (rw_X3 hi h16) (by rw [hR]; exact ⟨Nat.le_of_ble_eq_true rfl, Nat.le_of_ble_eq_true rfl⟩) rfl rfl (Nat.le_of_ble_eq_true rfl) dX7_raise_69 rfl (⟨Nat.zero_le _, Nat.zero_le _⟩) ?_
              rintro _ _ ⟨rfl, rfl⟩
              refine v_iinc (pc' := 75) (j := 1) (v := kq q) (lv' := [(3, .int (kq q)), (4, .int (N.1 (tb i + 11) q)), (2, .int code), (1, .ref (ad (tb i))), (0, .ref (ad (0)))]) X dX7_raise_72 rfl (kq_d q) (by decide) rfl rfl ?_
              refine v_goto (pc' := 7) X dX7_raise_75 (by decide) ?_
              refine v_sub (lv' := [(3, .int (kq q)), (2, .int code), (1, .ref (ad (tb i))), (0, .ref (ad (0)))]) [0, 2, 3, 4] rfl ?_
              exact ih q (gClear N (tb i)) 0 (by omega) (by omega) ((gClear_n (by omega)).trans hN11) ((congrFun (gClear_n (by omega)) _).trans hN13) gClear_3 (Nat.zero_le _) lt_0 (by rw [gThrow, if_neg hs2, if_pos hs0, if_pos hval] at hF; exact hF)
            -- not taken 56
            · refine v_aload_n (pc' := 60) (i := 0) (j := 4) X dX7_raise_59 rfl rfl rfl ?_
              refine v_aload_n (pc' := 61) (i := 1) (j := 3) X dX7_raise_60 rfl rfl rfl ?_
              refine v_callV (pc' := 64) X (st := []) (c_X7_abort (M := N) hi h16 (k := q) h13q (by omega)) k_X7_abort w_ml_X7_317 w_im_X7_abort w_se_X7_X7_abort rw_X7 (by rw [hR]; exact ⟨Nat.le_of_ble_eq_true rfl, Nat.le_of_ble_eq_true rfl⟩) rfl rfl (Nat.le_of_ble_eq_true rfl) dX7_raise_61 rfl (⟨Nat.zero_le _, Nat.zero_le _⟩) ?_
              rintro _ _ ⟨rfl, rfl⟩
              refine v_return X R (Nat.zero_le _) (Nat.zero_le _) dX7_raise_64 ?_
              rw [gThrow, if_neg hs2, if_pos hs0, if_neg hc_56] at hF
              rw [← hF]
              exact ⟨rfl, rfl⟩
        -- not taken 22
        · have hs2 : N.1 (tb i + 11) q = 2 := hc_22
          refine v_aload_n (pc' := 26) (i := 1) (j := 3) X dX7_raise_25 rfl rfl rfl ?_
          refine v_iload_n (pc' := 27) (i := 3) (j := 1) X dX7_raise_26 rfl rfl rfl ?_
          refine v_callVN (pc' := 30) X (st := []) (c_X6_rollBackTo (M := N) hi h16 (k := q) (by omega)) k_X6_rollBackTo n_ml_X7_359 w_im_X6_rollBackTo w_se_X6_X6_rollBackTo (rw_X6 hi h16) (by rw [hR]; exact ⟨Nat.le_of_ble_eq_true rfl, Nat.le_of_ble_eq_true rfl⟩) rfl rfl (Nat.le_of_ble_eq_true rfl) dX7_raise_27 rfl (⟨Nat.zero_le _, Nat.zero_le _⟩) ?_
          rintro _ _ ⟨rfl, rfl⟩
          refine v_aload_n (pc' := 31) (i := 1) (j := 3) X dX7_raise_30 rfl rfl rfl ?_
          refine fk_X7_119 (pc' := 34) X hi h16 dX7_raise_31 rfl ?_
          refine v_bipush (pc' := 36) (v := 15) X dX7_raise_34 (by decide) rfl ?_
          refine v_iload_n (pc' := 37) (i := 2) (j := 2) X dX7_raise_36 rfl rfl rfl ?_
          refine v_i2l (pc' := 38) X dX7_raise_37 rfl rfl ?_
          refine aq_G8 (pc' := 39) X hi h16 (15) rfl (by omega) dX7_raise_38 rfl ?_
          refine v_return X R (Nat.zero_le _) (Nat.zero_le _) dX7_raise_39 ?_
          rw [gThrow, if_pos hs2] at hF
          rw [← hF]
          exact ⟨rfl, rfl⟩
  refine v_sub (lv' := [(3, .int (kq e)), (2, .int code), (1, .ref (ad (tb i))), (0, .ref (ad (0)))]) [0, 3, 2, 1] rfl ?_
  exact hloop _ e M r0 (Nat.lt_succ_self _) (Nat.le_refl e) rfl rfl h3 hr0 hpl0 hF0.symm
