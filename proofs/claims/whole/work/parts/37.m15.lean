/-! STEP (reference) -/
set_option maxHeartbeats 4000000 in
set_option maxRecDepth 100000 in
theorem c_X9_known_bad {l : Launch} {D : va_G} {Y : Nat → ClassId} {zz : Nat → Nat} {n : Nat} {ad : Nat → Nat} {M : vM} {i : Nat} {o9 x y z : Int32} (ho : o9 < 0 ∨ 29 < o9) : Ct l D Y zz yX9_known cX9_known 7 (some FieldType.int) 0 0 [.ref (ad (0)), .ref (ad (tb i)), .int o9, .int x, .int y, .int z] (wM Y n ad M) 0 0 (fun r w => r = some (.int (-1)) ∧ w = wM Y n ad M) := by
  refine v_entry (by decide +kernel) (Nat.le_of_ble_eq_true rfl) ?_
  intro K X R hR hnm hl hD hY hz
  subst hl hD hY hz
  refine v_sub (lv' := [(0, .ref (ad (0))), (1, .ref (ad (tb i))), (2, .int o9), (3, .int x), (4, .int y), (5, .int z)]) [0, 1, 2, 3, 4, 5] rfl ?_
  refine v_iload_n (pc' := 1) (i := 2) (j := 2) X dX9_known_0 rfl rfl rfl ?_
  refine v_if_lt (pc' := 4) (tgt := 10) X dX9_known_1 (by decide) rfl (fun hc_1 => ?_) (fun hc_1 => ?_)
  -- taken 1
  · refine v_iconst (pc' := 11) (v := (-1)) X dX9_known_10 (by decide) rfl ?_
    refine v_ireturn X R (Nat.zero_le _) (Nat.zero_le _) dX9_known_11 ?_
    exact ⟨rfl, rfl⟩
  -- not taken 1
  · refine v_iload_n (pc' := 5) (i := 2) (j := 2) X dX9_known_4 rfl rfl rfl ?_
    refine v_bipush (pc' := 7) (v := 29) X dX9_known_5 (by decide) rfl ?_
    refine v_icmp_le (pc' := 10) (tgt := 12) X dX9_known_7 (by decide) rfl (fun hc_7 => ?_) (fun hc_7 => ?_)
    -- taken 7
    · exact absurd ho (fun z9 => z9.elim hc_1 (Int32.not_lt.mpr hc_7))
    -- not taken 7
    · refine v_iconst (pc' := 11) (v := (-1)) X dX9_known_10 (by decide) rfl ?_
      refine v_ireturn X R (Nat.zero_le _) (Nat.zero_le _) dX9_known_11 ?_
      exact ⟨rfl, rfl⟩
set_option maxHeartbeats 4000000 in
set_option maxRecDepth 100000 in
theorem c_X9_step {l : Launch} {D : va_G} {Y : Nat → ClassId} {zz : Nat → Nat} {n us : Nat} {ad : Nat → Nat} {M : vM} {i : Nat} (hi : i < n) (hU : IU M n us) (hst1 : M.1 (tb i) 0 = 1) : Ct l D Y zz yX9_step cX9_step 4 none 8 190 [.ref (ad (0)), .ref (ad (tb i))] (wM Y n ad M) (11 * (fStepN M n (tb i) - n)) (674 * (fStepN M n (tb i) - n)) (fun r w => r = none ∧ ∃ (n9 : Nat) (ad9 : Nat → Nat), n9 = fStepN M n (tb i) ∧ w = wM Y n9 ad9 (fStep M n (tb i)) ∧ ∀ c, c < tb n → ad9 c = ad c) := by
  refine v_entry (by decide +kernel) (Nat.le_of_ble_eq_true rfl) ?_
  intro K X R hR hnm hl hD hY hz
  subst hl hD hY hz
  refine v_sub (lv' := [(0, .ref (ad (0))), (1, .ref (ad (tb i)))]) [0, 1] rfl ?_
  have hn0 : nn (M.1 0 2) = n := hU.n
  obtain ⟨sz, pd, hg0, hts0⟩ := id hU
  obtain ⟨hsz, hsz2, hn2, hn1, hn16, hus, hus2, hpd, hpd2, h17, hfs, hvi, hgl⟩ := id hg0
  have hM1 : IU (mI (mI M 0 7 (M.1 0 7 + 1)) (tb i) 2 (M.1 (tb i) 2 + 1)) n us := iu_ob2 (iu_cnt hU (by decide)) hi
  have hs1 : (mI (mI M 0 7 (M.1 0 7 + 1)) (tb i) 2 (M.1 (tb i) 2 + 1)).1 (tb i) 0 = 1 := by
    rw [mI_o _ _ _ _ (by decide), mI_n _ _ _ _ (by unfold tb; omega)]; exact hst1
  have hn1' : (mI (mI M 0 7 (M.1 0 7 + 1)) (tb i) 2 (M.1 (tb i) 2 + 1)).1 0 2 = nI n := by
    rw [mI_n _ _ _ _ (by unfold tb; omega), mI_o _ _ _ _ (by decide)]; exact hn2
  refine v_aload_n (pc' := 1) (i := 0) (j := 0) X dX9_step_0 rfl rfl rfl ?_
  refine v_dup (pc' := 2) X dX9_step_1 rfl rfl ?_
  refine fg_X9_66 (pc' := 5) X (v := M.1 0 7) rfl dX9_step_2 rfl ?_
  refine v_iconst (pc' := 6) (v := 1) X dX9_step_5 (by decide) rfl ?_
  refine v_iadd (pc' := 7) X dX9_step_6 rfl ?_
  refine fp_X9_66 (pc' := 10) X dX9_step_7 rfl ?_
  refine v_aload_n (pc' := 11) (i := 1) (j := 1) X dX9_step_10 rfl rfl rfl ?_
  refine fg_X9_69 (pc' := 14) X hi (v := M.1 (tb i) 2) (congrFun (mI_n _ _ _ _ (by unfold tb; omega)) _) dX9_step_11 rfl ?_
  refine v_istore_n (pc' := 15) (i := 2) (lv' := [(2, .int (M.1 (tb i) 2)), (0, .ref (ad (0))), (1, .ref (ad (tb i)))]) X dX9_step_14 rfl (by decide) rfl rfl ?_
  refine v_aload_n (pc' := 16) (i := 1) (j := 2) X dX9_step_15 rfl rfl rfl ?_
  refine v_dup (pc' := 17) X dX9_step_16 rfl rfl ?_
  refine fg_X9_69 (pc' := 20) X hi (v := M.1 (tb i) 2) (congrFun (mI_n _ _ _ _ (by unfold tb; omega)) _) dX9_step_17 rfl ?_
  refine v_iconst (pc' := 21) (v := 1) X dX9_step_20 (by decide) rfl ?_
  refine v_iadd (pc' := 22) X dX9_step_21 rfl ?_
  refine fp_X9_69 (pc' := 25) X hi dX9_step_22 rfl ?_
  refine v_iload_n (pc' := 26) (i := 2) (j := 0) X dX9_step_25 rfl rfl rfl ?_
  refine v_if_lt (pc' := 29) (tgt := 37) X dX9_step_26 (by decide) rfl (fun hc_26 => ?_) (fun hc_26 => ?_)
  -- taken 26
  · refine v_iconst (pc' := 38) (v := (-1)) X dX9_step_37 (by decide) rfl ?_
    refine v_goto (pc' := 70) X dX9_step_38 (by decide) ?_
    refine v_istore_n (pc' := 71) (i := 3) (lv' := [(3, .int (-1)), (2, .int (M.1 (tb i) 2)), (0, .ref (ad (0))), (1, .ref (ad (tb i)))]) X dX9_step_70 rfl (by decide) rfl rfl ?_
    refine v_iload_n (pc' := 72) (i := 3) (j := 0) X dX9_step_71 rfl rfl rfl ?_
    refine v_if_ge (pc' := 75) (tgt := 81) X dX9_step_72 (by decide) rfl (fun hc_72 => absurd hc_72 (by decide)) (fun _ => ?_)
    refine v_aload_n (pc' := 76) (i := 1) (j := 3) X dX9_step_75 rfl rfl rfl ?_
    refine v_iconst (pc' := 77) (v := 4) X dX9_step_76 (by decide) rfl ?_
    refine v_iload_n (pc' := 78) (i := 3) (j := 0) X dX9_step_77 rfl rfl rfl ?_
    refine v_callV (pc' := 81) X (st := []) (c_X8_end (M := (mI (mI M 0 7 ((M.1 0 7) + 1)) (tb i) 2 ((M.1 (tb i) 2) + 1))) hi (how := 4) (why := -1)) k_X8_end w_ml_X9_79 w_im_X8_end w_se_X8_X8_end (rv_T hi) (by rw [hR]; exact ⟨Nat.le_of_ble_eq_true rfl, Nat.le_of_ble_eq_true rfl⟩) rfl rfl (Nat.le_of_ble_eq_true rfl) dX9_step_78 rfl (⟨Nat.zero_le _, Nat.zero_le _⟩) ?_
    rintro _ _ ⟨rfl, rfl⟩
    refine v_return X R (Nat.zero_le _) (Nat.zero_le _) dX9_step_81 ?_
    have hF : fStep M n (tb i) = (fEnd (mI (mI M 0 7 (M.1 0 7 + 1)) (tb i) 2 (M.1 (tb i) 2 + 1)) (tb i) 4 (-1)) := by
      unfold fStep
      dsimp only
      exact if_pos (Or.inl hc_26)
    have hN : fStepN M n (tb i) = n := by
      unfold fStepN
      rw [hF]
      exact (iu_end (how := 4) (why := -1) hM1 hi (Or.inr rfl)).n
    rw [hF, hN]
    exact ⟨rfl, n, ad, rfl, rfl, fun _ _ => rfl⟩
  -- not taken 26
  · refine v_iload_n (pc' := 30) (i := 2) (j := 0) X dX9_step_29 rfl rfl rfl ?_
    refine v_aload_n (pc' := 31) (i := 0) (j := 1) X dX9_step_30 rfl rfl rfl ?_
    refine fg_X9_72 (pc' := 34) X (v := nI sz) ((congrFun (mI_n _ _ _ _ (by unfold tb; omega)) _).trans ((mI_o _ _ _ _ (by decide)).trans hsz)) dX9_step_31 rfl ?_
    refine v_icmp_lt (pc' := 37) (tgt := 41) X dX9_step_34 (by decide) rfl (fun hc_34 => ?_) (fun hc_34 => ?_)
    -- taken 34
    · obtain ⟨hk1, hk2⟩ := ix_of (k := M.1 (tb i) 2) (n := sz) (by omega) hc_26 (Int32.not_le.mpr hc_34)
      refine v_aload_n (pc' := 42) (i := 0) (j := 1) X dX9_step_41 rfl rfl rfl ?_
      refine v_aload_n (pc' := 43) (i := 1) (j := 2) X dX9_step_42 rfl rfl rfl ?_
      refine v_aload_n (pc' := 44) (i := 0) (j := 1) X dX9_step_43 rfl rfl rfl ?_
      refine fg_X9_13 (pc' := 47) X dX9_step_44 rfl ?_
      refine v_iload_n (pc' := 48) (i := 2) (j := 0) X dX9_step_47 rfl rfl rfl ?_
      refine ag_M9 (pc' := 49) X (v := M.1 9 (nn (M.1 (tb i) 2))) (nn (M.1 (tb i) 2)) hk1 (by omega) ((congrFun (mI_n _ _ _ _ (by unfold tb; omega)) _).trans (congrFun (mI_n _ _ _ _ (by decide)) _)) dX9_step_48 rfl ?_
      refine v_aload_n (pc' := 50) (i := 0) (j := 1) X dX9_step_49 rfl rfl rfl ?_
      refine fg_X9_17 (pc' := 53) X dX9_step_50 rfl ?_
      refine v_iload_n (pc' := 54) (i := 2) (j := 0) X dX9_step_53 rfl rfl rfl ?_
      refine ag_M10 (pc' := 55) X (v := M.1 10 (nn (M.1 (tb i) 2))) (nn (M.1 (tb i) 2)) hk1 (by omega) ((congrFun (mI_n _ _ _ _ (by unfold tb; omega)) _).trans (congrFun (mI_n _ _ _ _ (by decide)) _)) dX9_step_54 rfl ?_
      refine v_aload_n (pc' := 56) (i := 0) (j := 1) X dX9_step_55 rfl rfl rfl ?_
      refine fg_X9_20 (pc' := 59) X dX9_step_56 rfl ?_
      refine v_iload_n (pc' := 60) (i := 2) (j := 0) X dX9_step_59 rfl rfl rfl ?_
      refine ag_M11 (pc' := 61) X (v := M.1 11 (nn (M.1 (tb i) 2))) (nn (M.1 (tb i) 2)) hk1 (by omega) ((congrFun (mI_n _ _ _ _ (by unfold tb; omega)) _).trans (congrFun (mI_n _ _ _ _ (by decide)) _)) dX9_step_60 rfl ?_
      refine v_aload_n (pc' := 62) (i := 0) (j := 1) X dX9_step_61 rfl rfl rfl ?_
      refine fg_X9_23 (pc' := 65) X dX9_step_62 rfl ?_
      refine v_iload_n (pc' := 66) (i := 2) (j := 0) X dX9_step_65 rfl rfl rfl ?_
      refine ag_M12 (pc' := 67) X (v := M.1 12 (nn (M.1 (tb i) 2))) (nn (M.1 (tb i) 2)) hk1 (by omega) ((congrFun (mI_n _ _ _ _ (by unfold tb; omega)) _).trans (congrFun (mI_n _ _ _ _ (by decide)) _)) dX9_step_66 rfl ?_
      by_cases ho : M.1 9 (nn (M.1 (tb i) 2)) < 0 ∨ 29 < M.1 9 (nn (M.1 (tb i) 2))
      · refine v_callV (pc' := 70) X (st := []) (c_X9_known_bad (M := (mI (mI M 0 7 ((M.1 0 7) + 1)) (tb i) 2 ((M.1 (tb i) 2) + 1))) ho) k_X9_known w_ml_X9_75 w_im_X9_known w_se_X9_X9_known (rv_M) (by rw [hR]; exact ⟨Nat.le_of_ble_eq_true rfl, Nat.le_of_ble_eq_true rfl⟩) rfl rfl (Nat.le_of_ble_eq_true rfl) dX9_step_67 rfl (⟨Nat.zero_le _, Nat.zero_le _⟩) ?_
        rintro _ _ ⟨rfl, rfl⟩
        refine v_istore_n (pc' := 71) (i := 3) (lv' := [(3, .int (-1)), (2, .int (M.1 (tb i) 2)), (0, .ref (ad (0))), (1, .ref (ad (tb i)))]) X dX9_step_70 rfl (by decide) rfl rfl ?_
        refine v_iload_n (pc' := 72) (i := 3) (j := 0) X dX9_step_71 rfl rfl rfl ?_
        refine v_if_ge (pc' := 75) (tgt := 81) X dX9_step_72 (by decide) rfl (fun hc_72 => absurd hc_72 (by decide)) (fun _ => ?_)
        refine v_aload_n (pc' := 76) (i := 1) (j := 3) X dX9_step_75 rfl rfl rfl ?_
        refine v_iconst (pc' := 77) (v := 4) X dX9_step_76 (by decide) rfl ?_
        refine v_iload_n (pc' := 78) (i := 3) (j := 0) X dX9_step_77 rfl rfl rfl ?_
        refine v_callV (pc' := 81) X (st := []) (c_X8_end (M := (mI (mI M 0 7 ((M.1 0 7) + 1)) (tb i) 2 ((M.1 (tb i) 2) + 1))) hi (how := 4) (why := -1)) k_X8_end w_ml_X9_79 w_im_X8_end w_se_X8_X8_end (rv_T hi) (by rw [hR]; exact ⟨Nat.le_of_ble_eq_true rfl, Nat.le_of_ble_eq_true rfl⟩) rfl rfl (Nat.le_of_ble_eq_true rfl) dX9_step_78 rfl (⟨Nat.zero_le _, Nat.zero_le _⟩) ?_
        rintro _ _ ⟨rfl, rfl⟩
        refine v_return X R (Nat.zero_le _) (Nat.zero_le _) dX9_step_81 ?_
        have hF : fStep M n (tb i) = (fEnd (mI (mI M 0 7 (M.1 0 7 + 1)) (tb i) 2 (M.1 (tb i) 2 + 1)) (tb i) 4 (-1)) := by
          unfold fStep
          dsimp only
          rw [if_neg (fun z9 => z9.elim hc_26 (fun z8 => absurd hc_34 (Int32.not_lt.mpr (by rw [hsz] at z8; exact z8)))), if_pos ho]
        have hN : fStepN M n (tb i) = n := by
          unfold fStepN
          rw [hF]
          exact (iu_end (how := 4) (why := -1) hM1 hi (Or.inr rfl)).n
        rw [hF, hN]
        exact ⟨rfl, n, ad, rfl, rfl, fun _ _ => rfl⟩
      · obtain ⟨k9, hk9, hok⟩ : ∃ k : Nat, k ≤ 29 ∧ M.1 9 (nn (M.1 (tb i) 2)) = nI k := by
          obtain ⟨j, hj, hj2⟩ := nI_of (fun z9 => ho (Or.inl z9))
          refine ⟨j, ?_, hj2⟩
          rcases Nat.lt_or_ge 29 j with q9 | q9
          · exact absurd (Or.inr (by rw [hj2]; exact nI_lt (a := 29) (b := j) q9 hj)) ho
          · exact q9
        obtain ⟨n9x, us9, hU9, hnn, -⟩ := iu_known (x := M.1 10 (nn (M.1 (tb i) 2))) (y := M.1 11 (nn (M.1 (tb i) 2))) (z := M.1 12 (nn (M.1 (tb i) 2))) hM1 hi hs1 hk9
        have hn9x := hU9.n
        generalize hQ : fKnown (mI (mI M 0 7 (M.1 0 7 + 1)) (tb i) 2 (M.1 (tb i) 2 + 1)) n (tb i) k9 (M.1 10 (nn (M.1 (tb i) 2))) (M.1 11 (nn (M.1 (tb i) 2))) (M.1 12 (nn (M.1 (tb i) 2))) = Q at hU9 hn9x
        have hF : fStep M n (tb i) = if Q.2 < 0 then fEnd Q.1 (tb i) 4 Q.2 else Q.1 := by
          unfold fStep
          dsimp only
          rw [if_neg (fun z9 => z9.elim hc_26 (fun z8 => absurd hc_34 (Int32.not_lt.mpr (by rw [hsz] at z8; exact z8)))), if_neg ho, hok, nn_nI (by omega), hQ]
        have hN : fStepN M n (tb i) = n9x := by
          unfold fStepN
          rw [hF]
          split
          · exact (iu_end (how := 4) (why := Q.2) hU9 (Nat.lt_of_lt_of_le hi hnn) (Or.inr rfl)).n
          · exact hn9x
        rw [hF, hN] at R
        rw [hN] at hR
        have kk : ∀ (ad9 : Nat → Nat), (∀ c, c < tb n → ad9 c = ad c) → V K 4 (wM (kY K) n9x ad9 Q.1) (11 * (n9x - n)) (674 * (n9x - n)) 70 [(2, .int (M.1 (tb i) 2)), (0, .ref (ad9 (0))), (1, .ref (ad9 (tb i)))] [.int Q.2] := by
          intro ad9 hA
          have hi9 : i < n9x := Nat.lt_of_lt_of_le hi hnn
          refine v_istore_n (pc' := 71) (i := 3) (lv' := (3, .int Q.2) :: [(2, .int (M.1 (tb i) 2)), (0, .ref (ad9 (0))), (1, .ref (ad9 (tb i)))]) X dX9_step_70 rfl (by decide) rfl rfl ?_
          refine v_iload_n (pc' := 72) (i := 3) (j := 0) X dX9_step_71 rfl rfl rfl ?_
          refine v_if_ge (pc' := 75) (tgt := 81) X dX9_step_72 (by decide) rfl (fun hc_72 => ?_) (fun hc_72 => ?_)
          · refine v_return X R (Nat.le_refl _) (Nat.le_refl _) dX9_step_81 ?_
            rw [if_neg (Int32.not_lt.mpr hc_72)]
            exact ⟨rfl, n9x, ad9, rfl, rfl, hA⟩
          · refine v_aload_n (pc' := 76) (i := 1) (j := 3) X dX9_step_75 rfl rfl rfl ?_
            refine v_iconst (pc' := 77) (v := 4) X dX9_step_76 (by decide) rfl ?_
            refine v_iload_n (pc' := 78) (i := 3) (j := 0) X dX9_step_77 rfl rfl rfl ?_
            refine v_callV (pc' := 81) X (st := []) (c_X8_end (M := Q.1) hi9 (how := 4) (why := Q.2)) k_X8_end w_ml_X9_79 w_im_X8_end w_se_X8_X8_end (rv_T hi9) (by rw [hR]; exact ⟨Nat.le_of_ble_eq_true rfl, Nat.le_of_ble_eq_true rfl⟩) rfl rfl (Nat.le_of_ble_eq_true rfl) dX9_step_78 rfl (by rw [hR]; exact ⟨Nat.le_refl _, Nat.le_refl _⟩) ?_
            rintro _ _ ⟨rfl, rfl⟩
            refine v_return X R (Nat.le_refl _) (Nat.le_refl _) dX9_step_81 ?_
            rw [if_pos (Int32.not_le.mp hc_72)]
            exact ⟨rfl, n9x, ad9, rfl, rfl, hA⟩
        obtain ⟨sz1, pd1, hg1, hts1⟩ := id hM1
        obtain ⟨ca1, e1, r1, w1, hI1⟩ := hts1 i hi
        rw [hok]
        clear hok
        have hcs : k9 = 0 ∨ k9 = 1 ∨ k9 = 2 ∨ k9 = 3 ∨ k9 = 4 ∨ k9 = 5 ∨ k9 = 6 ∨ k9 = 7 ∨ k9 = 8 ∨ k9 = 9 ∨ k9 = 10 ∨ k9 = 11 ∨ k9 = 12 ∨ k9 = 13 ∨ k9 = 14 ∨ k9 = 15 ∨ k9 = 16 ∨ k9 = 17 ∨ k9 = 18 ∨ k9 = 19 ∨ k9 = 20 ∨ k9 = 21 ∨ k9 = 22 ∨ k9 = 23 ∨ k9 = 24 ∨ k9 = 25 ∨ k9 = 26 ∨ k9 = 27 ∨ k9 = 28 ∨ k9 = 29 := by omega
        rcases hcs with rfl | rfl | rfl | rfl | rfl | rfl | rfl | rfl | rfl | rfl | rfl | rfl | rfl | rfl | rfl | rfl | rfl | rfl | rfl | rfl | rfl | rfl | rfl | rfl | rfl | rfl | rfl | rfl | rfl | rfl
        · have hn9 : n9x = n := by
            obtain ⟨m9, u9, hm, -, hm2⟩ := iu_known (x := M.1 10 (nn (M.1 (tb i) 2))) (y := M.1 11 (nn (M.1 (tb i) 2))) (z := M.1 12 (nn (M.1 (tb i) 2))) hM1 hi hs1 (o := 0) (by decide)
            rw [← hn9x, ← hQ, hm.n]; exact hm2 (by decide)
          subst hn9
          refine v_callV (pc' := 70) X (st := []) (c_X9_known_0 (M := (mI (mI M 0 7 ((M.1 0 7) + 1)) (tb i) 2 ((M.1 (tb i) 2) + 1))) hi hg1 hts1 hI1 hs1 (x := M.1 10 (nn (M.1 (tb i) 2))) (y := M.1 11 (nn (M.1 (tb i) 2))) (z := M.1 12 (nn (M.1 (tb i) 2)))) k_X9_known w_ml_X9_75 w_im_X9_known w_se_X9_X9_known (rv_M) (by rw [hR]; exact ⟨Nat.le_of_ble_eq_true rfl, Nat.le_of_ble_eq_true rfl⟩) rfl rfl (Nat.le_of_ble_eq_true rfl) dX9_step_67 rfl (⟨Nat.zero_le _, Nat.zero_le _⟩) ?_
          rintro _ _ ⟨rfl, rfl⟩
          rw [hQ]
          have h9 := kk ad (fun _ _ => rfl)
          rw [Nat.sub_self] at h9
          exact h9
        · have hn9 : n9x = n := by
            obtain ⟨m9, u9, hm, -, hm2⟩ := iu_known (x := M.1 10 (nn (M.1 (tb i) 2))) (y := M.1 11 (nn (M.1 (tb i) 2))) (z := M.1 12 (nn (M.1 (tb i) 2))) hM1 hi hs1 (o := 1) (by decide)
            rw [← hn9x, ← hQ, hm.n]; exact hm2 (by decide)
          subst hn9
          refine v_callV (pc' := 70) X (st := []) (c_X9_known_1 (M := (mI (mI M 0 7 ((M.1 0 7) + 1)) (tb i) 2 ((M.1 (tb i) 2) + 1))) hi hg1 hts1 hI1 hs1 (x := M.1 10 (nn (M.1 (tb i) 2))) (y := M.1 11 (nn (M.1 (tb i) 2))) (z := M.1 12 (nn (M.1 (tb i) 2)))) k_X9_known w_ml_X9_75 w_im_X9_known w_se_X9_X9_known (rv_M) (by rw [hR]; exact ⟨Nat.le_of_ble_eq_true rfl, Nat.le_of_ble_eq_true rfl⟩) rfl rfl (Nat.le_of_ble_eq_true rfl) dX9_step_67 rfl (⟨Nat.zero_le _, Nat.zero_le _⟩) ?_
          rintro _ _ ⟨rfl, rfl⟩
          rw [hQ]
          have h9 := kk ad (fun _ _ => rfl)
          rw [Nat.sub_self] at h9
          exact h9
        · have hn9 : n9x = n := by
            obtain ⟨m9, u9, hm, -, hm2⟩ := iu_known (x := M.1 10 (nn (M.1 (tb i) 2))) (y := M.1 11 (nn (M.1 (tb i) 2))) (z := M.1 12 (nn (M.1 (tb i) 2))) hM1 hi hs1 (o := 2) (by decide)
            rw [← hn9x, ← hQ, hm.n]; exact hm2 (by decide)
          subst hn9
          refine v_callV (pc' := 70) X (st := []) (c_X9_known_2 (M := (mI (mI M 0 7 ((M.1 0 7) + 1)) (tb i) 2 ((M.1 (tb i) 2) + 1))) hi hg1 hts1 hI1 hs1 (x := M.1 10 (nn (M.1 (tb i) 2))) (y := M.1 11 (nn (M.1 (tb i) 2))) (z := M.1 12 (nn (M.1 (tb i) 2)))) k_X9_known w_ml_X9_75 w_im_X9_known w_se_X9_X9_known (rv_M) (by rw [hR]; exact ⟨Nat.le_of_ble_eq_true rfl, Nat.le_of_ble_eq_true rfl⟩) rfl rfl (Nat.le_of_ble_eq_true rfl) dX9_step_67 rfl (⟨Nat.zero_le _, Nat.zero_le _⟩) ?_
          rintro _ _ ⟨rfl, rfl⟩
          rw [hQ]
          have h9 := kk ad (fun _ _ => rfl)
          rw [Nat.sub_self] at h9
          exact h9
        · have hn9 : n9x = n := by
            obtain ⟨m9, u9, hm, -, hm2⟩ := iu_known (x := M.1 10 (nn (M.1 (tb i) 2))) (y := M.1 11 (nn (M.1 (tb i) 2))) (z := M.1 12 (nn (M.1 (tb i) 2))) hM1 hi hs1 (o := 3) (by decide)
            rw [← hn9x, ← hQ, hm.n]; exact hm2 (by decide)
          subst hn9
          refine v_callV (pc' := 70) X (st := []) (c_X9_known_3 (M := (mI (mI M 0 7 ((M.1 0 7) + 1)) (tb i) 2 ((M.1 (tb i) 2) + 1))) hi hg1 hts1 hI1 hs1 (x := M.1 10 (nn (M.1 (tb i) 2))) (y := M.1 11 (nn (M.1 (tb i) 2))) (z := M.1 12 (nn (M.1 (tb i) 2)))) k_X9_known w_ml_X9_75 w_im_X9_known w_se_X9_X9_known (rv_M) (by rw [hR]; exact ⟨Nat.le_of_ble_eq_true rfl, Nat.le_of_ble_eq_true rfl⟩) rfl rfl (Nat.le_of_ble_eq_true rfl) dX9_step_67 rfl (⟨Nat.zero_le _, Nat.zero_le _⟩) ?_
          rintro _ _ ⟨rfl, rfl⟩
          rw [hQ]
          have h9 := kk ad (fun _ _ => rfl)
          rw [Nat.sub_self] at h9
          exact h9
        · have hn9 : n9x = n := by
            obtain ⟨m9, u9, hm, -, hm2⟩ := iu_known (x := M.1 10 (nn (M.1 (tb i) 2))) (y := M.1 11 (nn (M.1 (tb i) 2))) (z := M.1 12 (nn (M.1 (tb i) 2))) hM1 hi hs1 (o := 4) (by decide)
            rw [← hn9x, ← hQ, hm.n]; exact hm2 (by decide)
          subst hn9
          refine v_callV (pc' := 70) X (st := []) (c_X9_known_4 (M := (mI (mI M 0 7 ((M.1 0 7) + 1)) (tb i) 2 ((M.1 (tb i) 2) + 1))) hi hg1 hts1 hI1 hs1 (x := M.1 10 (nn (M.1 (tb i) 2))) (y := M.1 11 (nn (M.1 (tb i) 2))) (z := M.1 12 (nn (M.1 (tb i) 2)))) k_X9_known w_ml_X9_75 w_im_X9_known w_se_X9_X9_known (rv_M) (by rw [hR]; exact ⟨Nat.le_of_ble_eq_true rfl, Nat.le_of_ble_eq_true rfl⟩) rfl rfl (Nat.le_of_ble_eq_true rfl) dX9_step_67 rfl (⟨Nat.zero_le _, Nat.zero_le _⟩) ?_
          rintro _ _ ⟨rfl, rfl⟩
          rw [hQ]
          have h9 := kk ad (fun _ _ => rfl)
          rw [Nat.sub_self] at h9
          exact h9
        · have hn9 : n9x = n := by
            obtain ⟨m9, u9, hm, -, hm2⟩ := iu_known (x := M.1 10 (nn (M.1 (tb i) 2))) (y := M.1 11 (nn (M.1 (tb i) 2))) (z := M.1 12 (nn (M.1 (tb i) 2))) hM1 hi hs1 (o := 5) (by decide)
            rw [← hn9x, ← hQ, hm.n]; exact hm2 (by decide)
          subst hn9
          refine v_callV (pc' := 70) X (st := []) (c_X9_known_5 (M := (mI (mI M 0 7 ((M.1 0 7) + 1)) (tb i) 2 ((M.1 (tb i) 2) + 1))) hi hg1 hts1 hI1 hs1 (x := M.1 10 (nn (M.1 (tb i) 2))) (y := M.1 11 (nn (M.1 (tb i) 2))) (z := M.1 12 (nn (M.1 (tb i) 2)))) k_X9_known w_ml_X9_75 w_im_X9_known w_se_X9_X9_known (rv_M) (by rw [hR]; exact ⟨Nat.le_of_ble_eq_true rfl, Nat.le_of_ble_eq_true rfl⟩) rfl rfl (Nat.le_of_ble_eq_true rfl) dX9_step_67 rfl (⟨Nat.zero_le _, Nat.zero_le _⟩) ?_
          rintro _ _ ⟨rfl, rfl⟩
          rw [hQ]
          have h9 := kk ad (fun _ _ => rfl)
          rw [Nat.sub_self] at h9
          exact h9
        · have hn9 : n9x = n := by
            obtain ⟨m9, u9, hm, -, hm2⟩ := iu_known (x := M.1 10 (nn (M.1 (tb i) 2))) (y := M.1 11 (nn (M.1 (tb i) 2))) (z := M.1 12 (nn (M.1 (tb i) 2))) hM1 hi hs1 (o := 6) (by decide)
            rw [← hn9x, ← hQ, hm.n]; exact hm2 (by decide)
          subst hn9
          refine v_callV (pc' := 70) X (st := []) (c_X9_known_6 (M := (mI (mI M 0 7 ((M.1 0 7) + 1)) (tb i) 2 ((M.1 (tb i) 2) + 1))) hi hg1 hts1 hI1 hs1 (x := M.1 10 (nn (M.1 (tb i) 2))) (y := M.1 11 (nn (M.1 (tb i) 2))) (z := M.1 12 (nn (M.1 (tb i) 2)))) k_X9_known w_ml_X9_75 w_im_X9_known w_se_X9_X9_known (rv_M) (by rw [hR]; exact ⟨Nat.le_of_ble_eq_true rfl, Nat.le_of_ble_eq_true rfl⟩) rfl rfl (Nat.le_of_ble_eq_true rfl) dX9_step_67 rfl (⟨Nat.zero_le _, Nat.zero_le _⟩) ?_
          rintro _ _ ⟨rfl, rfl⟩
          rw [hQ]
          have h9 := kk ad (fun _ _ => rfl)
          rw [Nat.sub_self] at h9
          exact h9
        · have hn9 : n9x = n := by
            obtain ⟨m9, u9, hm, -, hm2⟩ := iu_known (x := M.1 10 (nn (M.1 (tb i) 2))) (y := M.1 11 (nn (M.1 (tb i) 2))) (z := M.1 12 (nn (M.1 (tb i) 2))) hM1 hi hs1 (o := 7) (by decide)
            rw [← hn9x, ← hQ, hm.n]; exact hm2 (by decide)
          subst hn9
          refine v_callV (pc' := 70) X (st := []) (c_X9_known_7 (M := (mI (mI M 0 7 ((M.1 0 7) + 1)) (tb i) 2 ((M.1 (tb i) 2) + 1))) hi hg1 hts1 hI1 hs1 (x := M.1 10 (nn (M.1 (tb i) 2))) (y := M.1 11 (nn (M.1 (tb i) 2))) (z := M.1 12 (nn (M.1 (tb i) 2)))) k_X9_known w_ml_X9_75 w_im_X9_known w_se_X9_X9_known (rv_M) (by rw [hR]; exact ⟨Nat.le_of_ble_eq_true rfl, Nat.le_of_ble_eq_true rfl⟩) rfl rfl (Nat.le_of_ble_eq_true rfl) dX9_step_67 rfl (⟨Nat.zero_le _, Nat.zero_le _⟩) ?_
          rintro _ _ ⟨rfl, rfl⟩
          rw [hQ]
          have h9 := kk ad (fun _ _ => rfl)
          rw [Nat.sub_self] at h9
          exact h9
        · have hn9 : n9x = n := by
            obtain ⟨m9, u9, hm, -, hm2⟩ := iu_known (x := M.1 10 (nn (M.1 (tb i) 2))) (y := M.1 11 (nn (M.1 (tb i) 2))) (z := M.1 12 (nn (M.1 (tb i) 2))) hM1 hi hs1 (o := 8) (by decide)
            rw [← hn9x, ← hQ, hm.n]; exact hm2 (by decide)
          subst hn9
          refine v_callV (pc' := 70) X (st := []) (c_X9_known_8 (M := (mI (mI M 0 7 ((M.1 0 7) + 1)) (tb i) 2 ((M.1 (tb i) 2) + 1))) hi hg1 hts1 hI1 hs1 (x := M.1 10 (nn (M.1 (tb i) 2))) (y := M.1 11 (nn (M.1 (tb i) 2))) (z := M.1 12 (nn (M.1 (tb i) 2)))) k_X9_known w_ml_X9_75 w_im_X9_known w_se_X9_X9_known (rv_M) (by rw [hR]; exact ⟨Nat.le_of_ble_eq_true rfl, Nat.le_of_ble_eq_true rfl⟩) rfl rfl (Nat.le_of_ble_eq_true rfl) dX9_step_67 rfl (⟨Nat.zero_le _, Nat.zero_le _⟩) ?_
          rintro _ _ ⟨rfl, rfl⟩
          rw [hQ]
          have h9 := kk ad (fun _ _ => rfl)
          rw [Nat.sub_self] at h9
          exact h9
        · have hn9 : n9x = n := by
            obtain ⟨m9, u9, hm, -, hm2⟩ := iu_known (x := M.1 10 (nn (M.1 (tb i) 2))) (y := M.1 11 (nn (M.1 (tb i) 2))) (z := M.1 12 (nn (M.1 (tb i) 2))) hM1 hi hs1 (o := 9) (by decide)
            rw [← hn9x, ← hQ, hm.n]; exact hm2 (by decide)
          subst hn9
          refine v_callV (pc' := 70) X (st := []) (c_X9_known_9 (M := (mI (mI M 0 7 ((M.1 0 7) + 1)) (tb i) 2 ((M.1 (tb i) 2) + 1))) hi hg1 hts1 hI1 hs1 (x := M.1 10 (nn (M.1 (tb i) 2))) (y := M.1 11 (nn (M.1 (tb i) 2))) (z := M.1 12 (nn (M.1 (tb i) 2)))) k_X9_known w_ml_X9_75 w_im_X9_known w_se_X9_X9_known (rv_M) (by rw [hR]; exact ⟨Nat.le_of_ble_eq_true rfl, Nat.le_of_ble_eq_true rfl⟩) rfl rfl (Nat.le_of_ble_eq_true rfl) dX9_step_67 rfl (⟨Nat.zero_le _, Nat.zero_le _⟩) ?_
          rintro _ _ ⟨rfl, rfl⟩
          rw [hQ]
          have h9 := kk ad (fun _ _ => rfl)
          rw [Nat.sub_self] at h9
          exact h9
        · have hn9 : n9x = n := by
            obtain ⟨m9, u9, hm, -, hm2⟩ := iu_known (x := M.1 10 (nn (M.1 (tb i) 2))) (y := M.1 11 (nn (M.1 (tb i) 2))) (z := M.1 12 (nn (M.1 (tb i) 2))) hM1 hi hs1 (o := 10) (by decide)
            rw [← hn9x, ← hQ, hm.n]; exact hm2 (by decide)
          subst hn9
          refine v_callV (pc' := 70) X (st := []) (c_X9_known_10 (M := (mI (mI M 0 7 ((M.1 0 7) + 1)) (tb i) 2 ((M.1 (tb i) 2) + 1))) hi hg1 hts1 hI1 hs1 (x := M.1 10 (nn (M.1 (tb i) 2))) (y := M.1 11 (nn (M.1 (tb i) 2))) (z := M.1 12 (nn (M.1 (tb i) 2)))) k_X9_known w_ml_X9_75 w_im_X9_known w_se_X9_X9_known (rv_M) (by rw [hR]; exact ⟨Nat.le_of_ble_eq_true rfl, Nat.le_of_ble_eq_true rfl⟩) rfl rfl (Nat.le_of_ble_eq_true rfl) dX9_step_67 rfl (⟨Nat.zero_le _, Nat.zero_le _⟩) ?_
          rintro _ _ ⟨rfl, rfl⟩
          rw [hQ]
          have h9 := kk ad (fun _ _ => rfl)
          rw [Nat.sub_self] at h9
          exact h9
        · have hn9 : n9x = n := by
            obtain ⟨m9, u9, hm, -, hm2⟩ := iu_known (x := M.1 10 (nn (M.1 (tb i) 2))) (y := M.1 11 (nn (M.1 (tb i) 2))) (z := M.1 12 (nn (M.1 (tb i) 2))) hM1 hi hs1 (o := 11) (by decide)
            rw [← hn9x, ← hQ, hm.n]; exact hm2 (by decide)
          subst hn9
          refine v_callV (pc' := 70) X (st := []) (c_X9_known_11 (M := (mI (mI M 0 7 ((M.1 0 7) + 1)) (tb i) 2 ((M.1 (tb i) 2) + 1))) hi hg1 hts1 hI1 hs1 (x := M.1 10 (nn (M.1 (tb i) 2))) (y := M.1 11 (nn (M.1 (tb i) 2))) (z := M.1 12 (nn (M.1 (tb i) 2)))) k_X9_known w_ml_X9_75 w_im_X9_known w_se_X9_X9_known (rv_M) (by rw [hR]; exact ⟨Nat.le_of_ble_eq_true rfl, Nat.le_of_ble_eq_true rfl⟩) rfl rfl (Nat.le_of_ble_eq_true rfl) dX9_step_67 rfl (⟨Nat.zero_le _, Nat.zero_le _⟩) ?_
          rintro _ _ ⟨rfl, rfl⟩
          rw [hQ]
          have h9 := kk ad (fun _ _ => rfl)
          rw [Nat.sub_self] at h9
          exact h9
        · have hn9 : n9x = n := by
            obtain ⟨m9, u9, hm, -, hm2⟩ := iu_known (x := M.1 10 (nn (M.1 (tb i) 2))) (y := M.1 11 (nn (M.1 (tb i) 2))) (z := M.1 12 (nn (M.1 (tb i) 2))) hM1 hi hs1 (o := 12) (by decide)
            rw [← hn9x, ← hQ, hm.n]; exact hm2 (by decide)
          subst hn9
          refine v_callV (pc' := 70) X (st := []) (c_X9_known_12 (M := (mI (mI M 0 7 ((M.1 0 7) + 1)) (tb i) 2 ((M.1 (tb i) 2) + 1))) hi hg1 hts1 hI1 hs1 (x := M.1 10 (nn (M.1 (tb i) 2))) (y := M.1 11 (nn (M.1 (tb i) 2))) (z := M.1 12 (nn (M.1 (tb i) 2)))) k_X9_known w_ml_X9_75 w_im_X9_known w_se_X9_X9_known (rv_M) (by rw [hR]; exact ⟨Nat.le_of_ble_eq_true rfl, Nat.le_of_ble_eq_true rfl⟩) rfl rfl (Nat.le_of_ble_eq_true rfl) dX9_step_67 rfl (⟨Nat.zero_le _, Nat.zero_le _⟩) ?_
          rintro _ _ ⟨rfl, rfl⟩
          rw [hQ]
          have h9 := kk ad (fun _ _ => rfl)
          rw [Nat.sub_self] at h9
          exact h9
        · have hn9 : n9x = n := by
            obtain ⟨m9, u9, hm, -, hm2⟩ := iu_known (x := M.1 10 (nn (M.1 (tb i) 2))) (y := M.1 11 (nn (M.1 (tb i) 2))) (z := M.1 12 (nn (M.1 (tb i) 2))) hM1 hi hs1 (o := 13) (by decide)
            rw [← hn9x, ← hQ, hm.n]; exact hm2 (by decide)
          subst hn9
          refine v_callV (pc' := 70) X (st := []) (c_X9_known_13 (M := (mI (mI M 0 7 ((M.1 0 7) + 1)) (tb i) 2 ((M.1 (tb i) 2) + 1))) hi hg1 hts1 hI1 hs1 (x := M.1 10 (nn (M.1 (tb i) 2))) (y := M.1 11 (nn (M.1 (tb i) 2))) (z := M.1 12 (nn (M.1 (tb i) 2)))) k_X9_known w_ml_X9_75 w_im_X9_known w_se_X9_X9_known (rv_M) (by rw [hR]; exact ⟨Nat.le_of_ble_eq_true rfl, Nat.le_of_ble_eq_true rfl⟩) rfl rfl (Nat.le_of_ble_eq_true rfl) dX9_step_67 rfl (⟨Nat.zero_le _, Nat.zero_le _⟩) ?_
          rintro _ _ ⟨rfl, rfl⟩
          rw [hQ]
          have h9 := kk ad (fun _ _ => rfl)
          rw [Nat.sub_self] at h9
          exact h9
        · have hn9 : n9x = n := by
            obtain ⟨m9, u9, hm, -, hm2⟩ := iu_known (x := M.1 10 (nn (M.1 (tb i) 2))) (y := M.1 11 (nn (M.1 (tb i) 2))) (z := M.1 12 (nn (M.1 (tb i) 2))) hM1 hi hs1 (o := 14) (by decide)
            rw [← hn9x, ← hQ, hm.n]; exact hm2 (by decide)
          subst hn9
          refine v_callV (pc' := 70) X (st := []) (c_X9_known_14 (M := (mI (mI M 0 7 ((M.1 0 7) + 1)) (tb i) 2 ((M.1 (tb i) 2) + 1))) hi hg1 hts1 hI1 hs1 (x := M.1 10 (nn (M.1 (tb i) 2))) (y := M.1 11 (nn (M.1 (tb i) 2))) (z := M.1 12 (nn (M.1 (tb i) 2)))) k_X9_known w_ml_X9_75 w_im_X9_known w_se_X9_X9_known (rv_M) (by rw [hR]; exact ⟨Nat.le_of_ble_eq_true rfl, Nat.le_of_ble_eq_true rfl⟩) rfl rfl (Nat.le_of_ble_eq_true rfl) dX9_step_67 rfl (⟨Nat.zero_le _, Nat.zero_le _⟩) ?_
          rintro _ _ ⟨rfl, rfl⟩
          rw [hQ]
          have h9 := kk ad (fun _ _ => rfl)
          rw [Nat.sub_self] at h9
          exact h9
        · have hn9 : n9x = n := by
            obtain ⟨m9, u9, hm, -, hm2⟩ := iu_known (x := M.1 10 (nn (M.1 (tb i) 2))) (y := M.1 11 (nn (M.1 (tb i) 2))) (z := M.1 12 (nn (M.1 (tb i) 2))) hM1 hi hs1 (o := 15) (by decide)
            rw [← hn9x, ← hQ, hm.n]; exact hm2 (by decide)
          subst hn9
          refine v_callV (pc' := 70) X (st := []) (c_X9_known_15 (M := (mI (mI M 0 7 ((M.1 0 7) + 1)) (tb i) 2 ((M.1 (tb i) 2) + 1))) hi hg1 hts1 hI1 hs1 (x := M.1 10 (nn (M.1 (tb i) 2))) (y := M.1 11 (nn (M.1 (tb i) 2))) (z := M.1 12 (nn (M.1 (tb i) 2)))) k_X9_known w_ml_X9_75 w_im_X9_known w_se_X9_X9_known (rv_M) (by rw [hR]; exact ⟨Nat.le_of_ble_eq_true rfl, Nat.le_of_ble_eq_true rfl⟩) rfl rfl (Nat.le_of_ble_eq_true rfl) dX9_step_67 rfl (⟨Nat.zero_le _, Nat.zero_le _⟩) ?_
          rintro _ _ ⟨rfl, rfl⟩
          rw [hQ]
          have h9 := kk ad (fun _ _ => rfl)
          rw [Nat.sub_self] at h9
          exact h9
        · have hn9 : n9x = n := by
            obtain ⟨m9, u9, hm, -, hm2⟩ := iu_known (x := M.1 10 (nn (M.1 (tb i) 2))) (y := M.1 11 (nn (M.1 (tb i) 2))) (z := M.1 12 (nn (M.1 (tb i) 2))) hM1 hi hs1 (o := 16) (by decide)
            rw [← hn9x, ← hQ, hm.n]; exact hm2 (by decide)
          subst hn9
          refine v_callV (pc' := 70) X (st := []) (c_X9_known_16 (M := (mI (mI M 0 7 ((M.1 0 7) + 1)) (tb i) 2 ((M.1 (tb i) 2) + 1))) hi hg1 hts1 hI1 hs1 (x := M.1 10 (nn (M.1 (tb i) 2))) (y := M.1 11 (nn (M.1 (tb i) 2))) (z := M.1 12 (nn (M.1 (tb i) 2)))) k_X9_known w_ml_X9_75 w_im_X9_known w_se_X9_X9_known (rv_M) (by rw [hR]; exact ⟨Nat.le_of_ble_eq_true rfl, Nat.le_of_ble_eq_true rfl⟩) rfl rfl (Nat.le_of_ble_eq_true rfl) dX9_step_67 rfl (⟨Nat.zero_le _, Nat.zero_le _⟩) ?_
          rintro _ _ ⟨rfl, rfl⟩
          rw [hQ]
          have h9 := kk ad (fun _ _ => rfl)
          rw [Nat.sub_self] at h9
          exact h9
        · have hn9 : n9x = n := by
            obtain ⟨m9, u9, hm, -, hm2⟩ := iu_known (x := M.1 10 (nn (M.1 (tb i) 2))) (y := M.1 11 (nn (M.1 (tb i) 2))) (z := M.1 12 (nn (M.1 (tb i) 2))) hM1 hi hs1 (o := 17) (by decide)
            rw [← hn9x, ← hQ, hm.n]; exact hm2 (by decide)
          subst hn9
          refine v_callV (pc' := 70) X (st := []) (c_X9_known_17 (M := (mI (mI M 0 7 ((M.1 0 7) + 1)) (tb i) 2 ((M.1 (tb i) 2) + 1))) hi hg1 hts1 hI1 hs1 (x := M.1 10 (nn (M.1 (tb i) 2))) (y := M.1 11 (nn (M.1 (tb i) 2))) (z := M.1 12 (nn (M.1 (tb i) 2)))) k_X9_known w_ml_X9_75 w_im_X9_known w_se_X9_X9_known (rv_M) (by rw [hR]; exact ⟨Nat.le_of_ble_eq_true rfl, Nat.le_of_ble_eq_true rfl⟩) rfl rfl (Nat.le_of_ble_eq_true rfl) dX9_step_67 rfl (⟨Nat.zero_le _, Nat.zero_le _⟩) ?_
          rintro _ _ ⟨rfl, rfl⟩
          rw [hQ]
          have h9 := kk ad (fun _ _ => rfl)
          rw [Nat.sub_self] at h9
          exact h9
        · have hn9 : n9x = n := by
            obtain ⟨m9, u9, hm, -, hm2⟩ := iu_known (x := M.1 10 (nn (M.1 (tb i) 2))) (y := M.1 11 (nn (M.1 (tb i) 2))) (z := M.1 12 (nn (M.1 (tb i) 2))) hM1 hi hs1 (o := 18) (by decide)
            rw [← hn9x, ← hQ, hm.n]; exact hm2 (by decide)
          subst hn9
          refine v_callV (pc' := 70) X (st := []) (c_X9_known_18 (M := (mI (mI M 0 7 ((M.1 0 7) + 1)) (tb i) 2 ((M.1 (tb i) 2) + 1))) hi hg1 hts1 hI1 hs1 (x := M.1 10 (nn (M.1 (tb i) 2))) (y := M.1 11 (nn (M.1 (tb i) 2))) (z := M.1 12 (nn (M.1 (tb i) 2)))) k_X9_known w_ml_X9_75 w_im_X9_known w_se_X9_X9_known (rv_M) (by rw [hR]; exact ⟨Nat.le_of_ble_eq_true rfl, Nat.le_of_ble_eq_true rfl⟩) rfl rfl (Nat.le_of_ble_eq_true rfl) dX9_step_67 rfl (⟨Nat.zero_le _, Nat.zero_le _⟩) ?_
          rintro _ _ ⟨rfl, rfl⟩
          rw [hQ]
          have h9 := kk ad (fun _ _ => rfl)
          rw [Nat.sub_self] at h9
          exact h9
        · have hn9 : n9x = n := by
            obtain ⟨m9, u9, hm, -, hm2⟩ := iu_known (x := M.1 10 (nn (M.1 (tb i) 2))) (y := M.1 11 (nn (M.1 (tb i) 2))) (z := M.1 12 (nn (M.1 (tb i) 2))) hM1 hi hs1 (o := 19) (by decide)
            rw [← hn9x, ← hQ, hm.n]; exact hm2 (by decide)
          subst hn9
          refine v_callV (pc' := 70) X (st := []) (c_X9_known_19 (M := (mI (mI M 0 7 ((M.1 0 7) + 1)) (tb i) 2 ((M.1 (tb i) 2) + 1))) hi hg1 hts1 hI1 hs1 (x := M.1 10 (nn (M.1 (tb i) 2))) (y := M.1 11 (nn (M.1 (tb i) 2))) (z := M.1 12 (nn (M.1 (tb i) 2)))) k_X9_known w_ml_X9_75 w_im_X9_known w_se_X9_X9_known (rv_M) (by rw [hR]; exact ⟨Nat.le_of_ble_eq_true rfl, Nat.le_of_ble_eq_true rfl⟩) rfl rfl (Nat.le_of_ble_eq_true rfl) dX9_step_67 rfl (⟨Nat.zero_le _, Nat.zero_le _⟩) ?_
          rintro _ _ ⟨rfl, rfl⟩
          rw [hQ]
          have h9 := kk ad (fun _ _ => rfl)
          rw [Nat.sub_self] at h9
          exact h9
        · have hn9 : n9x = n := by
            obtain ⟨m9, u9, hm, -, hm2⟩ := iu_known (x := M.1 10 (nn (M.1 (tb i) 2))) (y := M.1 11 (nn (M.1 (tb i) 2))) (z := M.1 12 (nn (M.1 (tb i) 2))) hM1 hi hs1 (o := 20) (by decide)
            rw [← hn9x, ← hQ, hm.n]; exact hm2 (by decide)
          subst hn9
          refine v_callV (pc' := 70) X (st := []) (c_X9_known_20 (M := (mI (mI M 0 7 ((M.1 0 7) + 1)) (tb i) 2 ((M.1 (tb i) 2) + 1))) hi hg1 hts1 hI1 hs1 (x := M.1 10 (nn (M.1 (tb i) 2))) (y := M.1 11 (nn (M.1 (tb i) 2))) (z := M.1 12 (nn (M.1 (tb i) 2)))) k_X9_known w_ml_X9_75 w_im_X9_known w_se_X9_X9_known (rv_M) (by rw [hR]; exact ⟨Nat.le_of_ble_eq_true rfl, Nat.le_of_ble_eq_true rfl⟩) rfl rfl (Nat.le_of_ble_eq_true rfl) dX9_step_67 rfl (⟨Nat.zero_le _, Nat.zero_le _⟩) ?_
          rintro _ _ ⟨rfl, rfl⟩
          rw [hQ]
          have h9 := kk ad (fun _ _ => rfl)
          rw [Nat.sub_self] at h9
          exact h9
        · have hn9 : n9x = n := by
            obtain ⟨m9, u9, hm, -, hm2⟩ := iu_known (x := M.1 10 (nn (M.1 (tb i) 2))) (y := M.1 11 (nn (M.1 (tb i) 2))) (z := M.1 12 (nn (M.1 (tb i) 2))) hM1 hi hs1 (o := 21) (by decide)
            rw [← hn9x, ← hQ, hm.n]; exact hm2 (by decide)
          subst hn9
          refine v_callV (pc' := 70) X (st := []) (c_X9_known_21 (M := (mI (mI M 0 7 ((M.1 0 7) + 1)) (tb i) 2 ((M.1 (tb i) 2) + 1))) hi hg1 hts1 hI1 hs1 (x := M.1 10 (nn (M.1 (tb i) 2))) (y := M.1 11 (nn (M.1 (tb i) 2))) (z := M.1 12 (nn (M.1 (tb i) 2)))) k_X9_known w_ml_X9_75 w_im_X9_known w_se_X9_X9_known (rv_M) (by rw [hR]; exact ⟨Nat.le_of_ble_eq_true rfl, Nat.le_of_ble_eq_true rfl⟩) rfl rfl (Nat.le_of_ble_eq_true rfl) dX9_step_67 rfl (⟨Nat.zero_le _, Nat.zero_le _⟩) ?_
          rintro _ _ ⟨rfl, rfl⟩
          rw [hQ]
          have h9 := kk ad (fun _ _ => rfl)
          rw [Nat.sub_self] at h9
          exact h9
        · have hn9 : n9x = n := by
            obtain ⟨m9, u9, hm, -, hm2⟩ := iu_known (x := M.1 10 (nn (M.1 (tb i) 2))) (y := M.1 11 (nn (M.1 (tb i) 2))) (z := M.1 12 (nn (M.1 (tb i) 2))) hM1 hi hs1 (o := 22) (by decide)
            rw [← hn9x, ← hQ, hm.n]; exact hm2 (by decide)
          subst hn9
          refine v_callV (pc' := 70) X (st := []) (c_X9_known_22 (M := (mI (mI M 0 7 ((M.1 0 7) + 1)) (tb i) 2 ((M.1 (tb i) 2) + 1))) hi hg1 hts1 hI1 hs1 (x := M.1 10 (nn (M.1 (tb i) 2))) (y := M.1 11 (nn (M.1 (tb i) 2))) (z := M.1 12 (nn (M.1 (tb i) 2)))) k_X9_known w_ml_X9_75 w_im_X9_known w_se_X9_X9_known (rv_M) (by rw [hR]; exact ⟨Nat.le_of_ble_eq_true rfl, Nat.le_of_ble_eq_true rfl⟩) rfl rfl (Nat.le_of_ble_eq_true rfl) dX9_step_67 rfl (⟨Nat.zero_le _, Nat.zero_le _⟩) ?_
          rintro _ _ ⟨rfl, rfl⟩
          rw [hQ]
          have h9 := kk ad (fun _ _ => rfl)
          rw [Nat.sub_self] at h9
          exact h9
        · have hn9 : n9x = n := by
            obtain ⟨m9, u9, hm, -, hm2⟩ := iu_known (x := M.1 10 (nn (M.1 (tb i) 2))) (y := M.1 11 (nn (M.1 (tb i) 2))) (z := M.1 12 (nn (M.1 (tb i) 2))) hM1 hi hs1 (o := 23) (by decide)
            rw [← hn9x, ← hQ, hm.n]; exact hm2 (by decide)
          subst hn9
          refine v_callV (pc' := 70) X (st := []) (c_X9_known_23 (M := (mI (mI M 0 7 ((M.1 0 7) + 1)) (tb i) 2 ((M.1 (tb i) 2) + 1))) hi hg1 hts1 hI1 hs1 (x := M.1 10 (nn (M.1 (tb i) 2))) (y := M.1 11 (nn (M.1 (tb i) 2))) (z := M.1 12 (nn (M.1 (tb i) 2)))) k_X9_known w_ml_X9_75 w_im_X9_known w_se_X9_X9_known (rv_M) (by rw [hR]; exact ⟨Nat.le_of_ble_eq_true rfl, Nat.le_of_ble_eq_true rfl⟩) rfl rfl (Nat.le_of_ble_eq_true rfl) dX9_step_67 rfl (⟨Nat.zero_le _, Nat.zero_le _⟩) ?_
          rintro _ _ ⟨rfl, rfl⟩
          rw [hQ]
          have h9 := kk ad (fun _ _ => rfl)
          rw [Nat.sub_self] at h9
          exact h9
        · have hn9 : n9x = n := by
            obtain ⟨m9, u9, hm, -, hm2⟩ := iu_known (x := M.1 10 (nn (M.1 (tb i) 2))) (y := M.1 11 (nn (M.1 (tb i) 2))) (z := M.1 12 (nn (M.1 (tb i) 2))) hM1 hi hs1 (o := 24) (by decide)
            rw [← hn9x, ← hQ, hm.n]; exact hm2 (by decide)
          subst hn9
          refine v_callV (pc' := 70) X (st := []) (c_X9_known_24 (M := (mI (mI M 0 7 ((M.1 0 7) + 1)) (tb i) 2 ((M.1 (tb i) 2) + 1))) hi hg1 hts1 hI1 hs1 (x := M.1 10 (nn (M.1 (tb i) 2))) (y := M.1 11 (nn (M.1 (tb i) 2))) (z := M.1 12 (nn (M.1 (tb i) 2)))) k_X9_known w_ml_X9_75 w_im_X9_known w_se_X9_X9_known (rv_M) (by rw [hR]; exact ⟨Nat.le_of_ble_eq_true rfl, Nat.le_of_ble_eq_true rfl⟩) rfl rfl (Nat.le_of_ble_eq_true rfl) dX9_step_67 rfl (⟨Nat.zero_le _, Nat.zero_le _⟩) ?_
          rintro _ _ ⟨rfl, rfl⟩
          rw [hQ]
          have h9 := kk ad (fun _ _ => rfl)
          rw [Nat.sub_self] at h9
          exact h9
        · refine v_callV (pc' := 70) X (st := []) (c_X9_known_25 (M := (mI (mI M 0 7 ((M.1 0 7) + 1)) (tb i) 2 ((M.1 (tb i) 2) + 1))) hi hg1 hts1 hI1 hs1 (x := M.1 10 (nn (M.1 (tb i) 2))) (y := M.1 11 (nn (M.1 (tb i) 2))) (z := M.1 12 (nn (M.1 (tb i) 2)))) k_X9_known w_ml_X9_75 w_im_X9_known w_se_X9_X9_known (rv_M) (by rw [hR]; exact ⟨Nat.le_of_ble_eq_true rfl, Nat.le_of_ble_eq_true rfl⟩) rfl rfl (Nat.le_of_ble_eq_true rfl) dX9_step_67 rfl (by rw [hR, hQ, hn9x]; exact ⟨Nat.le_of_eq (Nat.zero_add _), Nat.le_of_eq (Nat.zero_add _)⟩) ?_
          rintro _ _ ⟨rfl, n9, ad9, hn9, rfl, hA⟩
          rw [hQ, hn9x] at hn9
          rw [hQ, hn9x, hn9, Nat.zero_add, Nat.zero_add, ← hA 0 (by unfold tb; omega), ← hA (tb i) (by unfold tb; omega)]
          exact kk ad9 hA
        · have hn9 : n9x = n := by
            obtain ⟨m9, u9, hm, -, hm2⟩ := iu_known (x := M.1 10 (nn (M.1 (tb i) 2))) (y := M.1 11 (nn (M.1 (tb i) 2))) (z := M.1 12 (nn (M.1 (tb i) 2))) hM1 hi hs1 (o := 26) (by decide)
            rw [← hn9x, ← hQ, hm.n]; exact hm2 (by decide)
          subst hn9
          refine v_callV (pc' := 70) X (st := []) (c_X9_known_26 (M := (mI (mI M 0 7 ((M.1 0 7) + 1)) (tb i) 2 ((M.1 (tb i) 2) + 1))) hi hg1 hts1 hI1 hs1 (x := M.1 10 (nn (M.1 (tb i) 2))) (y := M.1 11 (nn (M.1 (tb i) 2))) (z := M.1 12 (nn (M.1 (tb i) 2)))) k_X9_known w_ml_X9_75 w_im_X9_known w_se_X9_X9_known (rv_M) (by rw [hR]; exact ⟨Nat.le_of_ble_eq_true rfl, Nat.le_of_ble_eq_true rfl⟩) rfl rfl (Nat.le_of_ble_eq_true rfl) dX9_step_67 rfl (⟨Nat.zero_le _, Nat.zero_le _⟩) ?_
          rintro _ _ ⟨rfl, rfl⟩
          rw [hQ]
          have h9 := kk ad (fun _ _ => rfl)
          rw [Nat.sub_self] at h9
          exact h9
        · have hn9 : n9x = n := by
            obtain ⟨m9, u9, hm, -, hm2⟩ := iu_known (x := M.1 10 (nn (M.1 (tb i) 2))) (y := M.1 11 (nn (M.1 (tb i) 2))) (z := M.1 12 (nn (M.1 (tb i) 2))) hM1 hi hs1 (o := 27) (by decide)
            rw [← hn9x, ← hQ, hm.n]; exact hm2 (by decide)
          subst hn9
          refine v_callV (pc' := 70) X (st := []) (c_X9_known_27 (M := (mI (mI M 0 7 ((M.1 0 7) + 1)) (tb i) 2 ((M.1 (tb i) 2) + 1))) hi hg1 hts1 hI1 hs1 (x := M.1 10 (nn (M.1 (tb i) 2))) (y := M.1 11 (nn (M.1 (tb i) 2))) (z := M.1 12 (nn (M.1 (tb i) 2)))) k_X9_known w_ml_X9_75 w_im_X9_known w_se_X9_X9_known (rv_M) (by rw [hR]; exact ⟨Nat.le_of_ble_eq_true rfl, Nat.le_of_ble_eq_true rfl⟩) rfl rfl (Nat.le_of_ble_eq_true rfl) dX9_step_67 rfl (⟨Nat.zero_le _, Nat.zero_le _⟩) ?_
          rintro _ _ ⟨rfl, rfl⟩
          rw [hQ]
          have h9 := kk ad (fun _ _ => rfl)
          rw [Nat.sub_self] at h9
          exact h9
        · have hn9 : n9x = n := by
            obtain ⟨m9, u9, hm, -, hm2⟩ := iu_known (x := M.1 10 (nn (M.1 (tb i) 2))) (y := M.1 11 (nn (M.1 (tb i) 2))) (z := M.1 12 (nn (M.1 (tb i) 2))) hM1 hi hs1 (o := 28) (by decide)
            rw [← hn9x, ← hQ, hm.n]; exact hm2 (by decide)
          subst hn9
          refine v_callV (pc' := 70) X (st := []) (c_X9_known_28 (M := (mI (mI M 0 7 ((M.1 0 7) + 1)) (tb i) 2 ((M.1 (tb i) 2) + 1))) hi hg1 hts1 hI1 hs1 (x := M.1 10 (nn (M.1 (tb i) 2))) (y := M.1 11 (nn (M.1 (tb i) 2))) (z := M.1 12 (nn (M.1 (tb i) 2)))) k_X9_known w_ml_X9_75 w_im_X9_known w_se_X9_X9_known (rv_M) (by rw [hR]; exact ⟨Nat.le_of_ble_eq_true rfl, Nat.le_of_ble_eq_true rfl⟩) rfl rfl (Nat.le_of_ble_eq_true rfl) dX9_step_67 rfl (⟨Nat.zero_le _, Nat.zero_le _⟩) ?_
          rintro _ _ ⟨rfl, rfl⟩
          rw [hQ]
          have h9 := kk ad (fun _ _ => rfl)
          rw [Nat.sub_self] at h9
          exact h9
        · have hn9 : n9x = n := by
            obtain ⟨m9, u9, hm, -, hm2⟩ := iu_known (x := M.1 10 (nn (M.1 (tb i) 2))) (y := M.1 11 (nn (M.1 (tb i) 2))) (z := M.1 12 (nn (M.1 (tb i) 2))) hM1 hi hs1 (o := 29) (by decide)
            rw [← hn9x, ← hQ, hm.n]; exact hm2 (by decide)
          subst hn9
          refine v_callV (pc' := 70) X (st := []) (c_X9_known_29 (M := (mI (mI M 0 7 ((M.1 0 7) + 1)) (tb i) 2 ((M.1 (tb i) 2) + 1))) hi hg1 hts1 hI1 hs1 (x := M.1 10 (nn (M.1 (tb i) 2))) (y := M.1 11 (nn (M.1 (tb i) 2))) (z := M.1 12 (nn (M.1 (tb i) 2)))) k_X9_known w_ml_X9_75 w_im_X9_known w_se_X9_X9_known (rv_M) (by rw [hR]; exact ⟨Nat.le_of_ble_eq_true rfl, Nat.le_of_ble_eq_true rfl⟩) rfl rfl (Nat.le_of_ble_eq_true rfl) dX9_step_67 rfl (⟨Nat.zero_le _, Nat.zero_le _⟩) ?_
          rintro _ _ ⟨rfl, rfl⟩
          rw [hQ]
          have h9 := kk ad (fun _ _ => rfl)
          rw [Nat.sub_self] at h9
          exact h9
    -- not taken 34
    · refine v_iconst (pc' := 38) (v := (-1)) X dX9_step_37 (by decide) rfl ?_
      refine v_goto (pc' := 70) X dX9_step_38 (by decide) ?_
      refine v_istore_n (pc' := 71) (i := 3) (lv' := [(3, .int (-1)), (2, .int (M.1 (tb i) 2)), (0, .ref (ad (0))), (1, .ref (ad (tb i)))]) X dX9_step_70 rfl (by decide) rfl rfl ?_
      refine v_iload_n (pc' := 72) (i := 3) (j := 0) X dX9_step_71 rfl rfl rfl ?_
      refine v_if_ge (pc' := 75) (tgt := 81) X dX9_step_72 (by decide) rfl (fun hc_72 => absurd hc_72 (by decide)) (fun _ => ?_)
      refine v_aload_n (pc' := 76) (i := 1) (j := 3) X dX9_step_75 rfl rfl rfl ?_
      refine v_iconst (pc' := 77) (v := 4) X dX9_step_76 (by decide) rfl ?_
      refine v_iload_n (pc' := 78) (i := 3) (j := 0) X dX9_step_77 rfl rfl rfl ?_
      refine v_callV (pc' := 81) X (st := []) (c_X8_end (M := (mI (mI M 0 7 ((M.1 0 7) + 1)) (tb i) 2 ((M.1 (tb i) 2) + 1))) hi (how := 4) (why := -1)) k_X8_end w_ml_X9_79 w_im_X8_end w_se_X8_X8_end (rv_T hi) (by rw [hR]; exact ⟨Nat.le_of_ble_eq_true rfl, Nat.le_of_ble_eq_true rfl⟩) rfl rfl (Nat.le_of_ble_eq_true rfl) dX9_step_78 rfl (⟨Nat.zero_le _, Nat.zero_le _⟩) ?_
      rintro _ _ ⟨rfl, rfl⟩
      refine v_return X R (Nat.zero_le _) (Nat.zero_le _) dX9_step_81 ?_
      have hF : fStep M n (tb i) = (fEnd (mI (mI M 0 7 (M.1 0 7 + 1)) (tb i) 2 (M.1 (tb i) 2 + 1)) (tb i) 4 (-1)) := by
        unfold fStep
        dsimp only
        exact if_pos (Or.inr (by rw [hsz]; exact Int32.not_lt.mp hc_34))
      have hN : fStepN M n (tb i) = n := by
        unfold fStepN
        rw [hF]
        exact (iu_end (how := 4) (why := -1) hM1 hi (Or.inr rfl)).n
      rw [hF, hN]
      exact ⟨rfl, n, ad, rfl, rfl, fun _ _ => rfl⟩
