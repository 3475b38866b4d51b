/-! MADE, PLAIN (reference) -/
theorem fSlide_3 {M : vM} {n us : Nat} : (fSlide M n us).1 0 3 = nI (cntK (M.1 18) us) := by
  unfold fSlide
  simp only []
  rw [fMvs_1, mRL_1, mI_s]
theorem fGather_3 {M : vM} {n us : Nat} : ∃ u2, u2 ≤ us ∧ (fGather M n us).1 0 3 = nI u2 := ⟨_, cntK_le _ _, fSlide_3⟩
set_option maxHeartbeats 4000000 in
set_option maxRecDepth 100000 in
theorem c_X9_made_1 {l : Launch} {D : va_G} {Y : Nat → ClassId} {zz : Nat → Nat} {n sz us pd : Nat} {ad : Nat → Nat} {M : vM} {i ca e r w : Nat} (hi : i < n) (hg : gI M n sz us pd) (hts : ∀ i, i < n → ∃ ca e r w, tI M us (tb i) ca e r w) (hI : tI M us (tb i) ca e r w) {x y z : Int32} (hx1 : x = nI (nn x)) (hx2 : nn x < 16) (hy1 : y = nI (nn y)) (hy2 : nn y < 16) (hz1 : z = nI (nn z)) (hz2 : nn z < 16) : Ct l D Y zz yX9_made cX9_made 6 (some FieldType.int) 5 113 [.ref (ad (0)), .ref (ad (tb i)), .int 1, .int x, .int y, .int z] (wM Y n ad M) 0 0 (fun r w => r = some (.int (fMade M n (tb i) true x y z).2) ∧ w = wM Y n ad (fMade M n (tb i) true x y z).1) := by
  refine v_entry (by decide +kernel) (Nat.le_of_ble_eq_true rfl) ?_
  intro K X R hR hnm hl hD hY hz
  subst hl hD hY hz
  refine v_sub (lv' := [(0, .ref (ad (0))), (1, .ref (ad (tb i))), (2, .int 1), (3, .int x), (4, .int y), (5, .int z)]) [0, 1, 2, 3, 4, 5] rfl ?_
  obtain ⟨hsz, hsz2, hn2, hn1, hn16, hus, hus2, hpd, hpd2, h17, hfs, hvi, hgl⟩ := id hg
  obtain ⟨h3, hca, h4, he, h5, hr, h6, hw, hso, huq, hct, hctm, hwt, hwtm, hwt0, hpk, hst, hem, hov, hrg, hsv, hrd, hwr, hva⟩ := id hI
  refine v_aload_n (pc' := 1) (i := 0) (j := 0) X dX9_made_0 rfl rfl rfl ?_
  refine fg_X9_143 (pc' := 4) X (v := nI us) hus dX9_made_1 rfl ?_
  refine v_sipush (pc' := 7) (v := 200) X dX9_made_4 (by decide) rfl ?_
  refine v_icmp_ne (pc' := 10) (tgt := 14) X dX9_made_7 (by decide) rfl (fun hc_7 => ?_) (fun hc_7 => ?_)
  -- taken 7
  · refine v_aload_n (pc' := 15) (i := 0) (j := 0) X dX9_made_14 rfl rfl rfl ?_
    refine fg_X9_143 (pc' := 18) X (v := nI us) hus dX9_made_15 rfl ?_
    refine v_sipush (pc' := 21) (v := 200) X dX9_made_18 (by decide) rfl ?_
    refine v_icmp_ne (pc' := 24) (tgt := 27) X dX9_made_21 (by decide) rfl (fun hc_21 => ?_) (fun hc_21 => ?_)
    -- taken 21
    · have hlt : us < 200 := by
        rcases Nat.lt_or_ge us 200 with q9 | q9
        · exact q9
        · exact absurd (congrArg nI (show us = 200 by omega)) hc_21
      refine v_aload_n (pc' := 28) (i := 0) (j := 0) X dX9_made_27 rfl rfl rfl ?_
      refine fg_X9_42 (pc' := 31) X dX9_made_28 rfl ?_
      refine v_aload_n (pc' := 32) (i := 0) (j := 0) X dX9_made_31 rfl rfl rfl ?_
      refine fg_X9_143 (pc' := 35) X (v := nI us) hus dX9_made_32 rfl ?_
      refine v_iload_n (pc' := 36) (i := 2) (j := 2) X dX9_made_35 rfl rfl rfl ?_
      refine as_M17 (pc' := 37) X (y := 1) (by decide) (us) rfl (by omega) dX9_made_36 rfl ?_
      refine v_aload_n (pc' := 38) (i := 0) (j := 0) X dX9_made_37 rfl rfl rfl ?_
      refine fg_X9_36 (pc' := 41) X dX9_made_38 rfl ?_
      refine v_aload_n (pc' := 42) (i := 0) (j := 0) X dX9_made_41 rfl rfl rfl ?_
      refine fg_X9_143 (pc' := 45) X (v := nI us) ((congrFun (mI_n _ _ _ _ (by decide)) _).trans hus) dX9_made_42 rfl ?_
      refine v_aload_n (pc' := 46) (i := 1) (j := 1) X dX9_made_45 rfl rfl rfl ?_
      refine fg_X9_105 (pc' := 49) X hi dX9_made_46 rfl ?_
      refine v_iload (pc' := 51) (j := 4) X dX9_made_49 rfl rfl ?_
      refine ag_T8 (pc' := 52) X hi (v := M.2 (tb i + 8) (nn y)) (nn y) hy1 (by omega) (congrFun (congrFun (mI_2 _ _ _ _) _) _) dX9_made_51 rfl ?_
      refine as_M15 (pc' := 53) X (us) rfl (by omega) dX9_made_52 rfl ?_
      refine v_aload_n (pc' := 54) (i := 0) (j := 0) X dX9_made_53 rfl rfl rfl ?_
      refine fg_X9_39 (pc' := 57) X dX9_made_54 rfl ?_
      refine v_aload_n (pc' := 58) (i := 0) (j := 0) X dX9_made_57 rfl rfl rfl ?_
      refine fg_X9_143 (pc' := 61) X (v := nI us) ((congrFun (congrFun (mL_1 _ _ _ _) _) _).trans ((congrFun (mI_n _ _ _ _ (by decide)) _).trans hus)) dX9_made_58 rfl ?_
      refine v_iload_n (pc' := 62) (i := 2) (j := 2) X dX9_made_61 rfl rfl rfl ?_
      refine v_if_eq (pc' := 65) (tgt := 75) X dX9_made_62 (by decide) rfl (fun hc_62 => absurd hc_62 (by decide)) (fun _ => ?_)
      refine v_aload_n (pc' := 66) (i := 1) (j := 1) X dX9_made_65 rfl rfl rfl ?_
      refine fg_X9_105 (pc' := 69) X hi dX9_made_66 rfl ?_
      refine v_iload (pc' := 71) (j := 5) X dX9_made_69 rfl rfl ?_
      refine ag_T8 (pc' := 72) X hi (v := M.2 (tb i + 8) (nn z)) (nn z) hz1 (by omega) ((congrFun (mL_n _ _ _ _ (by unfold tb; omega)) _).trans (congrFun (congrFun (mI_2 _ _ _ _) _) _)) dX9_made_71 rfl ?_
      refine v_goto (pc' := 76) X dX9_made_72 (by decide) ?_
      refine as_M16 (pc' := 77) X (us) rfl (by omega) dX9_made_76 rfl ?_
      refine v_aload_n (pc' := 78) (i := 0) (j := 0) X dX9_made_77 rfl rfl rfl ?_
      refine fg_X9_49 (pc' := 81) X dX9_made_78 rfl ?_
      refine v_aload_n (pc' := 82) (i := 0) (j := 0) X dX9_made_81 rfl rfl rfl ?_
      refine fg_X9_143 (pc' := 85) X (v := nI us) ((congrFun (congrFun (mL_1 _ _ _ _) _) _).trans ((congrFun (congrFun (mL_1 _ _ _ _) _) _).trans ((congrFun (mI_n _ _ _ _ (by decide)) _).trans hus))) dX9_made_82 rfl ?_
      refine v_iconst (pc' := 86) (v := 0) X dX9_made_85 (by decide) rfl ?_
      refine as_M19 (pc' := 87) X (us) rfl (by omega) dX9_made_86 rfl ?_
      refine v_aload_n (pc' := 88) (i := 1) (j := 1) X dX9_made_87 rfl rfl rfl ?_
      refine fg_X9_105 (pc' := 91) X hi dX9_made_88 rfl ?_
      refine v_iload_n (pc' := 92) (i := 3) (j := 3) X dX9_made_91 rfl rfl rfl ?_
      refine v_iload_n (pc' := 93) (i := 2) (j := 2) X dX9_made_92 rfl rfl rfl ?_
      refine v_if_eq (pc' := 96) (tgt := 102) X dX9_made_93 (by decide) rfl (fun hc_93 => absurd hc_93 (by decide)) (fun _ => ?_)
      refine v_ldc2 (pc' := 99) (v := 8589934592) X dX9_made_96 w_kl_X9_62 rfl ?_
      refine v_goto (pc' := 105) X dX9_made_99 (by decide) ?_
      refine v_aload_n (pc' := 106) (i := 0) (j := 0) X dX9_made_105 rfl rfl rfl ?_
      refine fg_X9_143 (pc' := 109) X (v := nI us) ((congrFun (mI_n _ _ _ _ (by decide)) _).trans ((congrFun (congrFun (mL_1 _ _ _ _) _) _).trans ((congrFun (congrFun (mL_1 _ _ _ _) _) _).trans ((congrFun (mI_n _ _ _ _ (by decide)) _).trans hus)))) dX9_made_106 rfl ?_
      refine v_i2l (pc' := 110) X dX9_made_109 rfl rfl ?_
      refine v_ladd (pc' := 111) X dX9_made_110 rfl ?_
      refine as_T8 (pc' := 112) X hi (nn x) hx1 (by omega) dX9_made_111 rfl ?_
      refine v_aload_n (pc' := 113) (i := 0) (j := 0) X dX9_made_112 rfl rfl rfl ?_
      refine v_dup (pc' := 114) X dX9_made_113 rfl rfl ?_
      refine fg_X9_143 (pc' := 117) X (v := nI us) ((congrFun (congrFun (mL_1 _ _ _ _) _) _).trans ((congrFun (mI_n _ _ _ _ (by decide)) _).trans ((congrFun (congrFun (mL_1 _ _ _ _) _) _).trans ((congrFun (congrFun (mL_1 _ _ _ _) _) _).trans ((congrFun (mI_n _ _ _ _ (by decide)) _).trans hus))))) dX9_made_114 rfl ?_
      refine v_iconst (pc' := 118) (v := 1) X dX9_made_117 (by decide) rfl ?_
      refine v_iaddV (pc' := 119) (v := nI (us + 1)) X (nI_add (us) 1) dX9_made_118 rfl ?_
      refine fp_X9_143 (pc' := 122) X dX9_made_119 rfl ?_
      refine v_iconst (pc' := 123) (v := 0) X dX9_made_122 (by decide) rfl ?_
      refine v_ireturn X R (Nat.zero_le _) (Nat.zero_le _) dX9_made_123 ?_
      have hF : fMade M n (tb i) true x y z = ((mI (mL (mI (mL (mL (mI M 17 us 1) 15 us (M.2 (tb i + 8) (nn y))) 16 us (M.2 (tb i + 8) (nn z))) 19 us 0) (tb i + 8) (nn x) (8589934592 + ((nI us).toInt64))) 0 3 (nI (us + 1))), 0) := by
        have e1 : ¬ M.1 0 3 = 200 := fun z9 => hc_7 (hus.symm.trans z9)
        simp only [fMade]
        rw [if_neg e1, hus]
        rw [if_neg hc_21, nn_nI (by omega), nI_1 us]
        try rfl
      rw [hF]
      exact ⟨rfl, rfl⟩
    -- not taken 21
    · refine v_bipush (pc' := 26) (v := (-3)) X dX9_made_24 (by decide) rfl ?_
      refine v_ireturn X R (Nat.zero_le _) (Nat.zero_le _) dX9_made_26 ?_
      have hF : fMade M n (tb i) true x y z = (M, (-3)) := by
        have e1 : ¬ M.1 0 3 = 200 := fun z9 => hc_7 (hus.symm.trans z9)
        simp only [fMade]
        rw [if_neg e1, hus]
        exact if_pos hc_21
      rw [hF]
      exact ⟨rfl, rfl⟩
  -- not taken 7
  · refine v_aload_n (pc' := 11) (i := 0) (j := 0) X dX9_made_10 rfl rfl rfl ?_
    refine v_callV (pc' := 14) X (st := []) (c_X9_gather (M := M) (Inv.g hg hts)) k_X9_gather w_ml_X9_146 w_im_X9_gather w_se_X9_X9_gather (rv_M) (by rw [hR]; exact ⟨Nat.le_of_ble_eq_true rfl, Nat.le_of_ble_eq_true rfl⟩) rfl rfl (Nat.le_of_ble_eq_true rfl) dX9_made_11 rfl (⟨Nat.zero_le _, Nat.zero_le _⟩) ?_
    rintro _ _ ⟨rfl, rfl⟩
    obtain ⟨u2, hu2, hN3⟩ := fGather_3 (M := M) (n := n) (us := us)
    refine v_aload_n (pc' := 15) (i := 0) (j := 0) X dX9_made_14 rfl rfl rfl ?_
    refine fg_X9_143 (pc' := 18) X (v := nI u2) hN3 dX9_made_15 rfl ?_
    refine v_sipush (pc' := 21) (v := 200) X dX9_made_18 (by decide) rfl ?_
    refine v_icmp_ne (pc' := 24) (tgt := 27) X dX9_made_21 (by decide) rfl (fun hc_21 => ?_) (fun hc_21 => ?_)
    -- taken 21
    · have hlt : u2 < 200 := by
        rcases Nat.lt_or_ge u2 200 with q9 | q9
        · exact q9
        · exact absurd (congrArg nI (show u2 = 200 by omega)) hc_21
      refine v_aload_n (pc' := 28) (i := 0) (j := 0) X dX9_made_27 rfl rfl rfl ?_
      refine fg_X9_42 (pc' := 31) X dX9_made_28 rfl ?_
      refine v_aload_n (pc' := 32) (i := 0) (j := 0) X dX9_made_31 rfl rfl rfl ?_
      refine fg_X9_143 (pc' := 35) X (v := nI u2) hN3 dX9_made_32 rfl ?_
      refine v_iload_n (pc' := 36) (i := 2) (j := 2) X dX9_made_35 rfl rfl rfl ?_
      refine as_M17 (pc' := 37) X (y := 1) (by decide) (u2) rfl (by omega) dX9_made_36 rfl ?_
      refine v_aload_n (pc' := 38) (i := 0) (j := 0) X dX9_made_37 rfl rfl rfl ?_
      refine fg_X9_36 (pc' := 41) X dX9_made_38 rfl ?_
      refine v_aload_n (pc' := 42) (i := 0) (j := 0) X dX9_made_41 rfl rfl rfl ?_
      refine fg_X9_143 (pc' := 45) X (v := nI u2) ((congrFun (mI_n _ _ _ _ (by decide)) _).trans hN3) dX9_made_42 rfl ?_
      refine v_aload_n (pc' := 46) (i := 1) (j := 1) X dX9_made_45 rfl rfl rfl ?_
      refine fg_X9_105 (pc' := 49) X hi dX9_made_46 rfl ?_
      refine v_iload (pc' := 51) (j := 4) X dX9_made_49 rfl rfl ?_
      refine ag_T8 (pc' := 52) X hi (v := (fGather M n us).2 (tb i + 8) (nn y)) (nn y) hy1 (by omega) (congrFun (congrFun (mI_2 _ _ _ _) _) _) dX9_made_51 rfl ?_
      refine as_M15 (pc' := 53) X (u2) rfl (by omega) dX9_made_52 rfl ?_
      refine v_aload_n (pc' := 54) (i := 0) (j := 0) X dX9_made_53 rfl rfl rfl ?_
      refine fg_X9_39 (pc' := 57) X dX9_made_54 rfl ?_
      refine v_aload_n (pc' := 58) (i := 0) (j := 0) X dX9_made_57 rfl rfl rfl ?_
      refine fg_X9_143 (pc' := 61) X (v := nI u2) ((congrFun (congrFun (mL_1 _ _ _ _) _) _).trans ((congrFun (mI_n _ _ _ _ (by decide)) _).trans hN3)) dX9_made_58 rfl ?_
      refine v_iload_n (pc' := 62) (i := 2) (j := 2) X dX9_made_61 rfl rfl rfl ?_
      refine v_if_eq (pc' := 65) (tgt := 75) X dX9_made_62 (by decide) rfl (fun hc_62 => absurd hc_62 (by decide)) (fun _ => ?_)
      refine v_aload_n (pc' := 66) (i := 1) (j := 1) X dX9_made_65 rfl rfl rfl ?_
      refine fg_X9_105 (pc' := 69) X hi dX9_made_66 rfl ?_
      refine v_iload (pc' := 71) (j := 5) X dX9_made_69 rfl rfl ?_
      refine ag_T8 (pc' := 72) X hi (v := (fGather M n us).2 (tb i + 8) (nn z)) (nn z) hz1 (by omega) ((congrFun (mL_n _ _ _ _ (by unfold tb; omega)) _).trans (congrFun (congrFun (mI_2 _ _ _ _) _) _)) dX9_made_71 rfl ?_
      refine v_goto (pc' := 76) X dX9_made_72 (by decide) ?_
      refine as_M16 (pc' := 77) X (u2) rfl (by omega) dX9_made_76 rfl ?_
      refine v_aload_n (pc' := 78) (i := 0) (j := 0) X dX9_made_77 rfl rfl rfl ?_
      refine fg_X9_49 (pc' := 81) X dX9_made_78 rfl ?_
      refine v_aload_n (pc' := 82) (i := 0) (j := 0) X dX9_made_81 rfl rfl rfl ?_
      refine fg_X9_143 (pc' := 85) X (v := nI u2) ((congrFun (congrFun (mL_1 _ _ _ _) _) _).trans ((congrFun (congrFun (mL_1 _ _ _ _) _) _).trans ((congrFun (mI_n _ _ _ _ (by decide)) _).trans hN3))) dX9_made_82 rfl ?_
      refine v_iconst (pc' := 86) (v := 0) X dX9_made_85 (by decide) rfl ?_
      refine as_M19 (pc' := 87) X (u2) rfl (by omega) dX9_made_86 rfl ?_
      refine v_aload_n (pc' := 88) (i := 1) (j := 1) X dX9_made_87 rfl rfl rfl ?_
      refine fg_X9_105 (pc' := 91) X hi dX9_made_88 rfl ?_
      refine v_iload_n (pc' := 92) (i := 3) (j := 3) X dX9_made_91 rfl rfl rfl ?_
      refine v_iload_n (pc' := 93) (i := 2) (j := 2) X dX9_made_92 rfl rfl rfl ?_
      refine v_if_eq (pc' := 96) (tgt := 102) X dX9_made_93 (by decide) rfl (fun hc_93 => absurd hc_93 (by decide)) (fun _ => ?_)
      refine v_ldc2 (pc' := 99) (v := 8589934592) X dX9_made_96 w_kl_X9_62 rfl ?_
      refine v_goto (pc' := 105) X dX9_made_99 (by decide) ?_
      refine v_aload_n (pc' := 106) (i := 0) (j := 0) X dX9_made_105 rfl rfl rfl ?_
      refine fg_X9_143 (pc' := 109) X (v := nI u2) ((congrFun (mI_n _ _ _ _ (by decide)) _).trans ((congrFun (congrFun (mL_1 _ _ _ _) _) _).trans ((congrFun (congrFun (mL_1 _ _ _ _) _) _).trans ((congrFun (mI_n _ _ _ _ (by decide)) _).trans hN3)))) dX9_made_106 rfl ?_
      refine v_i2l (pc' := 110) X dX9_made_109 rfl rfl ?_
      refine v_ladd (pc' := 111) X dX9_made_110 rfl ?_
      refine as_T8 (pc' := 112) X hi (nn x) hx1 (by omega) dX9_made_111 rfl ?_
      refine v_aload_n (pc' := 113) (i := 0) (j := 0) X dX9_made_112 rfl rfl rfl ?_
      refine v_dup (pc' := 114) X dX9_made_113 rfl rfl ?_
      refine fg_X9_143 (pc' := 117) X (v := nI u2) ((congrFun (congrFun (mL_1 _ _ _ _) _) _).trans ((congrFun (mI_n _ _ _ _ (by decide)) _).trans ((congrFun (congrFun (mL_1 _ _ _ _) _) _).trans ((congrFun (congrFun (mL_1 _ _ _ _) _) _).trans ((congrFun (mI_n _ _ _ _ (by decide)) _).trans hN3))))) dX9_made_114 rfl ?_
      refine v_iconst (pc' := 118) (v := 1) X dX9_made_117 (by decide) rfl ?_
      refine v_iaddV (pc' := 119) (v := nI (u2 + 1)) X (nI_add (u2) 1) dX9_made_118 rfl ?_
      refine fp_X9_143 (pc' := 122) X dX9_made_119 rfl ?_
      refine v_iconst (pc' := 123) (v := 0) X dX9_made_122 (by decide) rfl ?_
      refine v_ireturn X R (Nat.zero_le _) (Nat.zero_le _) dX9_made_123 ?_
      have hF : fMade M n (tb i) true x y z = ((mI (mL (mI (mL (mL (mI (fGather M n us) 17 u2 1) 15 u2 ((fGather M n us).2 (tb i + 8) (nn y))) 16 u2 ((fGather M n us).2 (tb i + 8) (nn z))) 19 u2 0) (tb i + 8) (nn x) (8589934592 + ((nI u2).toInt64))) 0 3 (nI (u2 + 1))), 0) := by
        have hu200 : us = 200 := eq_of_nI (b := 200) hc_7 (by omega) (by decide)
        have e1 : M.1 0 3 = 200 := hus.trans hc_7
        subst hu200
        simp only [fMade]
        rw [if_pos e1, hN3]
        rw [if_neg hc_21, nn_nI (by omega), nI_1 u2]
        try rfl
      rw [hF]
      exact ⟨rfl, rfl⟩
    -- not taken 21
    · refine v_bipush (pc' := 26) (v := (-3)) X dX9_made_24 (by decide) rfl ?_
      refine v_ireturn X R (Nat.zero_le _) (Nat.zero_le _) dX9_made_26 ?_
      have hF : fMade M n (tb i) true x y z = ((fGather M n us), (-3)) := by
        have hu200 : us = 200 := eq_of_nI (b := 200) hc_7 (by omega) (by decide)
        have e1 : M.1 0 3 = 200 := hus.trans hc_7
        subst hu200
        simp only [fMade]
        rw [if_pos e1, hN3]
        exact if_pos hc_21
      rw [hF]
      exact ⟨rfl, rfl⟩
set_option maxHeartbeats 4000000 in
set_option maxRecDepth 100000 in
theorem c_X9_made_0 {l : Launch} {D : va_G} {Y : Nat → ClassId} {zz : Nat → Nat} {n sz us pd : Nat} {ad : Nat → Nat} {M : vM} {i ca e r w : Nat} (hi : i < n) (hg : gI M n sz us pd) (hts : ∀ i, i < n → ∃ ca e r w, tI M us (tb i) ca e r w) (hI : tI M us (tb i) ca e r w) {x y z : Int32} (hx1 : x = nI (nn x)) (hx2 : nn x < 16) (hy1 : y = nI (nn y)) (hy2 : nn y < 16) : Ct l D Y zz yX9_made cX9_made 6 (some FieldType.int) 5 113 [.ref (ad (0)), .ref (ad (tb i)), .int 0, .int x, .int y, .int z] (wM Y n ad M) 0 0 (fun r w => r = some (.int (fMade M n (tb i) false x y z).2) ∧ w = wM Y n ad (fMade M n (tb i) false x y z).1) := by
  refine v_entry (by decide +kernel) (Nat.le_of_ble_eq_true rfl) ?_
  intro K X R hR hnm hl hD hY hz
  subst hl hD hY hz
  refine v_sub (lv' := [(0, .ref (ad (0))), (1, .ref (ad (tb i))), (2, .int 0), (3, .int x), (4, .int y), (5, .int z)]) [0, 1, 2, 3, 4, 5] rfl ?_
  obtain ⟨hsz, hsz2, hn2, hn1, hn16, hus, hus2, hpd, hpd2, h17, hfs, hvi, hgl⟩ := id hg
  obtain ⟨h3, hca, h4, he, h5, hr, h6, hw, hso, huq, hct, hctm, hwt, hwtm, hwt0, hpk, hst, hem, hov, hrg, hsv, hrd, hwr, hva⟩ := id hI
  refine v_aload_n (pc' := 1) (i := 0) (j := 0) X dX9_made_0 rfl rfl rfl ?_
  refine fg_X9_143 (pc' := 4) X (v := nI us) hus dX9_made_1 rfl ?_
  refine v_sipush (pc' := 7) (v := 200) X dX9_made_4 (by decide) rfl ?_
  refine v_icmp_ne (pc' := 10) (tgt := 14) X dX9_made_7 (by decide) rfl (fun hc_7 => ?_) (fun hc_7 => ?_)
  -- taken 7
  · refine v_aload_n (pc' := 15) (i := 0) (j := 0) X dX9_made_14 rfl rfl rfl ?_
    refine fg_X9_143 (pc' := 18) X (v := nI us) hus dX9_made_15 rfl ?_
    refine v_sipush (pc' := 21) (v := 200) X dX9_made_18 (by decide) rfl ?_
    refine v_icmp_ne (pc' := 24) (tgt := 27) X dX9_made_21 (by decide) rfl (fun hc_21 => ?_) (fun hc_21 => ?_)
    -- taken 21
    · have hlt : us < 200 := by
        rcases Nat.lt_or_ge us 200 with q9 | q9
        · exact q9
        · exact absurd (congrArg nI (show us = 200 by omega)) hc_21
      refine v_aload_n (pc' := 28) (i := 0) (j := 0) X dX9_made_27 rfl rfl rfl ?_
      refine fg_X9_42 (pc' := 31) X dX9_made_28 rfl ?_
      refine v_aload_n (pc' := 32) (i := 0) (j := 0) X dX9_made_31 rfl rfl rfl ?_
      refine fg_X9_143 (pc' := 35) X (v := nI us) hus dX9_made_32 rfl ?_
      refine v_iload_n (pc' := 36) (i := 2) (j := 2) X dX9_made_35 rfl rfl rfl ?_
      refine as_M17 (pc' := 37) X (y := 0) (by decide) (us) rfl (by omega) dX9_made_36 rfl ?_
      refine v_aload_n (pc' := 38) (i := 0) (j := 0) X dX9_made_37 rfl rfl rfl ?_
      refine fg_X9_36 (pc' := 41) X dX9_made_38 rfl ?_
      refine v_aload_n (pc' := 42) (i := 0) (j := 0) X dX9_made_41 rfl rfl rfl ?_
      refine fg_X9_143 (pc' := 45) X (v := nI us) ((congrFun (mI_n _ _ _ _ (by decide)) _).trans hus) dX9_made_42 rfl ?_
      refine v_aload_n (pc' := 46) (i := 1) (j := 1) X dX9_made_45 rfl rfl rfl ?_
      refine fg_X9_105 (pc' := 49) X hi dX9_made_46 rfl ?_
      refine v_iload (pc' := 51) (j := 4) X dX9_made_49 rfl rfl ?_
      refine ag_T8 (pc' := 52) X hi (v := M.2 (tb i + 8) (nn y)) (nn y) hy1 (by omega) (congrFun (congrFun (mI_2 _ _ _ _) _) _) dX9_made_51 rfl ?_
      refine as_M15 (pc' := 53) X (us) rfl (by omega) dX9_made_52 rfl ?_
      refine v_aload_n (pc' := 54) (i := 0) (j := 0) X dX9_made_53 rfl rfl rfl ?_
      refine fg_X9_39 (pc' := 57) X dX9_made_54 rfl ?_
      refine v_aload_n (pc' := 58) (i := 0) (j := 0) X dX9_made_57 rfl rfl rfl ?_
      refine fg_X9_143 (pc' := 61) X (v := nI us) ((congrFun (congrFun (mL_1 _ _ _ _) _) _).trans ((congrFun (mI_n _ _ _ _ (by decide)) _).trans hus)) dX9_made_58 rfl ?_
      refine v_iload_n (pc' := 62) (i := 2) (j := 2) X dX9_made_61 rfl rfl rfl ?_
      refine v_if_eq (pc' := 65) (tgt := 75) X dX9_made_62 (by decide) rfl (fun _ => ?_) (fun hc_62 => absurd (by decide) hc_62)
      refine v_lconst (pc' := 76) (v := 0) X dX9_made_75 (by decide) rfl ?_
      refine as_M16 (pc' := 77) X (us) rfl (by omega) dX9_made_76 rfl ?_
      refine v_aload_n (pc' := 78) (i := 0) (j := 0) X dX9_made_77 rfl rfl rfl ?_
      refine fg_X9_49 (pc' := 81) X dX9_made_78 rfl ?_
      refine v_aload_n (pc' := 82) (i := 0) (j := 0) X dX9_made_81 rfl rfl rfl ?_
      refine fg_X9_143 (pc' := 85) X (v := nI us) ((congrFun (congrFun (mL_1 _ _ _ _) _) _).trans ((congrFun (congrFun (mL_1 _ _ _ _) _) _).trans ((congrFun (mI_n _ _ _ _ (by decide)) _).trans hus))) dX9_made_82 rfl ?_
      refine v_iconst (pc' := 86) (v := 0) X dX9_made_85 (by decide) rfl ?_
      refine as_M19 (pc' := 87) X (us) rfl (by omega) dX9_made_86 rfl ?_
      refine v_aload_n (pc' := 88) (i := 1) (j := 1) X dX9_made_87 rfl rfl rfl ?_
      refine fg_X9_105 (pc' := 91) X hi dX9_made_88 rfl ?_
      refine v_iload_n (pc' := 92) (i := 3) (j := 3) X dX9_made_91 rfl rfl rfl ?_
      refine v_iload_n (pc' := 93) (i := 2) (j := 2) X dX9_made_92 rfl rfl rfl ?_
      refine v_if_eq (pc' := 96) (tgt := 102) X dX9_made_93 (by decide) rfl (fun _ => ?_) (fun hc_93 => absurd (by decide) hc_93)
      refine v_ldc2 (pc' := 105) (v := 17179869184) X dX9_made_102 w_kl_X9_64 rfl ?_
      refine v_aload_n (pc' := 106) (i := 0) (j := 0) X dX9_made_105 rfl rfl rfl ?_
      refine fg_X9_143 (pc' := 109) X (v := nI us) ((congrFun (mI_n _ _ _ _ (by decide)) _).trans ((congrFun (congrFun (mL_1 _ _ _ _) _) _).trans ((congrFun (congrFun (mL_1 _ _ _ _) _) _).trans ((congrFun (mI_n _ _ _ _ (by decide)) _).trans hus)))) dX9_made_106 rfl ?_
      refine v_i2l (pc' := 110) X dX9_made_109 rfl rfl ?_
      refine v_ladd (pc' := 111) X dX9_made_110 rfl ?_
      refine as_T8 (pc' := 112) X hi (nn x) hx1 (by omega) dX9_made_111 rfl ?_
      refine v_aload_n (pc' := 113) (i := 0) (j := 0) X dX9_made_112 rfl rfl rfl ?_
      refine v_dup (pc' := 114) X dX9_made_113 rfl rfl ?_
      refine fg_X9_143 (pc' := 117) X (v := nI us) ((congrFun (congrFun (mL_1 _ _ _ _) _) _).trans ((congrFun (mI_n _ _ _ _ (by decide)) _).trans ((congrFun (congrFun (mL_1 _ _ _ _) _) _).trans ((congrFun (congrFun (mL_1 _ _ _ _) _) _).trans ((congrFun (mI_n _ _ _ _ (by decide)) _).trans hus))))) dX9_made_114 rfl ?_
      refine v_iconst (pc' := 118) (v := 1) X dX9_made_117 (by decide) rfl ?_
      refine v_iaddV (pc' := 119) (v := nI (us + 1)) X (nI_add (us) 1) dX9_made_118 rfl ?_
      refine fp_X9_143 (pc' := 122) X dX9_made_119 rfl ?_
      refine v_iconst (pc' := 123) (v := 0) X dX9_made_122 (by decide) rfl ?_
      refine v_ireturn X R (Nat.zero_le _) (Nat.zero_le _) dX9_made_123 ?_
      have hF : fMade M n (tb i) false x y z = ((mI (mL (mI (mL (mL (mI M 17 us 0) 15 us (M.2 (tb i + 8) (nn y))) 16 us 0) 19 us 0) (tb i + 8) (nn x) (17179869184 + ((nI us).toInt64))) 0 3 (nI (us + 1))), 0) := by
        have e1 : ¬ M.1 0 3 = 200 := fun z9 => hc_7 (hus.symm.trans z9)
        simp only [fMade]
        rw [if_neg e1, hus]
        rw [if_neg hc_21, nn_nI (by omega), nI_1 us]
        try rfl
      rw [hF]
      exact ⟨rfl, rfl⟩
    -- not taken 21
    · refine v_bipush (pc' := 26) (v := (-3)) X dX9_made_24 (by decide) rfl ?_
      refine v_ireturn X R (Nat.zero_le _) (Nat.zero_le _) dX9_made_26 ?_
      have hF : fMade M n (tb i) false x y z = (M, (-3)) := by
        have e1 : ¬ M.1 0 3 = 200 := fun z9 => hc_7 (hus.symm.trans z9)
        simp only [fMade]
        rw [if_neg e1, hus]
        exact if_pos hc_21
      rw [hF]
      exact ⟨rfl, rfl⟩
  -- not taken 7
  · refine v_aload_n (pc' := 11) (i := 0) (j := 0) X dX9_made_10 rfl rfl rfl ?_
    refine v_callV (pc' := 14) X (st := []) (c_X9_gather (M := M) (Inv.g hg hts)) k_X9_gather w_ml_X9_146 w_im_X9_gather w_se_X9_X9_gather (rv_M) (by rw [hR]; exact ⟨Nat.le_of_ble_eq_true rfl, Nat.le_of_ble_eq_true rfl⟩) rfl rfl (Nat.le_of_ble_eq_true rfl) dX9_made_11 rfl (⟨Nat.zero_le _, Nat.zero_le _⟩) ?_
    rintro _ _ ⟨rfl, rfl⟩
    obtain ⟨u2, hu2, hN3⟩ := fGather_3 (M := M) (n := n) (us := us)
    refine v_aload_n (pc' := 15) (i := 0) (j := 0) X dX9_made_14 rfl rfl rfl ?_
    refine fg_X9_143 (pc' := 18) X (v := nI u2) hN3 dX9_made_15 rfl ?_
    refine v_sipush (pc' := 21) (v := 200) X dX9_made_18 (by decide) rfl ?_
    refine v_icmp_ne (pc' := 24) (tgt := 27) X dX9_made_21 (by decide) rfl (fun hc_21 => ?_) (fun hc_21 => ?_)
    -- taken 21
    · have hlt : u2 < 200 := by
        rcases Nat.lt_or_ge u2 200 with q9 | q9
        · exact q9
        · exact absurd (congrArg nI (show u2 = 200 by omega)) hc_21
      refine v_aload_n (pc' := 28) (i := 0) (j := 0) X dX9_made_27 rfl rfl rfl ?_
      refine fg_X9_42 (pc' := 31) X dX9_made_28 rfl ?_
      refine v_aload_n (pc' := 32) (i := 0) (j := 0) X dX9_made_31 rfl rfl rfl ?_
      refine fg_X9_143 (pc' := 35) X (v := nI u2) hN3 dX9_made_32 rfl ?_
      refine v_iload_n (pc' := 36) (i := 2) (j := 2) X dX9_made_35 rfl rfl rfl ?_
      refine as_M17 (pc' := 37) X (y := 0) (by decide) (u2) rfl (by omega) dX9_made_36 rfl ?_
      refine v_aload_n (pc' := 38) (i := 0) (j := 0) X dX9_made_37 rfl rfl rfl ?_
      refine fg_X9_36 (pc' := 41) X dX9_made_38 rfl ?_
      refine v_aload_n (pc' := 42) (i := 0) (j := 0) X dX9_made_41 rfl rfl rfl ?_
      refine fg_X9_143 (pc' := 45) X (v := nI u2) ((congrFun (mI_n _ _ _ _ (by decide)) _).trans hN3) dX9_made_42 rfl ?_
      refine v_aload_n (pc' := 46) (i := 1) (j := 1) X dX9_made_45 rfl rfl rfl ?_
      refine fg_X9_105 (pc' := 49) X hi dX9_made_46 rfl ?_
      refine v_iload (pc' := 51) (j := 4) X dX9_made_49 rfl rfl ?_
      refine ag_T8 (pc' := 52) X hi (v := (fGather M n us).2 (tb i + 8) (nn y)) (nn y) hy1 (by omega) (congrFun (congrFun (mI_2 _ _ _ _) _) _) dX9_made_51 rfl ?_
      refine as_M15 (pc' := 53) X (u2) rfl (by omega) dX9_made_52 rfl ?_
      refine v_aload_n (pc' := 54) (i := 0) (j := 0) X dX9_made_53 rfl rfl rfl ?_
      refine fg_X9_39 (pc' := 57) X dX9_made_54 rfl ?_
      refine v_aload_n (pc' := 58) (i := 0) (j := 0) X dX9_made_57 rfl rfl rfl ?_
      refine fg_X9_143 (pc' := 61) X (v := nI u2) ((congrFun (congrFun (mL_1 _ _ _ _) _) _).trans ((congrFun (mI_n _ _ _ _ (by decide)) _).trans hN3)) dX9_made_58 rfl ?_
      refine v_iload_n (pc' := 62) (i := 2) (j := 2) X dX9_made_61 rfl rfl rfl ?_
      refine v_if_eq (pc' := 65) (tgt := 75) X dX9_made_62 (by decide) rfl (fun _ => ?_) (fun hc_62 => absurd (by decide) hc_62)
      refine v_lconst (pc' := 76) (v := 0) X dX9_made_75 (by decide) rfl ?_
      refine as_M16 (pc' := 77) X (u2) rfl (by omega) dX9_made_76 rfl ?_
      refine v_aload_n (pc' := 78) (i := 0) (j := 0) X dX9_made_77 rfl rfl rfl ?_
      refine fg_X9_49 (pc' := 81) X dX9_made_78 rfl ?_
      refine v_aload_n (pc' := 82) (i := 0) (j := 0) X dX9_made_81 rfl rfl rfl ?_
      refine fg_X9_143 (pc' := 85) X (v := nI u2) ((congrFun (congrFun (mL_1 _ _ _ _) _) _).trans ((congrFun (congrFun (mL_1 _ _ _ _) _) _).trans ((congrFun (mI_n _ _ _ _ (by decide)) _).trans hN3))) dX9_made_82 rfl ?_
      refine v_iconst (pc' := 86) (v := 0) X dX9_made_85 (by decide) rfl ?_
      refine as_M19 (pc' := 87) X (u2) rfl (by omega) dX9_made_86 rfl ?_
      refine v_aload_n (pc' := 88) (i := 1) (j := 1) X dX9_made_87 rfl rfl rfl ?_
      refine fg_X9_105 (pc' := 91) X hi dX9_made_88 rfl ?_
      refine v_iload_n (pc' := 92) (i := 3) (j := 3) X dX9_made_91 rfl rfl rfl ?_
      refine v_iload_n (pc' := 93) (i := 2) (j := 2) X dX9_made_92 rfl rfl rfl ?_
      refine v_if_eq (pc' := 96) (tgt := 102) X dX9_made_93 (by decide) rfl (fun _ => ?_) (fun hc_93 => absurd (by decide) hc_93)
      refine v_ldc2 (pc' := 105) (v := 17179869184) X dX9_made_102 w_kl_X9_64 rfl ?_
      refine v_aload_n (pc' := 106) (i := 0) (j := 0) X dX9_made_105 rfl rfl rfl ?_
      refine fg_X9_143 (pc' := 109) X (v := nI u2) ((congrFun (mI_n _ _ _ _ (by decide)) _).trans ((congrFun (congrFun (mL_1 _ _ _ _) _) _).trans ((congrFun (congrFun (mL_1 _ _ _ _) _) _).trans ((congrFun (mI_n _ _ _ _ (by decide)) _).trans hN3)))) dX9_made_106 rfl ?_
      refine v_i2l (pc' := 110) X dX9_made_109 rfl rfl ?_
      refine v_ladd (pc' := 111) X dX9_made_110 rfl ?_
      refine as_T8 (pc' := 112) X hi (nn x) hx1 (by omega) dX9_made_111 rfl ?_
      refine v_aload_n (pc' := 113) (i := 0) (j := 0) X dX9_made_112 rfl rfl rfl ?_
      refine v_dup (pc' := 114) X dX9_made_113 rfl rfl ?_
      refine fg_X9_143 (pc' := 117) X (v := nI u2) ((congrFun (congrFun (mL_1 _ _ _ _) _) _).trans ((congrFun (mI_n _ _ _ _ (by decide)) _).trans ((congrFun (congrFun (mL_1 _ _ _ _) _) _).trans ((congrFun (congrFun (mL_1 _ _ _ _) _) _).trans ((congrFun (mI_n _ _ _ _ (by decide)) _).trans hN3))))) dX9_made_114 rfl ?_
      refine v_iconst (pc' := 118) (v := 1) X dX9_made_117 (by decide) rfl ?_
      refine v_iaddV (pc' := 119) (v := nI (u2 + 1)) X (nI_add (u2) 1) dX9_made_118 rfl ?_
      refine fp_X9_143 (pc' := 122) X dX9_made_119 rfl ?_
      refine v_iconst (pc' := 123) (v := 0) X dX9_made_122 (by decide) rfl ?_
      refine v_ireturn X R (Nat.zero_le _) (Nat.zero_le _) dX9_made_123 ?_
      have hF : fMade M n (tb i) false x y z = ((mI (mL (mI (mL (mL (mI (fGather M n us) 17 u2 0) 15 u2 ((fGather M n us).2 (tb i + 8) (nn y))) 16 u2 0) 19 u2 0) (tb i + 8) (nn x) (17179869184 + ((nI u2).toInt64))) 0 3 (nI (u2 + 1))), 0) := by
        have hu200 : us = 200 := eq_of_nI (b := 200) hc_7 (by omega) (by decide)
        have e1 : M.1 0 3 = 200 := hus.trans hc_7
        subst hu200
        simp only [fMade]
        rw [if_pos e1, hN3]
        rw [if_neg hc_21, nn_nI (by omega), nI_1 u2]
        try rfl
      rw [hF]
      exact ⟨rfl, rfl⟩
    -- not taken 21
    · refine v_bipush (pc' := 26) (v := (-3)) X dX9_made_24 (by decide) rfl ?_
      refine v_ireturn X R (Nat.zero_le _) (Nat.zero_le _) dX9_made_26 ?_
      have hF : fMade M n (tb i) false x y z = ((fGather M n us), (-3)) := by
        have hu200 : us = 200 := eq_of_nI (b := 200) hc_7 (by omega) (by decide)
        have e1 : M.1 0 3 = 200 := hus.trans hc_7
        subst hu200
        simp only [fMade]
        rw [if_pos e1, hN3]
        exact if_pos hc_21
      rw [hF]
      exact ⟨rfl, rfl⟩
set_option maxHeartbeats 4000000 in
set_option maxRecDepth 100000 in
theorem c_X9_plain_0 {l : Launch} {D : va_G} {Y : Nat → ClassId} {zz : Nat → Nat} {n sz us pd : Nat} {ad : Nat → Nat} {M : vM} {i ca e r w : Nat} (hi : i < n) (hg : gI M n sz us pd) (hts : ∀ i, i < n → ∃ ca e r w, tI M us (tb i) ca e r w) (hI : tI M us (tb i) ca e r w) {x y z : Int32} : Ct l D Y zz yX9_plain cX9_plain 7 (some FieldType.int) 1 22 [.ref (ad (0)), .ref (ad (tb i)), .int 0, .int x, .int y, .int z] (wM Y n ad M) 0 0 (fun r w => r = some (.int (fPlain M n (tb i) 0 x y z).2) ∧ w = wM Y n ad (fPlain M n (tb i) 0 x y z).1) := by
  refine v_entry (by decide +kernel) (Nat.le_of_ble_eq_true rfl) ?_
  intro K X R hR hnm hl hD hY hz
  subst hl hD hY hz
  refine v_sub (lv' := [(0, .ref (ad (0))), (1, .ref (ad (tb i))), (2, .int 0), (3, .int x), (4, .int y), (5, .int z)]) [0, 1, 2, 3, 4, 5] rfl ?_
  obtain ⟨hsz, hsz2, hn2, hn1, hn16, hus, hus2, hpd, hpd2, h17, hfs, hvi, hgl⟩ := id hg
  obtain ⟨h3, hca, h4, he, h5, hr, h6, hw, hso, huq, hct, hctm, hwt, hwtm, hwt0, hpk, hst, hem, hov, hrg, hsv, hrd, hwr, hva⟩ := id hI
  refine v_aload_n (pc' := 1) (i := 1) (j := 1) X dX9_plain_0 rfl rfl rfl ?_
  refine fg_X9_105 (pc' := 4) X hi dX9_plain_1 rfl ?_
  refine v_astore (pc' := 6) (lv' := [(6, .ref (ad (tb i + 8))), (0, .ref (ad (0))), (1, .ref (ad (tb i))), (2, .int 0), (3, .int x), (4, .int y), (5, .int z)]) X dX9_plain_4 (by decide) rfl rfl ?_
  refine v_iload_n (pc' := 7) (i := 2) (j := 3) X dX9_plain_6 rfl rfl rfl ?_
  refine v_tableIn (off := 77) (tgt := 84) X dX9_plain_7 (by decide) (by decide) (by decide) (by decide) ?_
  refine v_aload_n (pc' := 85) (i := 1) (j := 2) X dX9_plain_84 rfl rfl rfl ?_
  refine fg_X9_121 (pc' := 88) X hi (v := nI e) h4 dX9_plain_85 rfl ?_
  refine v_if_le (pc' := 91) (tgt := 94) X dX9_plain_88 (by decide) rfl (fun hc_88 => ?_) (fun hc_88 => ?_)
  -- taken 88
  · refine v_aload_n (pc' := 95) (i := 1) (j := 2) X dX9_plain_94 rfl rfl rfl ?_
    refine v_iconst (pc' := 96) (v := 3) X dX9_plain_95 (by decide) rfl ?_
    refine v_iconst (pc' := 97) (v := 0) X dX9_plain_96 (by decide) rfl ?_
    refine v_callV (pc' := 100) X (st := []) (c_X8_end (M := M) hi (how := 3) (why := 0)) k_X8_end w_ml_X9_79 w_im_X8_end w_se_X8_X8_end (rv_T hi) (by rw [hR]; exact ⟨Nat.le_of_ble_eq_true rfl, Nat.le_of_ble_eq_true rfl⟩) rfl rfl (Nat.le_of_ble_eq_true rfl) dX9_plain_97 rfl (⟨Nat.zero_le _, Nat.zero_le _⟩) ?_
    rintro _ _ ⟨rfl, rfl⟩
    refine v_iconst (pc' := 101) (v := 0) X dX9_plain_100 (by decide) rfl ?_
    refine v_ireturn X R (Nat.zero_le _) (Nat.zero_le _) dX9_plain_101 ?_
    have hF : fPlain M n (tb i) 0 x y z = ((fEnd M (tb i) 3 0), 0) := by
      show (if 0 < M.1 (tb i) 4 then _ else _) = _
      rw [h4, if_neg (Int32.not_lt.mpr hc_88)]
    rw [hF]
    exact ⟨rfl, rfl⟩
  -- not taken 88
  · refine v_bipush (pc' := 93) (v := (-4)) X dX9_plain_91 (by decide) rfl ?_
    refine v_ireturn X R (Nat.zero_le _) (Nat.zero_le _) dX9_plain_93 ?_
    have hF : fPlain M n (tb i) 0 x y z = (M, (-4)) := by
      show (if 0 < M.1 (tb i) 4 then _ else _) = _
      rw [h4, if_pos (Int32.not_le.mp hc_88)]
    rw [hF]
    exact ⟨rfl, rfl⟩
set_option maxHeartbeats 4000000 in
set_option maxRecDepth 100000 in
theorem c_X9_plain_1 {l : Launch} {D : va_G} {Y : Nat → ClassId} {zz : Nat → Nat} {n sz us pd : Nat} {ad : Nat → Nat} {M : vM} {i ca e r w : Nat} (hi : i < n) (hg : gI M n sz us pd) (hts : ∀ i, i < n → ∃ ca e r w, tI M us (tb i) ca e r w) (hI : tI M us (tb i) ca e r w) {x y z : Int32} (hx1 : x = nI (nn x)) (hx2 : nn x < 16) : Ct l D Y zz yX9_plain cX9_plain 7 (some FieldType.int) 0 0 [.ref (ad (0)), .ref (ad (tb i)), .int 1, .int x, .int y, .int z] (wM Y n ad M) 0 0 (fun r w => r = some (.int (fPlain M n (tb i) 1 x y z).2) ∧ w = wM Y n ad (fPlain M n (tb i) 1 x y z).1) := by
  refine v_entry (by decide +kernel) (Nat.le_of_ble_eq_true rfl) ?_
  intro K X R hR hnm hl hD hY hz
  subst hl hD hY hz
  refine v_sub (lv' := [(0, .ref (ad (0))), (1, .ref (ad (tb i))), (2, .int 1), (3, .int x), (4, .int y), (5, .int z)]) [0, 1, 2, 3, 4, 5] rfl ?_
  obtain ⟨hsz, hsz2, hn2, hn1, hn16, hus, hus2, hpd, hpd2, h17, hfs, hvi, hgl⟩ := id hg
  obtain ⟨h3, hca, h4, he, h5, hr, h6, hw, hso, huq, hct, hctm, hwt, hwtm, hwt0, hpk, hst, hem, hov, hrg, hsv, hrd, hwr, hva⟩ := id hI
  refine v_aload_n (pc' := 1) (i := 1) (j := 1) X dX9_plain_0 rfl rfl rfl ?_
  refine fg_X9_105 (pc' := 4) X hi dX9_plain_1 rfl ?_
  refine v_astore (pc' := 6) (lv' := [(6, .ref (ad (tb i + 8))), (0, .ref (ad (0))), (1, .ref (ad (tb i))), (2, .int 1), (3, .int x), (4, .int y), (5, .int z)]) X dX9_plain_4 (by decide) rfl rfl ?_
  refine v_iload_n (pc' := 7) (i := 2) (j := 3) X dX9_plain_6 rfl rfl rfl ?_
  refine v_tableIn (off := 95) (tgt := 102) X dX9_plain_7 (by decide) (by decide) (by decide) (by decide) ?_
  refine v_aload (pc' := 104) (j := 0) X dX9_plain_102 rfl rfl ?_
  refine v_iload_n (pc' := 105) (i := 3) (j := 4) X dX9_plain_104 rfl rfl rfl ?_
  refine v_iload (pc' := 107) (j := 5) X dX9_plain_105 rfl rfl ?_
  refine v_i2l (pc' := 108) X dX9_plain_107 rfl rfl ?_
  refine as_T8 (pc' := 109) X hi (nn x) hx1 (by omega) dX9_plain_108 rfl ?_
  refine v_iconst (pc' := 110) (v := 0) X dX9_plain_109 (by decide) rfl ?_
  refine v_ireturn X R (Nat.zero_le _) (Nat.zero_le _) dX9_plain_110 ?_
  have hF : fPlain M n (tb i) 1 x y z = ((mL M (tb i + 8) (nn x) y.toInt64), 0) := rfl
  rw [hF]
  exact ⟨rfl, rfl⟩
set_option maxHeartbeats 4000000 in
set_option maxRecDepth 100000 in
theorem c_X9_plain_2 {l : Launch} {D : va_G} {Y : Nat → ClassId} {zz : Nat → Nat} {n sz us pd : Nat} {ad : Nat → Nat} {M : vM} {i ca e r w : Nat} (hi : i < n) (hg : gI M n sz us pd) (hts : ∀ i, i < n → ∃ ca e r w, tI M us (tb i) ca e r w) (hI : tI M us (tb i) ca e r w) {x y z : Int32} (hx1 : x = nI (nn x)) (hx2 : nn x < 16) (hy1 : y = nI (nn y)) (hy2 : nn y < 16) : Ct l D Y zz yX9_plain cX9_plain 7 (some FieldType.int) 0 0 [.ref (ad (0)), .ref (ad (tb i)), .int 2, .int x, .int y, .int z] (wM Y n ad M) 0 0 (fun r w => r = some (.int (fPlain M n (tb i) 2 x y z).2) ∧ w = wM Y n ad (fPlain M n (tb i) 2 x y z).1) := by
  refine v_entry (by decide +kernel) (Nat.le_of_ble_eq_true rfl) ?_
  intro K X R hR hnm hl hD hY hz
  subst hl hD hY hz
  refine v_sub (lv' := [(0, .ref (ad (0))), (1, .ref (ad (tb i))), (2, .int 2), (3, .int x), (4, .int y), (5, .int z)]) [0, 1, 2, 3, 4, 5] rfl ?_
  obtain ⟨hsz, hsz2, hn2, hn1, hn16, hus, hus2, hpd, hpd2, h17, hfs, hvi, hgl⟩ := id hg
  obtain ⟨h3, hca, h4, he, h5, hr, h6, hw, hso, huq, hct, hctm, hwt, hwtm, hwt0, hpk, hst, hem, hov, hrg, hsv, hrd, hwr, hva⟩ := id hI
  refine v_aload_n (pc' := 1) (i := 1) (j := 1) X dX9_plain_0 rfl rfl rfl ?_
  refine fg_X9_105 (pc' := 4) X hi dX9_plain_1 rfl ?_
  refine v_astore (pc' := 6) (lv' := [(6, .ref (ad (tb i + 8))), (0, .ref (ad (0))), (1, .ref (ad (tb i))), (2, .int 2), (3, .int x), (4, .int y), (5, .int z)]) X dX9_plain_4 (by decide) rfl rfl ?_
  refine v_iload_n (pc' := 7) (i := 2) (j := 3) X dX9_plain_6 rfl rfl rfl ?_
  refine v_tableIn (off := 104) (tgt := 111) X dX9_plain_7 (by decide) (by decide) (by decide) (by decide) ?_
  refine v_aload (pc' := 113) (j := 0) X dX9_plain_111 rfl rfl ?_
  refine v_iload_n (pc' := 114) (i := 3) (j := 4) X dX9_plain_113 rfl rfl rfl ?_
  refine v_aload (pc' := 116) (j := 0) X dX9_plain_114 rfl rfl ?_
  refine v_iload (pc' := 118) (j := 5) X dX9_plain_116 rfl rfl ?_
  refine ag_T8 (pc' := 119) X hi (v := M.2 (tb i + 8) (nn y)) (nn y) hy1 (by omega) rfl dX9_plain_118 rfl ?_
  refine as_T8 (pc' := 120) X hi (nn x) hx1 (by omega) dX9_plain_119 rfl ?_
  refine v_iconst (pc' := 121) (v := 0) X dX9_plain_120 (by decide) rfl ?_
  refine v_ireturn X R (Nat.zero_le _) (Nat.zero_le _) dX9_plain_121 ?_
  have hF : fPlain M n (tb i) 2 x y z = ((mL M (tb i + 8) (nn x) (M.2 (tb i + 8) (nn y))), 0) := rfl
  rw [hF]
  exact ⟨rfl, rfl⟩
set_option maxHeartbeats 4000000 in
set_option maxRecDepth 100000 in
theorem c_X9_plain_3 {l : Launch} {D : va_G} {Y : Nat → ClassId} {zz : Nat → Nat} {n sz us pd : Nat} {ad : Nat → Nat} {M : vM} {i ca e r w : Nat} (hi : i < n) (hg : gI M n sz us pd) (hts : ∀ i, i < n → ∃ ca e r w, tI M us (tb i) ca e r w) (hI : tI M us (tb i) ca e r w) {x y z : Int32} (hx1 : x = nI (nn x)) (hx2 : nn x < 16) (hy1 : y = nI (nn y)) (hy2 : nn y < 16) (hz1 : z = nI (nn z)) (hz2 : nn z < 16) : Ct l D Y zz yX9_plain cX9_plain 7 (some FieldType.int) 0 0 [.ref (ad (0)), .ref (ad (tb i)), .int 3, .int x, .int y, .int z] (wM Y n ad M) 0 0 (fun r w => r = some (.int (fPlain M n (tb i) 3 x y z).2) ∧ w = wM Y n ad (fPlain M n (tb i) 3 x y z).1) := by
  refine v_entry (by decide +kernel) (Nat.le_of_ble_eq_true rfl) ?_
  intro K X R hR hnm hl hD hY hz
  subst hl hD hY hz
  refine v_sub (lv' := [(0, .ref (ad (0))), (1, .ref (ad (tb i))), (2, .int 3), (3, .int x), (4, .int y), (5, .int z)]) [0, 1, 2, 3, 4, 5] rfl ?_
  obtain ⟨hsz, hsz2, hn2, hn1, hn16, hus, hus2, hpd, hpd2, h17, hfs, hvi, hgl⟩ := id hg
  obtain ⟨h3, hca, h4, he, h5, hr, h6, hw, hso, huq, hct, hctm, hwt, hwtm, hwt0, hpk, hst, hem, hov, hrg, hsv, hrd, hwr, hva⟩ := id hI
  refine v_aload_n (pc' := 1) (i := 1) (j := 1) X dX9_plain_0 rfl rfl rfl ?_
  refine fg_X9_105 (pc' := 4) X hi dX9_plain_1 rfl ?_
  refine v_astore (pc' := 6) (lv' := [(6, .ref (ad (tb i + 8))), (0, .ref (ad (0))), (1, .ref (ad (tb i))), (2, .int 3), (3, .int x), (4, .int y), (5, .int z)]) X dX9_plain_4 (by decide) rfl rfl ?_
  refine v_iload_n (pc' := 7) (i := 2) (j := 3) X dX9_plain_6 rfl rfl rfl ?_
  refine v_tableIn (off := 115) (tgt := 122) X dX9_plain_7 (by decide) (by decide) (by decide) (by decide) ?_
  refine v_aload (pc' := 124) (j := 0) X dX9_plain_122 rfl rfl ?_
  refine v_iload_n (pc' := 125) (i := 3) (j := 4) X dX9_plain_124 rfl rfl rfl ?_
  refine v_aload (pc' := 127) (j := 0) X dX9_plain_125 rfl rfl ?_
  refine v_iload (pc' := 129) (j := 5) X dX9_plain_127 rfl rfl ?_
  refine ag_T8 (pc' := 130) X hi (v := M.2 (tb i + 8) (nn y)) (nn y) hy1 (by omega) rfl dX9_plain_129 rfl ?_
  refine v_aload (pc' := 132) (j := 0) X dX9_plain_130 rfl rfl ?_
  refine v_iload (pc' := 134) (j := 6) X dX9_plain_132 rfl rfl ?_
  refine ag_T8 (pc' := 135) X hi (v := M.2 (tb i + 8) (nn z)) (nn z) hz1 (by omega) rfl dX9_plain_134 rfl ?_
  refine v_ladd (pc' := 136) X dX9_plain_135 rfl ?_
  refine v_l2i (pc' := 137) X dX9_plain_136 rfl rfl ?_
  refine v_i2l (pc' := 138) X dX9_plain_137 rfl rfl ?_
  refine as_T8 (pc' := 139) X hi (nn x) hx1 (by omega) dX9_plain_138 rfl ?_
  refine v_iconst (pc' := 140) (v := 0) X dX9_plain_139 (by decide) rfl ?_
  refine v_ireturn X R (Nat.zero_le _) (Nat.zero_le _) dX9_plain_140 ?_
  have hF : fPlain M n (tb i) 3 x y z = ((mL M (tb i + 8) (nn x) ((((M.2 (tb i + 8) (nn y)) + (M.2 (tb i + 8) (nn z))).toInt32).toInt64)), 0) := rfl
  rw [hF]
  exact ⟨rfl, rfl⟩
set_option maxHeartbeats 4000000 in
set_option maxRecDepth 100000 in
theorem c_X9_plain_4 {l : Launch} {D : va_G} {Y : Nat → ClassId} {zz : Nat → Nat} {n sz us pd : Nat} {ad : Nat → Nat} {M : vM} {i ca e r w : Nat} (hi : i < n) (hg : gI M n sz us pd) (hts : ∀ i, i < n → ∃ ca e r w, tI M us (tb i) ca e r w) (hI : tI M us (tb i) ca e r w) {x y z : Int32} (hx1 : x = nI (nn x)) (hx2 : nn x < 16) (hy1 : y = nI (nn y)) (hy2 : nn y < 16) (hz1 : z = nI (nn z)) (hz2 : nn z < 16) : Ct l D Y zz yX9_plain cX9_plain 7 (some FieldType.int) 0 0 [.ref (ad (0)), .ref (ad (tb i)), .int 4, .int x, .int y, .int z] (wM Y n ad M) 0 0 (fun r w => r = some (.int (fPlain M n (tb i) 4 x y z).2) ∧ w = wM Y n ad (fPlain M n (tb i) 4 x y z).1) := by
  refine v_entry (by decide +kernel) (Nat.le_of_ble_eq_true rfl) ?_
  intro K X R hR hnm hl hD hY hz
  subst hl hD hY hz
  refine v_sub (lv' := [(0, .ref (ad (0))), (1, .ref (ad (tb i))), (2, .int 4), (3, .int x), (4, .int y), (5, .int z)]) [0, 1, 2, 3, 4, 5] rfl ?_
  obtain ⟨hsz, hsz2, hn2, hn1, hn16, hus, hus2, hpd, hpd2, h17, hfs, hvi, hgl⟩ := id hg
  obtain ⟨h3, hca, h4, he, h5, hr, h6, hw, hso, huq, hct, hctm, hwt, hwtm, hwt0, hpk, hst, hem, hov, hrg, hsv, hrd, hwr, hva⟩ := id hI
  refine v_aload_n (pc' := 1) (i := 1) (j := 1) X dX9_plain_0 rfl rfl rfl ?_
  refine fg_X9_105 (pc' := 4) X hi dX9_plain_1 rfl ?_
  refine v_astore (pc' := 6) (lv' := [(6, .ref (ad (tb i + 8))), (0, .ref (ad (0))), (1, .ref (ad (tb i))), (2, .int 4), (3, .int x), (4, .int y), (5, .int z)]) X dX9_plain_4 (by decide) rfl rfl ?_
  refine v_iload_n (pc' := 7) (i := 2) (j := 3) X dX9_plain_6 rfl rfl rfl ?_
  refine v_tableIn (off := 134) (tgt := 141) X dX9_plain_7 (by decide) (by decide) (by decide) (by decide) ?_
  refine v_aload (pc' := 143) (j := 0) X dX9_plain_141 rfl rfl ?_
  refine v_iload_n (pc' := 144) (i := 3) (j := 4) X dX9_plain_143 rfl rfl rfl ?_
  refine v_aload (pc' := 146) (j := 0) X dX9_plain_144 rfl rfl ?_
  refine v_iload (pc' := 148) (j := 5) X dX9_plain_146 rfl rfl ?_
  refine ag_T8 (pc' := 149) X hi (v := M.2 (tb i + 8) (nn y)) (nn y) hy1 (by omega) rfl dX9_plain_148 rfl ?_
  refine v_aload (pc' := 151) (j := 0) X dX9_plain_149 rfl rfl ?_
  refine v_iload (pc' := 153) (j := 6) X dX9_plain_151 rfl rfl ?_
  refine ag_T8 (pc' := 154) X hi (v := M.2 (tb i + 8) (nn z)) (nn z) hz1 (by omega) rfl dX9_plain_153 rfl ?_
  refine v_lsub (pc' := 155) X dX9_plain_154 rfl ?_
  refine v_l2i (pc' := 156) X dX9_plain_155 rfl rfl ?_
  refine v_i2l (pc' := 157) X dX9_plain_156 rfl rfl ?_
  refine as_T8 (pc' := 158) X hi (nn x) hx1 (by omega) dX9_plain_157 rfl ?_
  refine v_iconst (pc' := 159) (v := 0) X dX9_plain_158 (by decide) rfl ?_
  refine v_ireturn X R (Nat.zero_le _) (Nat.zero_le _) dX9_plain_159 ?_
  have hF : fPlain M n (tb i) 4 x y z = ((mL M (tb i + 8) (nn x) ((((M.2 (tb i + 8) (nn y)) - (M.2 (tb i + 8) (nn z))).toInt32).toInt64)), 0) := rfl
  rw [hF]
  exact ⟨rfl, rfl⟩
set_option maxHeartbeats 4000000 in
set_option maxRecDepth 100000 in
theorem c_X9_plain_5 {l : Launch} {D : va_G} {Y : Nat → ClassId} {zz : Nat → Nat} {n sz us pd : Nat} {ad : Nat → Nat} {M : vM} {i ca e r w : Nat} (hi : i < n) (hg : gI M n sz us pd) (hts : ∀ i, i < n → ∃ ca e r w, tI M us (tb i) ca e r w) (hI : tI M us (tb i) ca e r w) {x y z : Int32} (hx1 : x = nI (nn x)) (hx2 : nn x < 16) (hy1 : y = nI (nn y)) (hy2 : nn y < 16) (hz1 : z = nI (nn z)) (hz2 : nn z < 16) : Ct l D Y zz yX9_plain cX9_plain 7 (some FieldType.int) 0 0 [.ref (ad (0)), .ref (ad (tb i)), .int 5, .int x, .int y, .int z] (wM Y n ad M) 0 0 (fun r w => r = some (.int (fPlain M n (tb i) 5 x y z).2) ∧ w = wM Y n ad (fPlain M n (tb i) 5 x y z).1) := by
  refine v_entry (by decide +kernel) (Nat.le_of_ble_eq_true rfl) ?_
  intro K X R hR hnm hl hD hY hz
  subst hl hD hY hz
  refine v_sub (lv' := [(0, .ref (ad (0))), (1, .ref (ad (tb i))), (2, .int 5), (3, .int x), (4, .int y), (5, .int z)]) [0, 1, 2, 3, 4, 5] rfl ?_
  obtain ⟨hsz, hsz2, hn2, hn1, hn16, hus, hus2, hpd, hpd2, h17, hfs, hvi, hgl⟩ := id hg
  obtain ⟨h3, hca, h4, he, h5, hr, h6, hw, hso, huq, hct, hctm, hwt, hwtm, hwt0, hpk, hst, hem, hov, hrg, hsv, hrd, hwr, hva⟩ := id hI
  refine v_aload_n (pc' := 1) (i := 1) (j := 1) X dX9_plain_0 rfl rfl rfl ?_
  refine fg_X9_105 (pc' := 4) X hi dX9_plain_1 rfl ?_
  refine v_astore (pc' := 6) (lv' := [(6, .ref (ad (tb i + 8))), (0, .ref (ad (0))), (1, .ref (ad (tb i))), (2, .int 5), (3, .int x), (4, .int y), (5, .int z)]) X dX9_plain_4 (by decide) rfl rfl ?_
  refine v_iload_n (pc' := 7) (i := 2) (j := 3) X dX9_plain_6 rfl rfl rfl ?_
  refine v_tableIn (off := 153) (tgt := 160) X dX9_plain_7 (by decide) (by decide) (by decide) (by decide) ?_
  refine v_aload (pc' := 162) (j := 0) X dX9_plain_160 rfl rfl ?_
  refine v_iload_n (pc' := 163) (i := 3) (j := 4) X dX9_plain_162 rfl rfl rfl ?_
  refine v_aload (pc' := 165) (j := 0) X dX9_plain_163 rfl rfl ?_
  refine v_iload (pc' := 167) (j := 5) X dX9_plain_165 rfl rfl ?_
  refine ag_T8 (pc' := 168) X hi (v := M.2 (tb i + 8) (nn y)) (nn y) hy1 (by omega) rfl dX9_plain_167 rfl ?_
  refine v_aload (pc' := 170) (j := 0) X dX9_plain_168 rfl rfl ?_
  refine v_iload (pc' := 172) (j := 6) X dX9_plain_170 rfl rfl ?_
  refine ag_T8 (pc' := 173) X hi (v := M.2 (tb i + 8) (nn z)) (nn z) hz1 (by omega) rfl dX9_plain_172 rfl ?_
  refine v_lmul (pc' := 174) X dX9_plain_173 rfl ?_
  refine v_l2i (pc' := 175) X dX9_plain_174 rfl rfl ?_
  refine v_i2l (pc' := 176) X dX9_plain_175 rfl rfl ?_
  refine as_T8 (pc' := 177) X hi (nn x) hx1 (by omega) dX9_plain_176 rfl ?_
  refine v_iconst (pc' := 178) (v := 0) X dX9_plain_177 (by decide) rfl ?_
  refine v_ireturn X R (Nat.zero_le _) (Nat.zero_le _) dX9_plain_178 ?_
  have hF : fPlain M n (tb i) 5 x y z = ((mL M (tb i + 8) (nn x) ((((M.2 (tb i + 8) (nn y)) * (M.2 (tb i + 8) (nn z))).toInt32).toInt64)), 0) := rfl
  rw [hF]
  exact ⟨rfl, rfl⟩
set_option maxHeartbeats 4000000 in
set_option maxRecDepth 100000 in
theorem c_X9_plain_6 {l : Launch} {D : va_G} {Y : Nat → ClassId} {zz : Nat → Nat} {n sz us pd : Nat} {ad : Nat → Nat} {M : vM} {i ca e r w : Nat} (hi : i < n) (hg : gI M n sz us pd) (hts : ∀ i, i < n → ∃ ca e r w, tI M us (tb i) ca e r w) (hI : tI M us (tb i) ca e r w) {x y z : Int32} (hx1 : x = nI (nn x)) (hx2 : nn x < 16) (hy1 : y = nI (nn y)) (hy2 : nn y < 16) (hz1 : z = nI (nn z)) (hz2 : nn z < 16) : Ct l D Y zz yX9_plain cX9_plain 7 (some FieldType.int) 0 0 [.ref (ad (0)), .ref (ad (tb i)), .int 6, .int x, .int y, .int z] (wM Y n ad M) 0 0 (fun r w => r = some (.int (fPlain M n (tb i) 6 x y z).2) ∧ w = wM Y n ad (fPlain M n (tb i) 6 x y z).1) := by
  refine v_entry (by decide +kernel) (Nat.le_of_ble_eq_true rfl) ?_
  intro K X R hR hnm hl hD hY hz
  subst hl hD hY hz
  refine v_sub (lv' := [(0, .ref (ad (0))), (1, .ref (ad (tb i))), (2, .int 6), (3, .int x), (4, .int y), (5, .int z)]) [0, 1, 2, 3, 4, 5] rfl ?_
  obtain ⟨hsz, hsz2, hn2, hn1, hn16, hus, hus2, hpd, hpd2, h17, hfs, hvi, hgl⟩ := id hg
  obtain ⟨h3, hca, h4, he, h5, hr, h6, hw, hso, huq, hct, hctm, hwt, hwtm, hwt0, hpk, hst, hem, hov, hrg, hsv, hrd, hwr, hva⟩ := id hI
  refine v_aload_n (pc' := 1) (i := 1) (j := 1) X dX9_plain_0 rfl rfl rfl ?_
  refine fg_X9_105 (pc' := 4) X hi dX9_plain_1 rfl ?_
  refine v_astore (pc' := 6) (lv' := [(6, .ref (ad (tb i + 8))), (0, .ref (ad (0))), (1, .ref (ad (tb i))), (2, .int 6), (3, .int x), (4, .int y), (5, .int z)]) X dX9_plain_4 (by decide) rfl rfl ?_
  refine v_iload_n (pc' := 7) (i := 2) (j := 3) X dX9_plain_6 rfl rfl rfl ?_
  refine v_tableIn (off := 172) (tgt := 179) X dX9_plain_7 (by decide) (by decide) (by decide) (by decide) ?_
  refine v_aload (pc' := 181) (j := 0) X dX9_plain_179 rfl rfl ?_
  refine v_iload_n (pc' := 182) (i := 3) (j := 4) X dX9_plain_181 rfl rfl rfl ?_
  refine v_aload (pc' := 184) (j := 0) X dX9_plain_182 rfl rfl ?_
  refine v_iload (pc' := 186) (j := 5) X dX9_plain_184 rfl rfl ?_
  refine ag_T8 (pc' := 187) X hi (v := M.2 (tb i + 8) (nn y)) (nn y) hy1 (by omega) rfl dX9_plain_186 rfl ?_
  refine v_aload (pc' := 189) (j := 0) X dX9_plain_187 rfl rfl ?_
  refine v_iload (pc' := 191) (j := 6) X dX9_plain_189 rfl rfl ?_
  refine ag_T8 (pc' := 192) X hi (v := M.2 (tb i + 8) (nn z)) (nn z) hz1 (by omega) rfl dX9_plain_191 rfl ?_
  refine v_lcmp (pc' := 193) X dX9_plain_192 rfl ?_
  refine v_lif_ge (pc' := 196) (tgt := 200) X dX9_plain_193 (by decide) rfl (fun hc_193 => ?_) (fun hc_193 => ?_)
  -- taken 193
  · refine v_lconst (pc' := 201) (v := 0) X dX9_plain_200 (by decide) rfl ?_
    refine as_T8 (pc' := 202) X hi (nn x) hx1 (by omega) dX9_plain_201 rfl ?_
    refine v_iconst (pc' := 203) (v := 0) X dX9_plain_202 (by decide) rfl ?_
    refine v_ireturn X R (Nat.zero_le _) (Nat.zero_le _) dX9_plain_203 ?_
    have hF : fPlain M n (tb i) 6 x y z = ((mL M (tb i + 8) (nn x) 0), 0) := by
      show (mL M (tb i + 8) (nn x) (if rgx M (tb i) y < rgx M (tb i) z then 1 else 0), (0 : Int32)) = _
      rw [if_neg (Int64.not_lt.mpr hc_193)]
    rw [hF]
    exact ⟨rfl, rfl⟩
  -- not taken 193
  · refine v_lconst (pc' := 197) (v := 1) X dX9_plain_196 (by decide) rfl ?_
    refine v_goto (pc' := 201) X dX9_plain_197 (by decide) ?_
    refine as_T8 (pc' := 202) X hi (nn x) hx1 (by omega) dX9_plain_201 rfl ?_
    refine v_iconst (pc' := 203) (v := 0) X dX9_plain_202 (by decide) rfl ?_
    refine v_ireturn X R (Nat.zero_le _) (Nat.zero_le _) dX9_plain_203 ?_
    have hF : fPlain M n (tb i) 6 x y z = ((mL M (tb i + 8) (nn x) 1), 0) := by
      show (mL M (tb i + 8) (nn x) (if rgx M (tb i) y < rgx M (tb i) z then 1 else 0), (0 : Int32)) = _
      rw [if_pos hc_193]
    rw [hF]
    exact ⟨rfl, rfl⟩
set_option maxHeartbeats 4000000 in
set_option maxRecDepth 100000 in
theorem c_X9_plain_7 {l : Launch} {D : va_G} {Y : Nat → ClassId} {zz : Nat → Nat} {n sz us pd : Nat} {ad : Nat → Nat} {M : vM} {i ca e r w : Nat} (hi : i < n) (hg : gI M n sz us pd) (hts : ∀ i, i < n → ∃ ca e r w, tI M us (tb i) ca e r w) (hI : tI M us (tb i) ca e r w) {x y z : Int32} (hx1 : x = nI (nn x)) (hx2 : nn x < 16) (hy1 : y = nI (nn y)) (hy2 : nn y < 16) (hz1 : z = nI (nn z)) (hz2 : nn z < 16) : Ct l D Y zz yX9_plain cX9_plain 7 (some FieldType.int) 0 0 [.ref (ad (0)), .ref (ad (tb i)), .int 7, .int x, .int y, .int z] (wM Y n ad M) 0 0 (fun r w => r = some (.int (fPlain M n (tb i) 7 x y z).2) ∧ w = wM Y n ad (fPlain M n (tb i) 7 x y z).1) := by
  refine v_entry (by decide +kernel) (Nat.le_of_ble_eq_true rfl) ?_
  intro K X R hR hnm hl hD hY hz
  subst hl hD hY hz
  refine v_sub (lv' := [(0, .ref (ad (0))), (1, .ref (ad (tb i))), (2, .int 7), (3, .int x), (4, .int y), (5, .int z)]) [0, 1, 2, 3, 4, 5] rfl ?_
  obtain ⟨hsz, hsz2, hn2, hn1, hn16, hus, hus2, hpd, hpd2, h17, hfs, hvi, hgl⟩ := id hg
  obtain ⟨h3, hca, h4, he, h5, hr, h6, hw, hso, huq, hct, hctm, hwt, hwtm, hwt0, hpk, hst, hem, hov, hrg, hsv, hrd, hwr, hva⟩ := id hI
  refine v_aload_n (pc' := 1) (i := 1) (j := 1) X dX9_plain_0 rfl rfl rfl ?_
  refine fg_X9_105 (pc' := 4) X hi dX9_plain_1 rfl ?_
  refine v_astore (pc' := 6) (lv' := [(6, .ref (ad (tb i + 8))), (0, .ref (ad (0))), (1, .ref (ad (tb i))), (2, .int 7), (3, .int x), (4, .int y), (5, .int z)]) X dX9_plain_4 (by decide) rfl rfl ?_
  refine v_iload_n (pc' := 7) (i := 2) (j := 3) X dX9_plain_6 rfl rfl rfl ?_
  refine v_tableIn (off := 197) (tgt := 204) X dX9_plain_7 (by decide) (by decide) (by decide) (by decide) ?_
  refine v_aload (pc' := 206) (j := 0) X dX9_plain_204 rfl rfl ?_
  refine v_iload_n (pc' := 207) (i := 3) (j := 4) X dX9_plain_206 rfl rfl rfl ?_
  refine v_aload (pc' := 209) (j := 0) X dX9_plain_207 rfl rfl ?_
  refine v_iload (pc' := 211) (j := 5) X dX9_plain_209 rfl rfl ?_
  refine ag_T8 (pc' := 212) X hi (v := M.2 (tb i + 8) (nn y)) (nn y) hy1 (by omega) rfl dX9_plain_211 rfl ?_
  refine v_aload (pc' := 214) (j := 0) X dX9_plain_212 rfl rfl ?_
  refine v_iload (pc' := 216) (j := 6) X dX9_plain_214 rfl rfl ?_
  refine ag_T8 (pc' := 217) X hi (v := M.2 (tb i + 8) (nn z)) (nn z) hz1 (by omega) rfl dX9_plain_216 rfl ?_
  refine v_lcmp (pc' := 218) X dX9_plain_217 rfl ?_
  refine v_lif_ne (pc' := 221) (tgt := 225) X dX9_plain_218 (by decide) rfl (fun hc_218 => ?_) (fun hc_218 => ?_)
  -- taken 218
  · refine v_lconst (pc' := 226) (v := 0) X dX9_plain_225 (by decide) rfl ?_
    refine as_T8 (pc' := 227) X hi (nn x) hx1 (by omega) dX9_plain_226 rfl ?_
    refine v_iconst (pc' := 228) (v := 0) X dX9_plain_227 (by decide) rfl ?_
    refine v_ireturn X R (Nat.zero_le _) (Nat.zero_le _) dX9_plain_228 ?_
    have hF : fPlain M n (tb i) 7 x y z = ((mL M (tb i + 8) (nn x) 0), 0) := by
      show (mL M (tb i + 8) (nn x) (if rgx M (tb i) y = rgx M (tb i) z then 1 else 0), (0 : Int32)) = _
      rw [if_neg hc_218]
    rw [hF]
    exact ⟨rfl, rfl⟩
  -- not taken 218
  · refine v_lconst (pc' := 222) (v := 1) X dX9_plain_221 (by decide) rfl ?_
    refine v_goto (pc' := 226) X dX9_plain_222 (by decide) ?_
    refine as_T8 (pc' := 227) X hi (nn x) hx1 (by omega) dX9_plain_226 rfl ?_
    refine v_iconst (pc' := 228) (v := 0) X dX9_plain_227 (by decide) rfl ?_
    refine v_ireturn X R (Nat.zero_le _) (Nat.zero_le _) dX9_plain_228 ?_
    have hF : fPlain M n (tb i) 7 x y z = ((mL M (tb i + 8) (nn x) 1), 0) := by
      show (mL M (tb i + 8) (nn x) (if rgx M (tb i) y = rgx M (tb i) z then 1 else 0), (0 : Int32)) = _
      rw [if_pos hc_218]
    rw [hF]
    exact ⟨rfl, rfl⟩
set_option maxHeartbeats 4000000 in
set_option maxRecDepth 100000 in
theorem c_X9_plain_8 {l : Launch} {D : va_G} {Y : Nat → ClassId} {zz : Nat → Nat} {n sz us pd : Nat} {ad : Nat → Nat} {M : vM} {i ca e r w : Nat} (hi : i < n) (hg : gI M n sz us pd) (hts : ∀ i, i < n → ∃ ca e r w, tI M us (tb i) ca e r w) (hI : tI M us (tb i) ca e r w) {x y z : Int32} : Ct l D Y zz yX9_plain cX9_plain 7 (some FieldType.int) 0 0 [.ref (ad (0)), .ref (ad (tb i)), .int 8, .int x, .int y, .int z] (wM Y n ad M) 0 0 (fun r w => r = some (.int (fPlain M n (tb i) 8 x y z).2) ∧ w = wM Y n ad (fPlain M n (tb i) 8 x y z).1) := by
  refine v_entry (by decide +kernel) (Nat.le_of_ble_eq_true rfl) ?_
  intro K X R hR hnm hl hD hY hz
  subst hl hD hY hz
  refine v_sub (lv' := [(0, .ref (ad (0))), (1, .ref (ad (tb i))), (2, .int 8), (3, .int x), (4, .int y), (5, .int z)]) [0, 1, 2, 3, 4, 5] rfl ?_
  obtain ⟨hsz, hsz2, hn2, hn1, hn16, hus, hus2, hpd, hpd2, h17, hfs, hvi, hgl⟩ := id hg
  obtain ⟨h3, hca, h4, he, h5, hr, h6, hw, hso, huq, hct, hctm, hwt, hwtm, hwt0, hpk, hst, hem, hov, hrg, hsv, hrd, hwr, hva⟩ := id hI
  refine v_aload_n (pc' := 1) (i := 1) (j := 1) X dX9_plain_0 rfl rfl rfl ?_
  refine fg_X9_105 (pc' := 4) X hi dX9_plain_1 rfl ?_
  refine v_astore (pc' := 6) (lv' := [(6, .ref (ad (tb i + 8))), (0, .ref (ad (0))), (1, .ref (ad (tb i))), (2, .int 8), (3, .int x), (4, .int y), (5, .int z)]) X dX9_plain_4 (by decide) rfl rfl ?_
  refine v_iload_n (pc' := 7) (i := 2) (j := 3) X dX9_plain_6 rfl rfl rfl ?_
  refine v_tableIn (off := 222) (tgt := 229) X dX9_plain_7 (by decide) (by decide) (by decide) (by decide) ?_
  refine v_aload_n (pc' := 230) (i := 1) (j := 2) X dX9_plain_229 rfl rfl rfl ?_
  refine v_iload_n (pc' := 231) (i := 3) (j := 4) X dX9_plain_230 rfl rfl rfl ?_
  refine fp_X9_69 (pc' := 234) X hi dX9_plain_231 rfl ?_
  refine v_iconst (pc' := 235) (v := 0) X dX9_plain_234 (by decide) rfl ?_
  refine v_ireturn X R (Nat.zero_le _) (Nat.zero_le _) dX9_plain_235 ?_
  have hF : fPlain M n (tb i) 8 x y z = ((mI M (tb i) 2 x), 0) := rfl
  rw [hF]
  exact ⟨rfl, rfl⟩
set_option maxHeartbeats 4000000 in
set_option maxRecDepth 100000 in
theorem c_X9_plain_9 {l : Launch} {D : va_G} {Y : Nat → ClassId} {zz : Nat → Nat} {n sz us pd : Nat} {ad : Nat → Nat} {M : vM} {i ca e r w : Nat} (hi : i < n) (hg : gI M n sz us pd) (hts : ∀ i, i < n → ∃ ca e r w, tI M us (tb i) ca e r w) (hI : tI M us (tb i) ca e r w) {x y z : Int32} (hx1 : x = nI (nn x)) (hx2 : nn x < 16) : Ct l D Y zz yX9_plain cX9_plain 7 (some FieldType.int) 0 0 [.ref (ad (0)), .ref (ad (tb i)), .int 9, .int x, .int y, .int z] (wM Y n ad M) 0 0 (fun r w => r = some (.int (fPlain M n (tb i) 9 x y z).2) ∧ w = wM Y n ad (fPlain M n (tb i) 9 x y z).1) := by
  refine v_entry (by decide +kernel) (Nat.le_of_ble_eq_true rfl) ?_
  intro K X R hR hnm hl hD hY hz
  subst hl hD hY hz
  refine v_sub (lv' := [(0, .ref (ad (0))), (1, .ref (ad (tb i))), (2, .int 9), (3, .int x), (4, .int y), (5, .int z)]) [0, 1, 2, 3, 4, 5] rfl ?_
  obtain ⟨hsz, hsz2, hn2, hn1, hn16, hus, hus2, hpd, hpd2, h17, hfs, hvi, hgl⟩ := id hg
  obtain ⟨h3, hca, h4, he, h5, hr, h6, hw, hso, huq, hct, hctm, hwt, hwtm, hwt0, hpk, hst, hem, hov, hrg, hsv, hrd, hwr, hva⟩ := id hI
  refine v_aload_n (pc' := 1) (i := 1) (j := 1) X dX9_plain_0 rfl rfl rfl ?_
  refine fg_X9_105 (pc' := 4) X hi dX9_plain_1 rfl ?_
  refine v_astore (pc' := 6) (lv' := [(6, .ref (ad (tb i + 8))), (0, .ref (ad (0))), (1, .ref (ad (tb i))), (2, .int 9), (3, .int x), (4, .int y), (5, .int z)]) X dX9_plain_4 (by decide) rfl rfl ?_
  refine v_iload_n (pc' := 7) (i := 2) (j := 3) X dX9_plain_6 rfl rfl rfl ?_
  refine v_tableIn (off := 229) (tgt := 236) X dX9_plain_7 (by decide) (by decide) (by decide) (by decide) ?_
  refine v_aload (pc' := 238) (j := 0) X dX9_plain_236 rfl rfl ?_
  refine v_iload_n (pc' := 239) (i := 3) (j := 4) X dX9_plain_238 rfl rfl rfl ?_
  refine ag_T8 (pc' := 240) X hi (v := M.2 (tb i + 8) (nn x)) (nn x) hx1 (by omega) rfl dX9_plain_239 rfl ?_
  refine v_lconst (pc' := 241) (v := 0) X dX9_plain_240 (by decide) rfl ?_
  refine v_lcmp (pc' := 242) X dX9_plain_241 rfl ?_
  refine v_lif_ne (pc' := 245) (tgt := 251) X dX9_plain_242 (by decide) rfl (fun hc_242 => ?_) (fun hc_242 => ?_)
  -- taken 242
  · refine v_iconst (pc' := 252) (v := 0) X dX9_plain_251 (by decide) rfl ?_
    refine v_ireturn X R (Nat.zero_le _) (Nat.zero_le _) dX9_plain_252 ?_
    have hF : fPlain M n (tb i) 9 x y z = (M, 0) := by
      show (if rgx M (tb i) x = 0 then mI M (tb i) 2 y else M, (0 : Int32)) = _
      rw [if_neg hc_242]
    rw [hF]
    exact ⟨rfl, rfl⟩
  -- not taken 242
  · refine v_aload_n (pc' := 246) (i := 1) (j := 2) X dX9_plain_245 rfl rfl rfl ?_
    refine v_iload (pc' := 248) (j := 5) X dX9_plain_246 rfl rfl ?_
    refine fp_X9_69 (pc' := 251) X hi dX9_plain_248 rfl ?_
    refine v_iconst (pc' := 252) (v := 0) X dX9_plain_251 (by decide) rfl ?_
    refine v_ireturn X R (Nat.zero_le _) (Nat.zero_le _) dX9_plain_252 ?_
    have hF : fPlain M n (tb i) 9 x y z = ((mI M (tb i) 2 y), 0) := by
      show (if rgx M (tb i) x = 0 then mI M (tb i) 2 y else M, (0 : Int32)) = _
      rw [if_pos hc_242]
    rw [hF]
    exact ⟨rfl, rfl⟩
set_option maxHeartbeats 4000000 in
set_option maxRecDepth 100000 in
theorem c_X9_plain_10 {l : Launch} {D : va_G} {Y : Nat → ClassId} {zz : Nat → Nat} {n sz us pd : Nat} {ad : Nat → Nat} {M : vM} {i ca e r w : Nat} (hi : i < n) (hg : gI M n sz us pd) (hts : ∀ i, i < n → ∃ ca e r w, tI M us (tb i) ca e r w) (hI : tI M us (tb i) ca e r w) {x y z : Int32} : Ct l D Y zz yX9_plain cX9_plain 7 (some FieldType.int) 0 0 [.ref (ad (0)), .ref (ad (tb i)), .int 10, .int x, .int y, .int z] (wM Y n ad M) 0 0 (fun r w => r = some (.int (fPlain M n (tb i) 10 x y z).2) ∧ w = wM Y n ad (fPlain M n (tb i) 10 x y z).1) := by
  refine v_entry (by decide +kernel) (Nat.le_of_ble_eq_true rfl) ?_
  intro K X R hR hnm hl hD hY hz
  subst hl hD hY hz
  refine v_sub (lv' := [(0, .ref (ad (0))), (1, .ref (ad (tb i))), (2, .int 10), (3, .int x), (4, .int y), (5, .int z)]) [0, 1, 2, 3, 4, 5] rfl ?_
  obtain ⟨hsz, hsz2, hn2, hn1, hn16, hus, hus2, hpd, hpd2, h17, hfs, hvi, hgl⟩ := id hg
  obtain ⟨h3, hca, h4, he, h5, hr, h6, hw, hso, huq, hct, hctm, hwt, hwtm, hwt0, hpk, hst, hem, hov, hrg, hsv, hrd, hwr, hva⟩ := id hI
  refine v_aload_n (pc' := 1) (i := 1) (j := 1) X dX9_plain_0 rfl rfl rfl ?_
  refine fg_X9_105 (pc' := 4) X hi dX9_plain_1 rfl ?_
  refine v_astore (pc' := 6) (lv' := [(6, .ref (ad (tb i + 8))), (0, .ref (ad (0))), (1, .ref (ad (tb i))), (2, .int 10), (3, .int x), (4, .int y), (5, .int z)]) X dX9_plain_4 (by decide) rfl rfl ?_
  refine v_iload_n (pc' := 7) (i := 2) (j := 3) X dX9_plain_6 rfl rfl rfl ?_
  refine v_tableIn (off := 246) (tgt := 253) X dX9_plain_7 (by decide) (by decide) (by decide) (by decide) ?_
  refine v_aload_n (pc' := 254) (i := 1) (j := 2) X dX9_plain_253 rfl rfl rfl ?_
  refine fg_X9_124 (pc' := 257) X hi (v := nI ca) h3 dX9_plain_254 rfl ?_
  refine v_bipush (pc' := 259) (v := 40) X dX9_plain_257 (by decide) rfl ?_
  refine v_icmp_ne (pc' := 262) (tgt := 265) X dX9_plain_259 (by decide) rfl (fun hc_259 => ?_) (fun hc_259 => ?_)
  -- taken 259
  · have hca40 := i40_lt hc_259 hca
    refine v_aload_n (pc' := 266) (i := 1) (j := 2) X dX9_plain_265 rfl rfl rfl ?_
    refine fg_X9_127 (pc' := 269) X hi dX9_plain_266 rfl ?_
    refine v_aload_n (pc' := 270) (i := 1) (j := 2) X dX9_plain_269 rfl rfl rfl ?_
    refine fg_X9_124 (pc' := 273) X hi (v := nI ca) h3 dX9_plain_270 rfl ?_
    refine v_aload_n (pc' := 274) (i := 1) (j := 2) X dX9_plain_273 rfl rfl rfl ?_
    refine fg_X9_69 (pc' := 277) X hi (v := M.1 (tb i) 2) rfl dX9_plain_274 rfl ?_
    refine as_T10 (pc' := 278) X hi (ca) rfl (by omega) dX9_plain_277 rfl ?_
    refine v_aload_n (pc' := 279) (i := 1) (j := 2) X dX9_plain_278 rfl rfl rfl ?_
    refine v_dup (pc' := 280) X dX9_plain_279 rfl rfl ?_
    refine fg_X9_124 (pc' := 283) X hi (v := nI ca) ((congrFun (mI_n _ _ _ _ (by omega)) _).trans h3) dX9_plain_280 rfl ?_
    refine v_iconst (pc' := 284) (v := 1) X dX9_plain_283 (by decide) rfl ?_
    refine v_iaddV (pc' := 285) (v := nI (ca + 1)) X (nI_add (ca) 1) dX9_plain_284 rfl ?_
    refine fp_X9_124 (pc' := 288) X hi dX9_plain_285 rfl ?_
    refine v_aload_n (pc' := 289) (i := 1) (j := 2) X dX9_plain_288 rfl rfl rfl ?_
    refine v_iload_n (pc' := 290) (i := 3) (j := 4) X dX9_plain_289 rfl rfl rfl ?_
    refine fp_X9_69 (pc' := 293) X hi dX9_plain_290 rfl ?_
    refine v_iconst (pc' := 294) (v := 0) X dX9_plain_293 (by decide) rfl ?_
    refine v_ireturn X R (Nat.zero_le _) (Nat.zero_le _) dX9_plain_294 ?_
    have hF : fPlain M n (tb i) 10 x y z = ((mI (mI (mI M (tb i + 10) ca (M.1 (tb i) 2)) (tb i) 3 (nI (ca + 1))) (tb i) 2 x), 0) := by
      show (if M.1 (tb i) 3 = 40 then _ else _) = _
      rw [h3]
      rw [if_neg hc_259]
      rw [nn_nI (by omega), nI_1 ca]
      try rfl
    rw [hF]
    exact ⟨rfl, rfl⟩
  -- not taken 259
  · refine v_bipush (pc' := 264) (v := (-2)) X dX9_plain_262 (by decide) rfl ?_
    refine v_ireturn X R (Nat.zero_le _) (Nat.zero_le _) dX9_plain_264 ?_
    have hF : fPlain M n (tb i) 10 x y z = (M, (-2)) := by
      show (if M.1 (tb i) 3 = 40 then _ else _) = _
      rw [h3]
      rw [if_pos hc_259]
    rw [hF]
    exact ⟨rfl, rfl⟩
set_option maxHeartbeats 4000000 in
set_option maxRecDepth 100000 in
theorem c_X9_plain_11 {l : Launch} {D : va_G} {Y : Nat → ClassId} {zz : Nat → Nat} {n sz us pd : Nat} {ad : Nat → Nat} {M : vM} {i ca e r w : Nat} (hi : i < n) (hg : gI M n sz us pd) (hts : ∀ i, i < n → ∃ ca e r w, tI M us (tb i) ca e r w) (hI : tI M us (tb i) ca e r w) {x y z : Int32} : Ct l D Y zz yX9_plain cX9_plain 7 (some FieldType.int) 0 0 [.ref (ad (0)), .ref (ad (tb i)), .int 11, .int x, .int y, .int z] (wM Y n ad M) 0 0 (fun r w => r = some (.int (fPlain M n (tb i) 11 x y z).2) ∧ w = wM Y n ad (fPlain M n (tb i) 11 x y z).1) := by
  refine v_entry (by decide +kernel) (Nat.le_of_ble_eq_true rfl) ?_
  intro K X R hR hnm hl hD hY hz
  subst hl hD hY hz
  refine v_sub (lv' := [(0, .ref (ad (0))), (1, .ref (ad (tb i))), (2, .int 11), (3, .int x), (4, .int y), (5, .int z)]) [0, 1, 2, 3, 4, 5] rfl ?_
  obtain ⟨hsz, hsz2, hn2, hn1, hn16, hus, hus2, hpd, hpd2, h17, hfs, hvi, hgl⟩ := id hg
  obtain ⟨h3, hca, h4, he, h5, hr, h6, hw, hso, huq, hct, hctm, hwt, hwtm, hwt0, hpk, hst, hem, hov, hrg, hsv, hrd, hwr, hva⟩ := id hI
  refine v_aload_n (pc' := 1) (i := 1) (j := 1) X dX9_plain_0 rfl rfl rfl ?_
  refine fg_X9_105 (pc' := 4) X hi dX9_plain_1 rfl ?_
  refine v_astore (pc' := 6) (lv' := [(6, .ref (ad (tb i + 8))), (0, .ref (ad (0))), (1, .ref (ad (tb i))), (2, .int 11), (3, .int x), (4, .int y), (5, .int z)]) X dX9_plain_4 (by decide) rfl rfl ?_
  refine v_iload_n (pc' := 7) (i := 2) (j := 3) X dX9_plain_6 rfl rfl rfl ?_
  refine v_tableIn (off := 288) (tgt := 295) X dX9_plain_7 (by decide) (by decide) (by decide) (by decide) ?_
  refine v_aload_n (pc' := 296) (i := 1) (j := 2) X dX9_plain_295 rfl rfl rfl ?_
  refine fg_X9_124 (pc' := 299) X hi (v := nI ca) h3 dX9_plain_296 rfl ?_
  refine v_aload_n (pc' := 300) (i := 1) (j := 2) X dX9_plain_299 rfl rfl rfl ?_
  refine fg_X9_121 (pc' := 303) X hi (v := nI e) h4 dX9_plain_300 rfl ?_
  refine v_if_ne (pc' := 306) (tgt := 310) X dX9_plain_303 (by decide) rfl (fun hc_303 => ?_) (fun hc_303 => ?_)
  -- taken 303
  · have he1 : 1 ≤ e := by
      rcases Nat.eq_zero_or_pos e with z9 | z9
      · exact absurd (congrArg nI z9) hc_303
      · exact z9
    refine v_aload_n (pc' := 311) (i := 1) (j := 2) X dX9_plain_310 rfl rfl rfl ?_
    refine fg_X9_130 (pc' := 314) X hi dX9_plain_311 rfl ?_
    refine v_aload_n (pc' := 315) (i := 1) (j := 2) X dX9_plain_314 rfl rfl rfl ?_
    refine fg_X9_121 (pc' := 318) X hi (v := nI e) h4 dX9_plain_315 rfl ?_
    refine v_iconst (pc' := 319) (v := 1) X dX9_plain_318 (by decide) rfl ?_
    refine v_isubV (pc' := 320) (v := nI (e - 1)) X (pk_sub (a := e) (b := 1) (by omega)) dX9_plain_319 rfl ?_
    refine ag_T13 (pc' := 321) X hi (v := nI ((nn (M.1 (tb i + 13) (e - 1))))) (e - 1) rfl (by omega) ((hct (e - 1) (by omega)).1) dX9_plain_320 rfl ?_
    refine v_icmp_ne (pc' := 324) (tgt := 327) X dX9_plain_321 (by decide) rfl (fun hc_321 => ?_) (fun hc_321 => ?_)
    -- taken 321
    · have hca1 : 1 ≤ ca := by
        rcases Nat.eq_zero_or_pos ca with z9 | z9
        · exact absurd (congrArg nI (show ca = nn (M.1 (tb i + 13) (e - 1)) by have := (hct (e - 1) (by omega)).2; omega)) hc_321
        · exact z9
      refine v_aload_n (pc' := 328) (i := 1) (j := 2) X dX9_plain_327 rfl rfl rfl ?_
      refine v_dup (pc' := 329) X dX9_plain_328 rfl rfl ?_
      refine fg_X9_124 (pc' := 332) X hi (v := nI ca) h3 dX9_plain_329 rfl ?_
      refine v_iconst (pc' := 333) (v := 1) X dX9_plain_332 (by decide) rfl ?_
      refine v_isubV (pc' := 334) (v := nI (ca - 1)) X (pk_sub (a := ca) (b := 1) (by omega)) dX9_plain_333 rfl ?_
      refine fp_X9_124 (pc' := 337) X hi dX9_plain_334 rfl ?_
      refine v_aload_n (pc' := 338) (i := 1) (j := 2) X dX9_plain_337 rfl rfl rfl ?_
      refine v_aload_n (pc' := 339) (i := 1) (j := 2) X dX9_plain_338 rfl rfl rfl ?_
      refine fg_X9_127 (pc' := 342) X hi dX9_plain_339 rfl ?_
      refine v_aload_n (pc' := 343) (i := 1) (j := 2) X dX9_plain_342 rfl rfl rfl ?_
      refine fg_X9_124 (pc' := 346) X hi (v := nI (ca - 1)) (mI_s _ _ _ _) dX9_plain_343 rfl ?_
      refine ag_T10 (pc' := 347) X hi (v := M.1 (tb i + 10) (ca - 1)) (ca - 1) rfl (by omega) (congrFun (mI_n _ _ _ _ (by omega)) _) dX9_plain_346 rfl ?_
      refine fp_X9_69 (pc' := 350) X hi dX9_plain_347 rfl ?_
      refine v_iconst (pc' := 351) (v := 0) X dX9_plain_350 (by decide) rfl ?_
      refine v_ireturn X R (Nat.zero_le _) (Nat.zero_le _) dX9_plain_351 ?_
      have hF : fPlain M n (tb i) 11 x y z = ((mI (mI M (tb i) 3 (nI (ca - 1))) (tb i) 2 (M.1 (tb i + 10) (ca - 1))), 0) := by
        show (if M.1 (tb i) 3 = fLim M (tb i) then _ else _) = _
        rw [h3]
        have hlim : fLim M (tb i) = nI (nn (M.1 (tb i + 13) (e - 1))) := by
          unfold fLim
          rw [h4]
          rw [if_neg hc_303, nn_nI (by omega)]
          exact (hct (e - 1) (by omega)).1
        rw [hlim]
        rw [if_neg hc_321]
        rw [show nI ca - 1 = nI (ca - 1) from pk_sub (a := ca) (b := 1) (by omega), nn_nI (by omega)]
      rw [hF]
      exact ⟨rfl, rfl⟩
    -- not taken 321
    · refine v_bipush (pc' := 326) (v := (-2)) X dX9_plain_324 (by decide) rfl ?_
      refine v_ireturn X R (Nat.zero_le _) (Nat.zero_le _) dX9_plain_326 ?_
      have hF : fPlain M n (tb i) 11 x y z = (M, (-2)) := by
        show (if M.1 (tb i) 3 = fLim M (tb i) then _ else _) = _
        rw [h3]
        have hlim : fLim M (tb i) = nI (nn (M.1 (tb i + 13) (e - 1))) := by
          unfold fLim
          rw [h4]
          rw [if_neg hc_303, nn_nI (by omega)]
          exact (hct (e - 1) (by omega)).1
        rw [hlim]
        rw [if_pos hc_321]
      rw [hF]
      exact ⟨rfl, rfl⟩
  -- not taken 303
  · refine v_iconst (pc' := 307) (v := 0) X dX9_plain_306 (by decide) rfl ?_
    refine v_goto (pc' := 321) X dX9_plain_307 (by decide) ?_
    refine v_icmp_ne (pc' := 324) (tgt := 327) X dX9_plain_321 (by decide) rfl (fun hc_321 => ?_) (fun hc_321 => ?_)
    -- taken 321
    · have hca1 : 1 ≤ ca := by
        rcases Nat.eq_zero_or_pos ca with z9 | z9
        · exact absurd (congrArg nI z9) hc_321
        · exact z9
      refine v_aload_n (pc' := 328) (i := 1) (j := 2) X dX9_plain_327 rfl rfl rfl ?_
      refine v_dup (pc' := 329) X dX9_plain_328 rfl rfl ?_
      refine fg_X9_124 (pc' := 332) X hi (v := nI ca) h3 dX9_plain_329 rfl ?_
      refine v_iconst (pc' := 333) (v := 1) X dX9_plain_332 (by decide) rfl ?_
      refine v_isubV (pc' := 334) (v := nI (ca - 1)) X (pk_sub (a := ca) (b := 1) (by omega)) dX9_plain_333 rfl ?_
      refine fp_X9_124 (pc' := 337) X hi dX9_plain_334 rfl ?_
      refine v_aload_n (pc' := 338) (i := 1) (j := 2) X dX9_plain_337 rfl rfl rfl ?_
      refine v_aload_n (pc' := 339) (i := 1) (j := 2) X dX9_plain_338 rfl rfl rfl ?_
      refine fg_X9_127 (pc' := 342) X hi dX9_plain_339 rfl ?_
      refine v_aload_n (pc' := 343) (i := 1) (j := 2) X dX9_plain_342 rfl rfl rfl ?_
      refine fg_X9_124 (pc' := 346) X hi (v := nI (ca - 1)) (mI_s _ _ _ _) dX9_plain_343 rfl ?_
      refine ag_T10 (pc' := 347) X hi (v := M.1 (tb i + 10) (ca - 1)) (ca - 1) rfl (by omega) (congrFun (mI_n _ _ _ _ (by omega)) _) dX9_plain_346 rfl ?_
      refine fp_X9_69 (pc' := 350) X hi dX9_plain_347 rfl ?_
      refine v_iconst (pc' := 351) (v := 0) X dX9_plain_350 (by decide) rfl ?_
      refine v_ireturn X R (Nat.zero_le _) (Nat.zero_le _) dX9_plain_351 ?_
      have hF : fPlain M n (tb i) 11 x y z = ((mI (mI M (tb i) 3 (nI (ca - 1))) (tb i) 2 (M.1 (tb i + 10) (ca - 1))), 0) := by
        show (if M.1 (tb i) 3 = fLim M (tb i) then _ else _) = _
        rw [h3]
        have hlim : fLim M (tb i) = 0 := by
          unfold fLim
          rw [h4]
          exact if_pos hc_303
        rw [hlim]
        rw [if_neg hc_321]
        rw [show nI ca - 1 = nI (ca - 1) from pk_sub (a := ca) (b := 1) (by omega), nn_nI (by omega)]
      rw [hF]
      exact ⟨rfl, rfl⟩
    -- not taken 321
    · refine v_bipush (pc' := 326) (v := (-2)) X dX9_plain_324 (by decide) rfl ?_
      refine v_ireturn X R (Nat.zero_le _) (Nat.zero_le _) dX9_plain_326 ?_
      have hF : fPlain M n (tb i) 11 x y z = (M, (-2)) := by
        show (if M.1 (tb i) 3 = fLim M (tb i) then _ else _) = _
        rw [h3]
        have hlim : fLim M (tb i) = 0 := by
          unfold fLim
          rw [h4]
          exact if_pos hc_303
        rw [hlim]
        rw [if_pos hc_321]
      rw [hF]
      exact ⟨rfl, rfl⟩
set_option maxHeartbeats 4000000 in
set_option maxRecDepth 100000 in
theorem c_X9_plain_12 {l : Launch} {D : va_G} {Y : Nat → ClassId} {zz : Nat → Nat} {n sz us pd : Nat} {ad : Nat → Nat} {M : vM} {i ca e r w : Nat} (hi : i < n) (hg : gI M n sz us pd) (hts : ∀ i, i < n → ∃ ca e r w, tI M us (tb i) ca e r w) (hI : tI M us (tb i) ca e r w) {x y z : Int32} (hx1 : x = nI (nn x)) (hx2 : nn x < 16) (hy1 : y = nI (nn y)) (hy2 : nn y < 16) (hz1 : z = nI (nn z)) (hz2 : nn z < 16) : Ct l D Y zz yX9_plain cX9_plain 7 (some FieldType.int) 6 138 [.ref (ad (0)), .ref (ad (tb i)), .int 12, .int x, .int y, .int z] (wM Y n ad M) 0 0 (fun r w => r = some (.int (fPlain M n (tb i) 12 x y z).2) ∧ w = wM Y n ad (fPlain M n (tb i) 12 x y z).1) := by
  refine v_entry (by decide +kernel) (Nat.le_of_ble_eq_true rfl) ?_
  intro K X R hR hnm hl hD hY hz
  subst hl hD hY hz
  refine v_sub (lv' := [(0, .ref (ad (0))), (1, .ref (ad (tb i))), (2, .int 12), (3, .int x), (4, .int y), (5, .int z)]) [0, 1, 2, 3, 4, 5] rfl ?_
  obtain ⟨hsz, hsz2, hn2, hn1, hn16, hus, hus2, hpd, hpd2, h17, hfs, hvi, hgl⟩ := id hg
  obtain ⟨h3, hca, h4, he, h5, hr, h6, hw, hso, huq, hct, hctm, hwt, hwtm, hwt0, hpk, hst, hem, hov, hrg, hsv, hrd, hwr, hva⟩ := id hI
  refine v_aload_n (pc' := 1) (i := 1) (j := 1) X dX9_plain_0 rfl rfl rfl ?_
  refine fg_X9_105 (pc' := 4) X hi dX9_plain_1 rfl ?_
  refine v_astore (pc' := 6) (lv' := [(6, .ref (ad (tb i + 8))), (0, .ref (ad (0))), (1, .ref (ad (tb i))), (2, .int 12), (3, .int x), (4, .int y), (5, .int z)]) X dX9_plain_4 (by decide) rfl rfl ?_
  refine v_iload_n (pc' := 7) (i := 2) (j := 3) X dX9_plain_6 rfl rfl rfl ?_
  refine v_tableIn (off := 345) (tgt := 352) X dX9_plain_7 (by decide) (by decide) (by decide) (by decide) ?_
  refine v_aload_n (pc' := 353) (i := 0) (j := 1) X dX9_plain_352 rfl rfl rfl ?_
  refine v_aload_n (pc' := 354) (i := 1) (j := 2) X dX9_plain_353 rfl rfl rfl ?_
  refine v_iload_n (pc' := 355) (i := 2) (j := 3) X dX9_plain_354 rfl rfl rfl ?_
  refine v_bipush (pc' := 357) (v := 12) X dX9_plain_355 (by decide) rfl ?_
  refine v_icmp_ne (pc' := 360) (tgt := 364) X dX9_plain_357 (by decide) rfl (fun hc_357 => absurd (by decide) hc_357) (fun _ => ?_)
  refine v_iconst (pc' := 361) (v := 1) X dX9_plain_360 (by decide) rfl ?_
  refine v_goto (pc' := 365) X dX9_plain_361 (by decide) ?_
  refine v_iload_n (pc' := 366) (i := 3) (j := 4) X dX9_plain_365 rfl rfl rfl ?_
  refine v_iload (pc' := 368) (j := 5) X dX9_plain_366 rfl rfl ?_
  refine v_iload (pc' := 370) (j := 6) X dX9_plain_368 rfl rfl ?_
  refine v_callV (pc' := 373) X (st := []) (c_X9_made_1 (M := M) hi hg hts hI hx1 hx2 hy1 hy2 hz1 hz2) k_X9_made w_ml_X9_133 w_im_X9_made w_se_X9_X9_made (rv_M) (by rw [hR]; exact ⟨Nat.le_of_ble_eq_true rfl, Nat.le_of_ble_eq_true rfl⟩) rfl rfl (Nat.le_of_ble_eq_true rfl) dX9_plain_370 rfl (⟨Nat.zero_le _, Nat.zero_le _⟩) ?_
  rintro _ _ ⟨rfl, rfl⟩
  refine v_ireturn X R (Nat.zero_le _) (Nat.zero_le _) dX9_plain_373 ?_
  have hF : fPlain M n (tb i) 12 x y z = ((fMade M n (tb i) true x y z).1, (fMade M n (tb i) true x y z).2) := rfl
  rw [hF]
  exact ⟨rfl, rfl⟩
set_option maxHeartbeats 4000000 in
set_option maxRecDepth 100000 in
theorem c_X9_plain_13 {l : Launch} {D : va_G} {Y : Nat → ClassId} {zz : Nat → Nat} {n sz us pd : Nat} {ad : Nat → Nat} {M : vM} {i ca e r w : Nat} (hi : i < n) (hg : gI M n sz us pd) (hts : ∀ i, i < n → ∃ ca e r w, tI M us (tb i) ca e r w) (hI : tI M us (tb i) ca e r w) {x y z : Int32} (hx1 : x = nI (nn x)) (hx2 : nn x < 16) (hy1 : y = nI (nn y)) (hy2 : nn y < 16) (hP : isP (M.2 (tb i + 8) (nn y))) : Ct l D Y zz yX9_plain cX9_plain 7 (some FieldType.int) 1 21 [.ref (ad (0)), .ref (ad (tb i)), .int 13, .int x, .int y, .int z] (wM Y n ad M) 0 0 (fun r w => r = some (.int (fPlain M n (tb i) 13 x y z).2) ∧ w = wM Y n ad (fPlain M n (tb i) 13 x y z).1) := by
  refine v_entry (by decide +kernel) (Nat.le_of_ble_eq_true rfl) ?_
  intro K X R hR hnm hl hD hY hz
  subst hl hD hY hz
  refine v_sub (lv' := [(0, .ref (ad (0))), (1, .ref (ad (tb i))), (2, .int 13), (3, .int x), (4, .int y), (5, .int z)]) [0, 1, 2, 3, 4, 5] rfl ?_
  obtain ⟨hsz, hsz2, hn2, hn1, hn16, hus, hus2, hpd, hpd2, h17, hfs, hvi, hgl⟩ := id hg
  obtain ⟨h3, hca, h4, he, h5, hr, h6, hw, hso, huq, hct, hctm, hwt, hwtm, hwt0, hpk, hst, hem, hov, hrg, hsv, hrd, hwr, hva⟩ := id hI
  obtain ⟨hp1, hp2⟩ := ((hrg (nn y) hy2).ok hus2).resolve_left (fun z9 => absurd z9 (Int64.not_lt.mpr hP.1))
  refine v_aload_n (pc' := 1) (i := 1) (j := 1) X dX9_plain_0 rfl rfl rfl ?_
  refine fg_X9_105 (pc' := 4) X hi dX9_plain_1 rfl ?_
  refine v_astore (pc' := 6) (lv' := [(6, .ref (ad (tb i + 8))), (0, .ref (ad (0))), (1, .ref (ad (tb i))), (2, .int 13), (3, .int x), (4, .int y), (5, .int z)]) X dX9_plain_4 (by decide) rfl rfl ?_
  refine v_iload_n (pc' := 7) (i := 2) (j := 3) X dX9_plain_6 rfl rfl rfl ?_
  refine v_tableIn (off := 367) (tgt := 374) X dX9_plain_7 (by decide) (by decide) (by decide) (by decide) ?_
  refine v_aload (pc' := 376) (j := 0) X dX9_plain_374 rfl rfl ?_
  refine v_iload_n (pc' := 377) (i := 3) (j := 4) X dX9_plain_376 rfl rfl rfl ?_
  refine v_aload_n (pc' := 378) (i := 0) (j := 1) X dX9_plain_377 rfl rfl rfl ?_
  refine fg_X9_36 (pc' := 381) X dX9_plain_378 rfl ?_
  refine v_aload (pc' := 383) (j := 0) X dX9_plain_381 rfl rfl ?_
  refine v_iload (pc' := 385) (j := 5) X dX9_plain_383 rfl rfl ?_
  refine ag_T8 (pc' := 386) X hi (v := M.2 (tb i + 8) (nn y)) (nn y) hy1 (by omega) rfl dX9_plain_385 rfl ?_
  refine v_callS (pc' := 389) X (st := [.ref (ad (15)), .int x, .ref (ad (tb i + 8))]) (c_X9_place (n := n) (ad := ad) (M := M) (v := M.2 (tb i + 8) (nn y))) k_X9_place w_ml_X9_137 w_st_X9_place (by rw [hR]; exact ⟨Nat.le_of_ble_eq_true rfl, Nat.le_of_ble_eq_true rfl⟩) rfl rfl (Nat.le_of_ble_eq_true rfl) dX9_plain_386 rfl (⟨Nat.zero_le _, Nat.zero_le _⟩) ?_
  rintro _ _ ⟨rfl, rfl⟩
  refine ag_M15 (pc' := 390) X (v := M.2 15 (pl (M.2 (tb i + 8) (nn y)))) (pl (M.2 (tb i + 8) (nn y))) hp2 (by omega) rfl dX9_plain_389 rfl ?_
  refine as_T8 (pc' := 391) X hi (nn x) hx1 (by omega) dX9_plain_390 rfl ?_
  refine v_iconst (pc' := 392) (v := 0) X dX9_plain_391 (by decide) rfl ?_
  refine v_ireturn X R (Nat.zero_le _) (Nat.zero_le _) dX9_plain_392 ?_
  have hF : fPlain M n (tb i) 13 x y z = ((mL M (tb i + 8) (nn x) (M.2 15 (pl (M.2 (tb i + 8) (nn y))))), 0) := rfl
  rw [hF]
  exact ⟨rfl, rfl⟩
set_option maxHeartbeats 4000000 in
set_option maxRecDepth 100000 in
theorem c_X9_plain_14 {l : Launch} {D : va_G} {Y : Nat → ClassId} {zz : Nat → Nat} {n sz us pd : Nat} {ad : Nat → Nat} {M : vM} {i ca e r w : Nat} (hi : i < n) (hg : gI M n sz us pd) (hts : ∀ i, i < n → ∃ ca e r w, tI M us (tb i) ca e r w) (hI : tI M us (tb i) ca e r w) {x y z : Int32} (hx1 : x = nI (nn x)) (hx2 : nn x < 16) (hy1 : y = nI (nn y)) (hy2 : nn y < 16) (hP : isP (M.2 (tb i + 8) (nn y))) : Ct l D Y zz yX9_plain cX9_plain 7 (some FieldType.int) 1 21 [.ref (ad (0)), .ref (ad (tb i)), .int 14, .int x, .int y, .int z] (wM Y n ad M) 0 0 (fun r w => r = some (.int (fPlain M n (tb i) 14 x y z).2) ∧ w = wM Y n ad (fPlain M n (tb i) 14 x y z).1) := by
  refine v_entry (by decide +kernel) (Nat.le_of_ble_eq_true rfl) ?_
  intro K X R hR hnm hl hD hY hz
  subst hl hD hY hz
  refine v_sub (lv' := [(0, .ref (ad (0))), (1, .ref (ad (tb i))), (2, .int 14), (3, .int x), (4, .int y), (5, .int z)]) [0, 1, 2, 3, 4, 5] rfl ?_
  obtain ⟨hsz, hsz2, hn2, hn1, hn16, hus, hus2, hpd, hpd2, h17, hfs, hvi, hgl⟩ := id hg
  obtain ⟨h3, hca, h4, he, h5, hr, h6, hw, hso, huq, hct, hctm, hwt, hwtm, hwt0, hpk, hst, hem, hov, hrg, hsv, hrd, hwr, hva⟩ := id hI
  obtain ⟨hp1, hp2⟩ := ((hrg (nn y) hy2).ok hus2).resolve_left (fun z9 => absurd z9 (Int64.not_lt.mpr hP.1))
  refine v_aload_n (pc' := 1) (i := 1) (j := 1) X dX9_plain_0 rfl rfl rfl ?_
  refine fg_X9_105 (pc' := 4) X hi dX9_plain_1 rfl ?_
  refine v_astore (pc' := 6) (lv' := [(6, .ref (ad (tb i + 8))), (0, .ref (ad (0))), (1, .ref (ad (tb i))), (2, .int 14), (3, .int x), (4, .int y), (5, .int z)]) X dX9_plain_4 (by decide) rfl rfl ?_
  refine v_iload_n (pc' := 7) (i := 2) (j := 3) X dX9_plain_6 rfl rfl rfl ?_
  refine v_tableIn (off := 386) (tgt := 393) X dX9_plain_7 (by decide) (by decide) (by decide) (by decide) ?_
  refine v_aload (pc' := 395) (j := 0) X dX9_plain_393 rfl rfl ?_
  refine v_iload_n (pc' := 396) (i := 3) (j := 4) X dX9_plain_395 rfl rfl rfl ?_
  refine v_aload_n (pc' := 397) (i := 0) (j := 1) X dX9_plain_396 rfl rfl rfl ?_
  refine fg_X9_39 (pc' := 400) X dX9_plain_397 rfl ?_
  refine v_aload (pc' := 402) (j := 0) X dX9_plain_400 rfl rfl ?_
  refine v_iload (pc' := 404) (j := 5) X dX9_plain_402 rfl rfl ?_
  refine ag_T8 (pc' := 405) X hi (v := M.2 (tb i + 8) (nn y)) (nn y) hy1 (by omega) rfl dX9_plain_404 rfl ?_
  refine v_callS (pc' := 408) X (st := [.ref (ad (16)), .int x, .ref (ad (tb i + 8))]) (c_X9_place (n := n) (ad := ad) (M := M) (v := M.2 (tb i + 8) (nn y))) k_X9_place w_ml_X9_137 w_st_X9_place (by rw [hR]; exact ⟨Nat.le_of_ble_eq_true rfl, Nat.le_of_ble_eq_true rfl⟩) rfl rfl (Nat.le_of_ble_eq_true rfl) dX9_plain_405 rfl (⟨Nat.zero_le _, Nat.zero_le _⟩) ?_
  rintro _ _ ⟨rfl, rfl⟩
  refine ag_M16 (pc' := 409) X (v := M.2 16 (pl (M.2 (tb i + 8) (nn y)))) (pl (M.2 (tb i + 8) (nn y))) hp2 (by omega) rfl dX9_plain_408 rfl ?_
  refine as_T8 (pc' := 410) X hi (nn x) hx1 (by omega) dX9_plain_409 rfl ?_
  refine v_iconst (pc' := 411) (v := 0) X dX9_plain_410 (by decide) rfl ?_
  refine v_ireturn X R (Nat.zero_le _) (Nat.zero_le _) dX9_plain_411 ?_
  have hF : fPlain M n (tb i) 14 x y z = ((mL M (tb i + 8) (nn x) (M.2 16 (pl (M.2 (tb i + 8) (nn y))))), 0) := rfl
  rw [hF]
  exact ⟨rfl, rfl⟩
set_option maxHeartbeats 4000000 in
set_option maxRecDepth 100000 in
theorem c_X9_plain_15 {l : Launch} {D : va_G} {Y : Nat → ClassId} {zz : Nat → Nat} {n sz us pd : Nat} {ad : Nat → Nat} {M : vM} {i ca e r w : Nat} (hi : i < n) (hg : gI M n sz us pd) (hts : ∀ i, i < n → ∃ ca e r w, tI M us (tb i) ca e r w) (hI : tI M us (tb i) ca e r w) {x y z : Int32} (hx1 : x = nI (nn x)) (hx2 : nn x < 16) (hy1 : y = nI (nn y)) (hy2 : nn y < 16) : Ct l D Y zz yX9_plain cX9_plain 7 (some FieldType.int) 6 138 [.ref (ad (0)), .ref (ad (tb i)), .int 15, .int x, .int y, .int z] (wM Y n ad M) 0 0 (fun r w => r = some (.int (fPlain M n (tb i) 15 x y z).2) ∧ w = wM Y n ad (fPlain M n (tb i) 15 x y z).1) := by
  refine v_entry (by decide +kernel) (Nat.le_of_ble_eq_true rfl) ?_
  intro K X R hR hnm hl hD hY hz
  subst hl hD hY hz
  refine v_sub (lv' := [(0, .ref (ad (0))), (1, .ref (ad (tb i))), (2, .int 15), (3, .int x), (4, .int y), (5, .int z)]) [0, 1, 2, 3, 4, 5] rfl ?_
  obtain ⟨hsz, hsz2, hn2, hn1, hn16, hus, hus2, hpd, hpd2, h17, hfs, hvi, hgl⟩ := id hg
  obtain ⟨h3, hca, h4, he, h5, hr, h6, hw, hso, huq, hct, hctm, hwt, hwtm, hwt0, hpk, hst, hem, hov, hrg, hsv, hrd, hwr, hva⟩ := id hI
  refine v_aload_n (pc' := 1) (i := 1) (j := 1) X dX9_plain_0 rfl rfl rfl ?_
  refine fg_X9_105 (pc' := 4) X hi dX9_plain_1 rfl ?_
  refine v_astore (pc' := 6) (lv' := [(6, .ref (ad (tb i + 8))), (0, .ref (ad (0))), (1, .ref (ad (tb i))), (2, .int 15), (3, .int x), (4, .int y), (5, .int z)]) X dX9_plain_4 (by decide) rfl rfl ?_
  refine v_iload_n (pc' := 7) (i := 2) (j := 3) X dX9_plain_6 rfl rfl rfl ?_
  refine v_tableIn (off := 345) (tgt := 352) X dX9_plain_7 (by decide) (by decide) (by decide) (by decide) ?_
  refine v_aload_n (pc' := 353) (i := 0) (j := 1) X dX9_plain_352 rfl rfl rfl ?_
  refine v_aload_n (pc' := 354) (i := 1) (j := 2) X dX9_plain_353 rfl rfl rfl ?_
  refine v_iload_n (pc' := 355) (i := 2) (j := 3) X dX9_plain_354 rfl rfl rfl ?_
  refine v_bipush (pc' := 357) (v := 12) X dX9_plain_355 (by decide) rfl ?_
  refine v_icmp_ne (pc' := 360) (tgt := 364) X dX9_plain_357 (by decide) rfl (fun _ => ?_) (fun hc_357 => absurd hc_357 (by decide))
  refine v_iconst (pc' := 365) (v := 0) X dX9_plain_364 (by decide) rfl ?_
  refine v_iload_n (pc' := 366) (i := 3) (j := 4) X dX9_plain_365 rfl rfl rfl ?_
  refine v_iload (pc' := 368) (j := 5) X dX9_plain_366 rfl rfl ?_
  refine v_iload (pc' := 370) (j := 6) X dX9_plain_368 rfl rfl ?_
  refine v_callV (pc' := 373) X (st := []) (c_X9_made_0 (M := M) hi hg hts hI hx1 hx2 hy1 hy2) k_X9_made w_ml_X9_133 w_im_X9_made w_se_X9_X9_made (rv_M) (by rw [hR]; exact ⟨Nat.le_of_ble_eq_true rfl, Nat.le_of_ble_eq_true rfl⟩) rfl rfl (Nat.le_of_ble_eq_true rfl) dX9_plain_370 rfl (⟨Nat.zero_le _, Nat.zero_le _⟩) ?_
  rintro _ _ ⟨rfl, rfl⟩
  refine v_ireturn X R (Nat.zero_le _) (Nat.zero_le _) dX9_plain_373 ?_
  have hF : fPlain M n (tb i) 15 x y z = ((fMade M n (tb i) false x y z).1, (fMade M n (tb i) false x y z).2) := rfl
  rw [hF]
  exact ⟨rfl, rfl⟩
set_option maxHeartbeats 4000000 in
set_option maxRecDepth 100000 in
theorem c_X9_plain_29 {l : Launch} {D : va_G} {Y : Nat → ClassId} {zz : Nat → Nat} {n sz us pd : Nat} {ad : Nat → Nat} {M : vM} {i ca e r w : Nat} (hi : i < n) (hg : gI M n sz us pd) (hts : ∀ i, i < n → ∃ ca e r w, tI M us (tb i) ca e r w) (hI : tI M us (tb i) ca e r w) {x y z : Int32} (hx1 : x = nI (nn x)) (hx2 : nn x < 16) (hy1 : y = nI (nn y)) (hy2 : nn y < 16) : Ct l D Y zz yX9_plain cX9_plain 7 (some FieldType.int) 1 21 [.ref (ad (0)), .ref (ad (tb i)), .int 29, .int x, .int y, .int z] (wM Y n ad M) 0 0 (fun r w => r = some (.int (fPlain M n (tb i) 29 x y z).2) ∧ w = wM Y n ad (fPlain M n (tb i) 29 x y z).1) := by
  refine v_entry (by decide +kernel) (Nat.le_of_ble_eq_true rfl) ?_
  intro K X R hR hnm hl hD hY hz
  subst hl hD hY hz
  refine v_sub (lv' := [(0, .ref (ad (0))), (1, .ref (ad (tb i))), (2, .int 29), (3, .int x), (4, .int y), (5, .int z)]) [0, 1, 2, 3, 4, 5] rfl ?_
  obtain ⟨hsz, hsz2, hn2, hn1, hn16, hus, hus2, hpd, hpd2, h17, hfs, hvi, hgl⟩ := id hg
  obtain ⟨h3, hca, h4, he, h5, hr, h6, hw, hso, huq, hct, hctm, hwt, hwtm, hwt0, hpk, hst, hem, hov, hrg, hsv, hrd, hwr, hva⟩ := id hI
  refine v_aload_n (pc' := 1) (i := 1) (j := 1) X dX9_plain_0 rfl rfl rfl ?_
  refine fg_X9_105 (pc' := 4) X hi dX9_plain_1 rfl ?_
  refine v_astore (pc' := 6) (lv' := [(6, .ref (ad (tb i + 8))), (0, .ref (ad (0))), (1, .ref (ad (tb i))), (2, .int 29), (3, .int x), (4, .int y), (5, .int z)]) X dX9_plain_4 (by decide) rfl rfl ?_
  refine v_iload_n (pc' := 7) (i := 2) (j := 3) X dX9_plain_6 rfl rfl rfl ?_
  refine v_tableOut (tgt := 412) X dX9_plain_7 (by decide) (by decide) ?_
  refine v_aload (pc' := 414) (j := 0) X dX9_plain_412 rfl rfl ?_
  refine v_iload_n (pc' := 415) (i := 3) (j := 4) X dX9_plain_414 rfl rfl rfl ?_
  refine v_aload (pc' := 417) (j := 0) X dX9_plain_415 rfl rfl ?_
  refine v_iload (pc' := 419) (j := 5) X dX9_plain_417 rfl rfl ?_
  refine ag_T8 (pc' := 420) X hi (v := M.2 (tb i + 8) (nn y)) (nn y) hy1 (by omega) rfl dX9_plain_419 rfl ?_
  refine v_callS (pc' := 423) X (st := [.int x, .ref (ad (tb i + 8))]) (c_X9_isInt (n := n) (ad := ad) (M := M) (v := M.2 (tb i + 8) (nn y))) k_X9_isInt w_ml_X9_108 w_st_X9_isInt (by rw [hR]; exact ⟨Nat.le_of_ble_eq_true rfl, Nat.le_of_ble_eq_true rfl⟩) rfl rfl (Nat.le_of_ble_eq_true rfl) dX9_plain_420 rfl (⟨Nat.zero_le _, Nat.zero_le _⟩) ?_
  rintro _ _ ⟨rfl, rfl⟩
  refine v_ifB_eq (pc' := 426) (tgt := 430) X dX9_plain_423 (by decide) rfl (fun hc_423 => ?_) (fun hc_423 => ?_)
  -- taken 423
  · refine v_aload (pc' := 432) (j := 0) X dX9_plain_430 rfl rfl ?_
    refine v_iload (pc' := 434) (j := 5) X dX9_plain_432 rfl rfl ?_
    refine ag_T8 (pc' := 435) X hi (v := M.2 (tb i + 8) (nn y)) (nn y) hy1 (by omega) rfl dX9_plain_434 rfl ?_
    refine v_callS (pc' := 438) X (st := [.int x, .ref (ad (tb i + 8))]) (c_X9_isPair (n := n) (ad := ad) (M := M) (v := M.2 (tb i + 8) (nn y))) k_X9_isPair w_ml_X9_112 w_st_X9_isPair (by rw [hR]; exact ⟨Nat.le_of_ble_eq_true rfl, Nat.le_of_ble_eq_true rfl⟩) rfl rfl (Nat.le_of_ble_eq_true rfl) dX9_plain_435 rfl (⟨Nat.zero_le _, Nat.zero_le _⟩) ?_
    rintro _ _ ⟨rfl, rfl⟩
    refine v_ifB_eq (pc' := 441) (tgt := 445) X dX9_plain_438 (by decide) rfl (fun hc_438 => ?_) (fun hc_438 => ?_)
    -- taken 438
    · refine v_ldc2 (pc' := 448) (v := 2) X dX9_plain_445 w_kl_X9_141 rfl ?_
      refine as_T8 (pc' := 449) X hi (nn x) hx1 (by omega) dX9_plain_448 rfl ?_
      refine v_iconst (pc' := 450) (v := 0) X dX9_plain_449 (by decide) rfl ?_
      refine v_ireturn X R (Nat.zero_le _) (Nat.zero_le _) dX9_plain_450 ?_
      have hF : fPlain M n (tb i) 29 x y z = ((mL M (tb i + 8) (nn x) 2), 0) := by
        show (mL M (tb i + 8) (nn x) (@ite _ (isI (rgx M (tb i) y)) (Classical.propDecidable _) 0 (@ite _ (isP (rgx M (tb i) y)) (Classical.propDecidable _) 1 2)), (0 : Int32)) = _
        rw [if_neg hc_423, if_neg hc_438]
      rw [hF]
      exact ⟨rfl, rfl⟩
    -- not taken 438
    · refine v_lconst (pc' := 442) (v := 1) X dX9_plain_441 (by decide) rfl ?_
      refine v_goto (pc' := 448) X dX9_plain_442 (by decide) ?_
      refine as_T8 (pc' := 449) X hi (nn x) hx1 (by omega) dX9_plain_448 rfl ?_
      refine v_iconst (pc' := 450) (v := 0) X dX9_plain_449 (by decide) rfl ?_
      refine v_ireturn X R (Nat.zero_le _) (Nat.zero_le _) dX9_plain_450 ?_
      have hF : fPlain M n (tb i) 29 x y z = ((mL M (tb i + 8) (nn x) 1), 0) := by
        show (mL M (tb i + 8) (nn x) (@ite _ (isI (rgx M (tb i) y)) (Classical.propDecidable _) 0 (@ite _ (isP (rgx M (tb i) y)) (Classical.propDecidable _) 1 2)), (0 : Int32)) = _
        rw [if_neg hc_423, if_pos hc_438]
      rw [hF]
      exact ⟨rfl, rfl⟩
  -- not taken 423
  · refine v_lconst (pc' := 427) (v := 0) X dX9_plain_426 (by decide) rfl ?_
    refine v_goto (pc' := 448) X dX9_plain_427 (by decide) ?_
    refine as_T8 (pc' := 449) X hi (nn x) hx1 (by omega) dX9_plain_448 rfl ?_
    refine v_iconst (pc' := 450) (v := 0) X dX9_plain_449 (by decide) rfl ?_
    refine v_ireturn X R (Nat.zero_le _) (Nat.zero_le _) dX9_plain_450 ?_
    have hF : fPlain M n (tb i) 29 x y z = ((mL M (tb i + 8) (nn x) 0), 0) := by
      show (mL M (tb i + 8) (nn x) (@ite _ (isI (rgx M (tb i) y)) (Classical.propDecidable _) 0 (@ite _ (isP (rgx M (tb i) y)) (Classical.propDecidable _) 1 2)), (0 : Int32)) = _
      rw [if_pos hc_423]
    rw [hF]
    exact ⟨rfl, rfl⟩
