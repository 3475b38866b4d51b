/-! KNOWN, instruction by instruction; STEP (reference) -/
theorem tI.wake {M : vM} {us b ca e r w : Nat} (hI : tI M us b ca e r w) (h : M.1 b 0 = 2) : canWake M b := by
  obtain ⟨h3, hca, h4, he, h5, hr, h6, hw, hso, huq, hct, hctm, hwt, hwtm, hwt0, hpk, hst, hem, hov, hrg, hsv, hrd, hwr, hva⟩ := hI
  obtain ⟨k, hk, h0⟩ := hpk h
  exact ⟨e, r, k, h4, he, h5, hr, hk, h0, tI.at huq hk h0⟩
theorem fFork_n {M : vM} {n b : Nat} {x y : Int32} (hn : M.1 0 2 = nI n) (hb : n ≤ 16) (h0 : 0 ≠ b) : nn ((fFork M n b x y).1 0 2) = if n = 16 then n else n + 1 := by
  unfold fFork
  by_cases h : n = 16
  · rw [if_pos h, if_pos h, mL_1, hn, nn_nI (by omega)]
  · rw [if_neg h, if_neg h, mI_s, nn_nI (by omega)]
set_option maxHeartbeats 4000000 in
set_option maxRecDepth 100000 in
theorem c_X9_known_0 {l : Launch} {D : va_G} {Y : Nat → ClassId} {zz : Nat → Nat} {n sz us pd : Nat} {ad : Nat → Nat} {M : vM} {i ca e r w : Nat} (hi : i < n) (hg : gI M n sz us pd) (hts : ∀ i, i < n → ∃ ca e r w, tI M us (tb i) ca e r w) (hI : tI M us (tb i) ca e r w) (hst1 : M.1 (tb i) 0 = 1) {x y z : Int32} : Ct l D Y zz yX9_known cX9_known 7 (some FieldType.int) 2 48 [.ref (ad (0)), .ref (ad (tb i)), .int 0, .int x, .int y, .int z] (wM Y n ad M) 0 0 (fun r w => r = some (.int (fKnown M n (tb i) 0 x y z).2) ∧ w = wM Y n ad (fKnown M n (tb i) 0 x y z).1) := by
  refine v_entry (by decide +kernel) (Nat.le_of_ble_eq_true rfl) ?_
  intro K X R hR hnm hl hD hY hz
  subst hl hD hY hz
  refine v_sub (lv' := [(0, .ref (ad (0))), (1, .ref (ad (tb i))), (2, .int 0), (3, .int x), (4, .int y), (5, .int z)]) [0, 1, 2, 3, 4, 5] rfl ?_
  obtain ⟨hsz, hsz2, hn2, hn1, hn16, hus, hus2, hpd, hpd2, h17, hfs, hvi, hgl⟩ := id hg
  obtain ⟨h3, hca, h4, he, h5, hr, h6, hw, hso, huq, hct, hctm, hwt, hwtm, hwt0, hpk, hst, hem, hov, hrg, hsv, hrd, hwr, hva⟩ := id hI
  refine v_iload_n (pc' := 1) (i := 2) (j := 2) X dX9_known_0 rfl rfl rfl ?_
  refine v_if_lt (pc' := 4) (tgt := 10) X dX9_known_1 (by decide) rfl (fun hc_1 => absurd hc_1 (by decide)) (fun _ => ?_)
  refine v_iload_n (pc' := 5) (i := 2) (j := 2) X dX9_known_4 rfl rfl rfl ?_
  refine v_bipush (pc' := 7) (v := 29) X dX9_known_5 (by decide) rfl ?_
  refine v_icmp_le (pc' := 10) (tgt := 12) X dX9_known_7 (by decide) rfl (fun _ => ?_) (fun hc_7 => absurd (by decide) hc_7)
  refine v_aload_n (pc' := 13) (i := 0) (j := 0) X dX9_known_12 rfl rfl rfl ?_
  refine v_aload_n (pc' := 14) (i := 1) (j := 1) X dX9_known_13 rfl rfl rfl ?_
  refine v_iload_n (pc' := 15) (i := 2) (j := 2) X dX9_known_14 rfl rfl rfl ?_
  refine v_iload_n (pc' := 16) (i := 3) (j := 3) X dX9_known_15 rfl rfl rfl ?_
  refine v_iload (pc' := 18) (j := 4) X dX9_known_16 rfl rfl ?_
  refine v_iload (pc' := 20) (j := 5) X dX9_known_18 rfl rfl ?_
  refine v_callV (pc' := 23) X (st := []) (c_X9_wrong_0 (M := M) hi (x := x) (y := y) (z := z)) k_X9_wrong w_ml_X9_83 w_im_X9_wrong w_se_X9_X9_wrong (rv_M) (by rw [hR]; exact ⟨Nat.le_of_ble_eq_true rfl, Nat.le_of_ble_eq_true rfl⟩) rfl rfl (Nat.le_of_ble_eq_true rfl) dX9_known_20 rfl (⟨Nat.zero_le _, Nat.zero_le _⟩) ?_
  rintro _ _ ⟨rfl, rfl⟩
  refine v_ifB_eq (pc' := 26) (tgt := 28) X dX9_known_23 (by decide) rfl (fun hc_23 => ?_) (fun hc_23 => ?_)
  -- taken 23
  · refine v_aload_n (pc' := 29) (i := 1) (j := 1) X dX9_known_28 rfl rfl rfl ?_
    refine v_callV (pc' := 32) X (st := []) (c_X8_atomic (M := M) hi (e := e) h4 he) k_X8_atomic w_ml_X9_87 w_im_X8_atomic w_se_X8_X8_atomic (rv_T hi) (by rw [hR]; exact ⟨Nat.le_of_ble_eq_true rfl, Nat.le_of_ble_eq_true rfl⟩) rfl rfl (Nat.le_of_ble_eq_true rfl) dX9_known_29 rfl (⟨Nat.zero_le _, Nat.zero_le _⟩) ?_
    rintro _ _ ⟨rfl, x9, rfl, hx9⟩
    rcases hx9 with ⟨k0, hk0, h0, hf0, rfl⟩ | ⟨hno, rfl⟩
    · have hin : fIn M (tb i) := ⟨k0, by rw [h4, nn_nI (by omega)]; exact hk0, h0⟩
      refine v_if_lt (pc' := 35) (tgt := 39) X dX9_known_32 (by decide) rfl (fun hc_32 => absurd hc_32 (nI_pos (by omega))) (fun _ => ?_)
      refine v_iconst (pc' := 36) (v := 1) X dX9_known_35 (by decide) rfl ?_
      refine v_goto (pc' := 40) X dX9_known_36 (by decide) ?_
      refine v_istore (pc' := 42) (lv' := [(6, .int 1), (0, .ref (ad (0))), (1, .ref (ad (tb i))), (2, .int 0), (3, .int x), (4, .int y), (5, .int z)]) X dX9_known_40 (by decide) rfl rfl ?_
      refine v_iload (pc' := 44) (j := 0) X dX9_known_42 rfl rfl ?_
      refine v_if_eq (pc' := 47) (tgt := 78) X dX9_known_44 (by decide) rfl (fun hc_44 => absurd hc_44 (by decide)) (fun _ => ?_)
      refine v_iload_n (pc' := 48) (i := 2) (j := 3) X dX9_known_47 rfl rfl rfl ?_
      refine v_if_eq (pc' := 51) (tgt := 75) X dX9_known_48 (by decide) rfl (fun _ => ?_) (fun hc_48 => absurd (by decide) hc_48)
      refine v_bipush (pc' := 77) (v := (-4)) X dX9_known_75 (by decide) rfl ?_
      refine v_ireturn X R (Nat.zero_le _) (Nat.zero_le _) dX9_known_77 ?_
      have hF : fKnown M n (tb i) 0 x y z = (M, (-4)) := by
        unfold fKnown
        rw [if_neg hc_23, if_pos hin]
        exact if_pos (by decide)
      rw [hF]
      exact ⟨rfl, rfl⟩
    · have hnin : ¬ fIn M (tb i) := fun z9 => by obtain ⟨q9, y9, y8⟩ := z9; rw [h4, nn_nI (by omega)] at y9; exact hno q9 y9 y8
      refine v_if_lt (pc' := 35) (tgt := 39) X dX9_known_32 (by decide) rfl (fun _ => ?_) (fun hc_32 => absurd (by decide) hc_32)
      refine v_iconst (pc' := 40) (v := 0) X dX9_known_39 (by decide) rfl ?_
      refine v_istore (pc' := 42) (lv' := [(6, .int 0), (0, .ref (ad (0))), (1, .ref (ad (tb i))), (2, .int 0), (3, .int x), (4, .int y), (5, .int z)]) X dX9_known_40 (by decide) rfl rfl ?_
      refine v_iload (pc' := 44) (j := 0) X dX9_known_42 rfl rfl ?_
      refine v_if_eq (pc' := 47) (tgt := 78) X dX9_known_44 (by decide) rfl (fun _ => ?_) (fun hc_44 => absurd (by decide) hc_44)
      refine v_iload (pc' := 80) (j := 0) X dX9_known_78 rfl rfl ?_
      refine v_if_ne (pc' := 83) (tgt := 116) X dX9_known_80 (by decide) rfl (fun hc_80 => absurd (by decide) hc_80) (fun _ => ?_)
      refine v_iload_n (pc' := 84) (i := 2) (j := 3) X dX9_known_83 rfl rfl rfl ?_
      refine v_bipush (pc' := 86) (v := 16) X dX9_known_84 (by decide) rfl ?_
      refine v_icmp_eq (pc' := 89) (tgt := 113) X dX9_known_86 (by decide) rfl (fun hc_86 => absurd hc_86 (by decide)) (fun _ => ?_)
      refine v_iload_n (pc' := 90) (i := 2) (j := 3) X dX9_known_89 rfl rfl rfl ?_
      refine v_bipush (pc' := 92) (v := 17) X dX9_known_90 (by decide) rfl ?_
      refine v_icmp_eq (pc' := 95) (tgt := 113) X dX9_known_92 (by decide) rfl (fun hc_92 => absurd hc_92 (by decide)) (fun _ => ?_)
      refine v_iload_n (pc' := 96) (i := 2) (j := 3) X dX9_known_95 rfl rfl rfl ?_
      refine v_bipush (pc' := 98) (v := 19) X dX9_known_96 (by decide) rfl ?_
      refine v_icmp_eq (pc' := 101) (tgt := 113) X dX9_known_98 (by decide) rfl (fun hc_98 => absurd hc_98 (by decide)) (fun _ => ?_)
      refine v_iload_n (pc' := 102) (i := 2) (j := 3) X dX9_known_101 rfl rfl rfl ?_
      refine v_bipush (pc' := 104) (v := 20) X dX9_known_102 (by decide) rfl ?_
      refine v_icmp_eq (pc' := 107) (tgt := 113) X dX9_known_104 (by decide) rfl (fun hc_104 => absurd hc_104 (by decide)) (fun _ => ?_)
      refine v_iload_n (pc' := 108) (i := 2) (j := 3) X dX9_known_107 rfl rfl rfl ?_
      refine v_bipush (pc' := 110) (v := 23) X dX9_known_108 (by decide) rfl ?_
      refine v_icmp_ne (pc' := 113) (tgt := 116) X dX9_known_110 (by decide) rfl (fun _ => ?_) (fun hc_110 => absurd hc_110 (by decide))
      refine v_iload_n (pc' := 117) (i := 2) (j := 3) X dX9_known_116 rfl rfl rfl ?_
      refine v_bipush (pc' := 119) (v := 15) X dX9_known_117 (by decide) rfl ?_
      refine v_icmp_le (pc' := 122) (tgt := 128) X dX9_known_119 (by decide) rfl (fun _ => ?_) (fun hc_119 => absurd (by decide) hc_119)
      refine v_aload_n (pc' := 129) (i := 0) (j := 1) X dX9_known_128 rfl rfl rfl ?_
      refine v_aload_n (pc' := 130) (i := 1) (j := 2) X dX9_known_129 rfl rfl rfl ?_
      refine v_iload_n (pc' := 131) (i := 2) (j := 3) X dX9_known_130 rfl rfl rfl ?_
      refine v_iload_n (pc' := 132) (i := 3) (j := 4) X dX9_known_131 rfl rfl rfl ?_
      refine v_iload (pc' := 134) (j := 5) X dX9_known_132 rfl rfl ?_
      refine v_iload (pc' := 136) (j := 6) X dX9_known_134 rfl rfl ?_
      refine v_callV (pc' := 139) X (st := []) (c_X9_plain_0 (M := M) hi hg hts hI (x := x) (y := y) (z := z)) k_X9_plain w_ml_X9_91 w_im_X9_plain w_se_X9_X9_plain (rv_M) (by rw [hR]; exact ⟨Nat.le_of_ble_eq_true rfl, Nat.le_of_ble_eq_true rfl⟩) rfl rfl (Nat.le_of_ble_eq_true rfl) dX9_known_136 rfl (⟨Nat.zero_le _, Nat.zero_le _⟩) ?_
      rintro _ _ ⟨rfl, rfl⟩
      refine v_ireturn X R (Nat.zero_le _) (Nat.zero_le _) dX9_known_139 ?_
      have hF : fKnown M n (tb i) 0 x y z = ((fPlain M n (tb i) 0 x y z).1, (fPlain M n (tb i) 0 x y z).2) := by
        unfold fKnown
        rw [if_neg hc_23, if_neg hnin]
        rw [if_neg (by decide)]
        unfold fRest
        rw [if_pos (by decide)]
      rw [hF]
      exact ⟨rfl, rfl⟩
  -- not taken 23
  · refine v_iconst (pc' := 27) (v := (-1)) X dX9_known_26 (by decide) rfl ?_
    refine v_ireturn X R (Nat.zero_le _) (Nat.zero_le _) dX9_known_27 ?_
    have hF : fKnown M n (tb i) 0 x y z = (M, (-1)) := by
      unfold fKnown
      exact if_pos hc_23
    rw [hF]
    exact ⟨rfl, rfl⟩
set_option maxHeartbeats 4000000 in
set_option maxRecDepth 100000 in
theorem c_X9_known_1 {l : Launch} {D : va_G} {Y : Nat → ClassId} {zz : Nat → Nat} {n sz us pd : Nat} {ad : Nat → Nat} {M : vM} {i ca e r w : Nat} (hi : i < n) (hg : gI M n sz us pd) (hts : ∀ i, i < n → ∃ ca e r w, tI M us (tb i) ca e r w) (hI : tI M us (tb i) ca e r w) (hst1 : M.1 (tb i) 0 = 1) {x y z : Int32} : Ct l D Y zz yX9_known cX9_known 7 (some FieldType.int) 2 47 [.ref (ad (0)), .ref (ad (tb i)), .int 1, .int x, .int y, .int z] (wM Y n ad M) 0 0 (fun r w => r = some (.int (fKnown M n (tb i) 1 x y z).2) ∧ w = wM Y n ad (fKnown M n (tb i) 1 x y z).1) := by
  refine v_entry (by decide +kernel) (Nat.le_of_ble_eq_true rfl) ?_
  intro K X R hR hnm hl hD hY hz
  subst hl hD hY hz
  refine v_sub (lv' := [(0, .ref (ad (0))), (1, .ref (ad (tb i))), (2, .int 1), (3, .int x), (4, .int y), (5, .int z)]) [0, 1, 2, 3, 4, 5] rfl ?_
  obtain ⟨hsz, hsz2, hn2, hn1, hn16, hus, hus2, hpd, hpd2, h17, hfs, hvi, hgl⟩ := id hg
  obtain ⟨h3, hca, h4, he, h5, hr, h6, hw, hso, huq, hct, hctm, hwt, hwtm, hwt0, hpk, hst, hem, hov, hrg, hsv, hrd, hwr, hva⟩ := id hI
  refine v_iload_n (pc' := 1) (i := 2) (j := 2) X dX9_known_0 rfl rfl rfl ?_
  refine v_if_lt (pc' := 4) (tgt := 10) X dX9_known_1 (by decide) rfl (fun hc_1 => absurd hc_1 (by decide)) (fun _ => ?_)
  refine v_iload_n (pc' := 5) (i := 2) (j := 2) X dX9_known_4 rfl rfl rfl ?_
  refine v_bipush (pc' := 7) (v := 29) X dX9_known_5 (by decide) rfl ?_
  refine v_icmp_le (pc' := 10) (tgt := 12) X dX9_known_7 (by decide) rfl (fun _ => ?_) (fun hc_7 => absurd (by decide) hc_7)
  refine v_aload_n (pc' := 13) (i := 0) (j := 0) X dX9_known_12 rfl rfl rfl ?_
  refine v_aload_n (pc' := 14) (i := 1) (j := 1) X dX9_known_13 rfl rfl rfl ?_
  refine v_iload_n (pc' := 15) (i := 2) (j := 2) X dX9_known_14 rfl rfl rfl ?_
  refine v_iload_n (pc' := 16) (i := 3) (j := 3) X dX9_known_15 rfl rfl rfl ?_
  refine v_iload (pc' := 18) (j := 4) X dX9_known_16 rfl rfl ?_
  refine v_iload (pc' := 20) (j := 5) X dX9_known_18 rfl rfl ?_
  refine v_callV (pc' := 23) X (st := []) (c_X9_wrong_1 (M := M) hi (x := x) (y := y) (z := z)) k_X9_wrong w_ml_X9_83 w_im_X9_wrong w_se_X9_X9_wrong (rv_M) (by rw [hR]; exact ⟨Nat.le_of_ble_eq_true rfl, Nat.le_of_ble_eq_true rfl⟩) rfl rfl (Nat.le_of_ble_eq_true rfl) dX9_known_20 rfl (⟨Nat.zero_le _, Nat.zero_le _⟩) ?_
  rintro _ _ ⟨rfl, rfl⟩
  refine v_ifB_eq (pc' := 26) (tgt := 28) X dX9_known_23 (by decide) rfl (fun hc_23 => ?_) (fun hc_23 => ?_)
  -- taken 23
  · refine v_aload_n (pc' := 29) (i := 1) (j := 1) X dX9_known_28 rfl rfl rfl ?_
    refine v_callV (pc' := 32) X (st := []) (c_X8_atomic (M := M) hi (e := e) h4 he) k_X8_atomic w_ml_X9_87 w_im_X8_atomic w_se_X8_X8_atomic (rv_T hi) (by rw [hR]; exact ⟨Nat.le_of_ble_eq_true rfl, Nat.le_of_ble_eq_true rfl⟩) rfl rfl (Nat.le_of_ble_eq_true rfl) dX9_known_29 rfl (⟨Nat.zero_le _, Nat.zero_le _⟩) ?_
    rintro _ _ ⟨rfl, x9, rfl, hx9⟩
    rcases hx9 with ⟨k0, hk0, h0, hf0, rfl⟩ | ⟨hno, rfl⟩
    · have hin : fIn M (tb i) := ⟨k0, by rw [h4, nn_nI (by omega)]; exact hk0, h0⟩
      refine v_if_lt (pc' := 35) (tgt := 39) X dX9_known_32 (by decide) rfl (fun hc_32 => absurd hc_32 (nI_pos (by omega))) (fun _ => ?_)
      refine v_iconst (pc' := 36) (v := 1) X dX9_known_35 (by decide) rfl ?_
      refine v_goto (pc' := 40) X dX9_known_36 (by decide) ?_
      refine v_istore (pc' := 42) (lv' := [(6, .int 1), (0, .ref (ad (0))), (1, .ref (ad (tb i))), (2, .int 1), (3, .int x), (4, .int y), (5, .int z)]) X dX9_known_40 (by decide) rfl rfl ?_
      refine v_iload (pc' := 44) (j := 0) X dX9_known_42 rfl rfl ?_
      refine v_if_eq (pc' := 47) (tgt := 78) X dX9_known_44 (by decide) rfl (fun hc_44 => absurd hc_44 (by decide)) (fun _ => ?_)
      refine v_iload_n (pc' := 48) (i := 2) (j := 3) X dX9_known_47 rfl rfl rfl ?_
      refine v_if_eq (pc' := 51) (tgt := 75) X dX9_known_48 (by decide) rfl (fun hc_48 => absurd hc_48 (by decide)) (fun _ => ?_)
      refine v_iload_n (pc' := 52) (i := 2) (j := 3) X dX9_known_51 rfl rfl rfl ?_
      refine v_bipush (pc' := 54) (v := 18) X dX9_known_52 (by decide) rfl ?_
      refine v_icmp_eq (pc' := 57) (tgt := 75) X dX9_known_54 (by decide) rfl (fun hc_54 => absurd hc_54 (by decide)) (fun _ => ?_)
      refine v_iload_n (pc' := 58) (i := 2) (j := 3) X dX9_known_57 rfl rfl rfl ?_
      refine v_bipush (pc' := 60) (v := 25) X dX9_known_58 (by decide) rfl ?_
      refine v_icmp_eq (pc' := 63) (tgt := 75) X dX9_known_60 (by decide) rfl (fun hc_60 => absurd hc_60 (by decide)) (fun _ => ?_)
      refine v_iload_n (pc' := 64) (i := 2) (j := 3) X dX9_known_63 rfl rfl rfl ?_
      refine v_bipush (pc' := 66) (v := 26) X dX9_known_64 (by decide) rfl ?_
      refine v_icmp_eq (pc' := 69) (tgt := 75) X dX9_known_66 (by decide) rfl (fun hc_66 => absurd hc_66 (by decide)) (fun _ => ?_)
      refine v_iload_n (pc' := 70) (i := 2) (j := 3) X dX9_known_69 rfl rfl rfl ?_
      refine v_bipush (pc' := 72) (v := 27) X dX9_known_70 (by decide) rfl ?_
      refine v_icmp_ne (pc' := 75) (tgt := 78) X dX9_known_72 (by decide) rfl (fun _ => ?_) (fun hc_72 => absurd hc_72 (by decide))
      refine v_iload (pc' := 80) (j := 0) X dX9_known_78 rfl rfl ?_
      refine v_if_ne (pc' := 83) (tgt := 116) X dX9_known_80 (by decide) rfl (fun _ => ?_) (fun hc_80 => absurd hc_80 (by decide))
      refine v_iload_n (pc' := 117) (i := 2) (j := 3) X dX9_known_116 rfl rfl rfl ?_
      refine v_bipush (pc' := 119) (v := 15) X dX9_known_117 (by decide) rfl ?_
      refine v_icmp_le (pc' := 122) (tgt := 128) X dX9_known_119 (by decide) rfl (fun _ => ?_) (fun hc_119 => absurd (by decide) hc_119)
      refine v_aload_n (pc' := 129) (i := 0) (j := 1) X dX9_known_128 rfl rfl rfl ?_
      refine v_aload_n (pc' := 130) (i := 1) (j := 2) X dX9_known_129 rfl rfl rfl ?_
      refine v_iload_n (pc' := 131) (i := 2) (j := 3) X dX9_known_130 rfl rfl rfl ?_
      refine v_iload_n (pc' := 132) (i := 3) (j := 4) X dX9_known_131 rfl rfl rfl ?_
      refine v_iload (pc' := 134) (j := 5) X dX9_known_132 rfl rfl ?_
      refine v_iload (pc' := 136) (j := 6) X dX9_known_134 rfl rfl ?_
      obtain ⟨hx1, hx2⟩ := nrg_not (fun z9 => hc_23 (z9))
      refine v_callV (pc' := 139) X (st := []) (c_X9_plain_1 (M := M) hi hg hts hI (x := x) (y := y) (z := z) hx1 hx2) k_X9_plain w_ml_X9_91 w_im_X9_plain w_se_X9_X9_plain (rv_M) (by rw [hR]; exact ⟨Nat.le_of_ble_eq_true rfl, Nat.le_of_ble_eq_true rfl⟩) rfl rfl (Nat.le_of_ble_eq_true rfl) dX9_known_136 rfl (⟨Nat.zero_le _, Nat.zero_le _⟩) ?_
      rintro _ _ ⟨rfl, rfl⟩
      refine v_ireturn X R (Nat.zero_le _) (Nat.zero_le _) dX9_known_139 ?_
      have hF : fKnown M n (tb i) 1 x y z = ((fPlain M n (tb i) 1 x y z).1, (fPlain M n (tb i) 1 x y z).2) := by
        unfold fKnown
        rw [if_neg hc_23, if_pos hin]
        rw [if_neg (by decide)]
        unfold fRest
        rw [if_pos (by decide)]
      rw [hF]
      exact ⟨rfl, rfl⟩
    · have hnin : ¬ fIn M (tb i) := fun z9 => by obtain ⟨q9, y9, y8⟩ := z9; rw [h4, nn_nI (by omega)] at y9; exact hno q9 y9 y8
      refine v_if_lt (pc' := 35) (tgt := 39) X dX9_known_32 (by decide) rfl (fun _ => ?_) (fun hc_32 => absurd (by decide) hc_32)
      refine v_iconst (pc' := 40) (v := 0) X dX9_known_39 (by decide) rfl ?_
      refine v_istore (pc' := 42) (lv' := [(6, .int 0), (0, .ref (ad (0))), (1, .ref (ad (tb i))), (2, .int 1), (3, .int x), (4, .int y), (5, .int z)]) X dX9_known_40 (by decide) rfl rfl ?_
      refine v_iload (pc' := 44) (j := 0) X dX9_known_42 rfl rfl ?_
      refine v_if_eq (pc' := 47) (tgt := 78) X dX9_known_44 (by decide) rfl (fun _ => ?_) (fun hc_44 => absurd (by decide) hc_44)
      refine v_iload (pc' := 80) (j := 0) X dX9_known_78 rfl rfl ?_
      refine v_if_ne (pc' := 83) (tgt := 116) X dX9_known_80 (by decide) rfl (fun hc_80 => absurd (by decide) hc_80) (fun _ => ?_)
      refine v_iload_n (pc' := 84) (i := 2) (j := 3) X dX9_known_83 rfl rfl rfl ?_
      refine v_bipush (pc' := 86) (v := 16) X dX9_known_84 (by decide) rfl ?_
      refine v_icmp_eq (pc' := 89) (tgt := 113) X dX9_known_86 (by decide) rfl (fun hc_86 => absurd hc_86 (by decide)) (fun _ => ?_)
      refine v_iload_n (pc' := 90) (i := 2) (j := 3) X dX9_known_89 rfl rfl rfl ?_
      refine v_bipush (pc' := 92) (v := 17) X dX9_known_90 (by decide) rfl ?_
      refine v_icmp_eq (pc' := 95) (tgt := 113) X dX9_known_92 (by decide) rfl (fun hc_92 => absurd hc_92 (by decide)) (fun _ => ?_)
      refine v_iload_n (pc' := 96) (i := 2) (j := 3) X dX9_known_95 rfl rfl rfl ?_
      refine v_bipush (pc' := 98) (v := 19) X dX9_known_96 (by decide) rfl ?_
      refine v_icmp_eq (pc' := 101) (tgt := 113) X dX9_known_98 (by decide) rfl (fun hc_98 => absurd hc_98 (by decide)) (fun _ => ?_)
      refine v_iload_n (pc' := 102) (i := 2) (j := 3) X dX9_known_101 rfl rfl rfl ?_
      refine v_bipush (pc' := 104) (v := 20) X dX9_known_102 (by decide) rfl ?_
      refine v_icmp_eq (pc' := 107) (tgt := 113) X dX9_known_104 (by decide) rfl (fun hc_104 => absurd hc_104 (by decide)) (fun _ => ?_)
      refine v_iload_n (pc' := 108) (i := 2) (j := 3) X dX9_known_107 rfl rfl rfl ?_
      refine v_bipush (pc' := 110) (v := 23) X dX9_known_108 (by decide) rfl ?_
      refine v_icmp_ne (pc' := 113) (tgt := 116) X dX9_known_110 (by decide) rfl (fun _ => ?_) (fun hc_110 => absurd hc_110 (by decide))
      refine v_iload_n (pc' := 117) (i := 2) (j := 3) X dX9_known_116 rfl rfl rfl ?_
      refine v_bipush (pc' := 119) (v := 15) X dX9_known_117 (by decide) rfl ?_
      refine v_icmp_le (pc' := 122) (tgt := 128) X dX9_known_119 (by decide) rfl (fun _ => ?_) (fun hc_119 => absurd (by decide) hc_119)
      refine v_aload_n (pc' := 129) (i := 0) (j := 1) X dX9_known_128 rfl rfl rfl ?_
      refine v_aload_n (pc' := 130) (i := 1) (j := 2) X dX9_known_129 rfl rfl rfl ?_
      refine v_iload_n (pc' := 131) (i := 2) (j := 3) X dX9_known_130 rfl rfl rfl ?_
      refine v_iload_n (pc' := 132) (i := 3) (j := 4) X dX9_known_131 rfl rfl rfl ?_
      refine v_iload (pc' := 134) (j := 5) X dX9_known_132 rfl rfl ?_
      refine v_iload (pc' := 136) (j := 6) X dX9_known_134 rfl rfl ?_
      obtain ⟨hx1, hx2⟩ := nrg_not (fun z9 => hc_23 (z9))
      refine v_callV (pc' := 139) X (st := []) (c_X9_plain_1 (M := M) hi hg hts hI (x := x) (y := y) (z := z) hx1 hx2) k_X9_plain w_ml_X9_91 w_im_X9_plain w_se_X9_X9_plain (rv_M) (by rw [hR]; exact ⟨Nat.le_of_ble_eq_true rfl, Nat.le_of_ble_eq_true rfl⟩) rfl rfl (Nat.le_of_ble_eq_true rfl) dX9_known_136 rfl (⟨Nat.zero_le _, Nat.zero_le _⟩) ?_
      rintro _ _ ⟨rfl, rfl⟩
      refine v_ireturn X R (Nat.zero_le _) (Nat.zero_le _) dX9_known_139 ?_
      have hF : fKnown M n (tb i) 1 x y z = ((fPlain M n (tb i) 1 x y z).1, (fPlain M n (tb i) 1 x y z).2) := by
        unfold fKnown
        rw [if_neg hc_23, if_neg hnin]
        rw [if_neg (by decide)]
        unfold fRest
        rw [if_pos (by decide)]
      rw [hF]
      exact ⟨rfl, rfl⟩
  -- not taken 23
  · refine v_iconst (pc' := 27) (v := (-1)) X dX9_known_26 (by decide) rfl ?_
    refine v_ireturn X R (Nat.zero_le _) (Nat.zero_le _) dX9_known_27 ?_
    have hF : fKnown M n (tb i) 1 x y z = (M, (-1)) := by
      unfold fKnown
      exact if_pos hc_23
    rw [hF]
    exact ⟨rfl, rfl⟩
set_option maxHeartbeats 4000000 in
set_option maxRecDepth 100000 in
theorem c_X9_known_2 {l : Launch} {D : va_G} {Y : Nat → ClassId} {zz : Nat → Nat} {n sz us pd : Nat} {ad : Nat → Nat} {M : vM} {i ca e r w : Nat} (hi : i < n) (hg : gI M n sz us pd) (hts : ∀ i, i < n → ∃ ca e r w, tI M us (tb i) ca e r w) (hI : tI M us (tb i) ca e r w) (hst1 : M.1 (tb i) 0 = 1) {x y z : Int32} : Ct l D Y zz yX9_known cX9_known 7 (some FieldType.int) 2 47 [.ref (ad (0)), .ref (ad (tb i)), .int 2, .int x, .int y, .int z] (wM Y n ad M) 0 0 (fun r w => r = some (.int (fKnown M n (tb i) 2 x y z).2) ∧ w = wM Y n ad (fKnown M n (tb i) 2 x y z).1) := by
  refine v_entry (by decide +kernel) (Nat.le_of_ble_eq_true rfl) ?_
  intro K X R hR hnm hl hD hY hz
  subst hl hD hY hz
  refine v_sub (lv' := [(0, .ref (ad (0))), (1, .ref (ad (tb i))), (2, .int 2), (3, .int x), (4, .int y), (5, .int z)]) [0, 1, 2, 3, 4, 5] rfl ?_
  obtain ⟨hsz, hsz2, hn2, hn1, hn16, hus, hus2, hpd, hpd2, h17, hfs, hvi, hgl⟩ := id hg
  obtain ⟨h3, hca, h4, he, h5, hr, h6, hw, hso, huq, hct, hctm, hwt, hwtm, hwt0, hpk, hst, hem, hov, hrg, hsv, hrd, hwr, hva⟩ := id hI
  refine v_iload_n (pc' := 1) (i := 2) (j := 2) X dX9_known_0 rfl rfl rfl ?_
  refine v_if_lt (pc' := 4) (tgt := 10) X dX9_known_1 (by decide) rfl (fun hc_1 => absurd hc_1 (by decide)) (fun _ => ?_)
  refine v_iload_n (pc' := 5) (i := 2) (j := 2) X dX9_known_4 rfl rfl rfl ?_
  refine v_bipush (pc' := 7) (v := 29) X dX9_known_5 (by decide) rfl ?_
  refine v_icmp_le (pc' := 10) (tgt := 12) X dX9_known_7 (by decide) rfl (fun _ => ?_) (fun hc_7 => absurd (by decide) hc_7)
  refine v_aload_n (pc' := 13) (i := 0) (j := 0) X dX9_known_12 rfl rfl rfl ?_
  refine v_aload_n (pc' := 14) (i := 1) (j := 1) X dX9_known_13 rfl rfl rfl ?_
  refine v_iload_n (pc' := 15) (i := 2) (j := 2) X dX9_known_14 rfl rfl rfl ?_
  refine v_iload_n (pc' := 16) (i := 3) (j := 3) X dX9_known_15 rfl rfl rfl ?_
  refine v_iload (pc' := 18) (j := 4) X dX9_known_16 rfl rfl ?_
  refine v_iload (pc' := 20) (j := 5) X dX9_known_18 rfl rfl ?_
  refine v_callV (pc' := 23) X (st := []) (c_X9_wrong_2 (M := M) hi (x := x) (y := y) (z := z)) k_X9_wrong w_ml_X9_83 w_im_X9_wrong w_se_X9_X9_wrong (rv_M) (by rw [hR]; exact ⟨Nat.le_of_ble_eq_true rfl, Nat.le_of_ble_eq_true rfl⟩) rfl rfl (Nat.le_of_ble_eq_true rfl) dX9_known_20 rfl (⟨Nat.zero_le _, Nat.zero_le _⟩) ?_
  rintro _ _ ⟨rfl, rfl⟩
  refine v_ifB_eq (pc' := 26) (tgt := 28) X dX9_known_23 (by decide) rfl (fun hc_23 => ?_) (fun hc_23 => ?_)
  -- taken 23
  · refine v_aload_n (pc' := 29) (i := 1) (j := 1) X dX9_known_28 rfl rfl rfl ?_
    refine v_callV (pc' := 32) X (st := []) (c_X8_atomic (M := M) hi (e := e) h4 he) k_X8_atomic w_ml_X9_87 w_im_X8_atomic w_se_X8_X8_atomic (rv_T hi) (by rw [hR]; exact ⟨Nat.le_of_ble_eq_true rfl, Nat.le_of_ble_eq_true rfl⟩) rfl rfl (Nat.le_of_ble_eq_true rfl) dX9_known_29 rfl (⟨Nat.zero_le _, Nat.zero_le _⟩) ?_
    rintro _ _ ⟨rfl, x9, rfl, hx9⟩
    rcases hx9 with ⟨k0, hk0, h0, hf0, rfl⟩ | ⟨hno, rfl⟩
    · have hin : fIn M (tb i) := ⟨k0, by rw [h4, nn_nI (by omega)]; exact hk0, h0⟩
      refine v_if_lt (pc' := 35) (tgt := 39) X dX9_known_32 (by decide) rfl (fun hc_32 => absurd hc_32 (nI_pos (by omega))) (fun _ => ?_)
      refine v_iconst (pc' := 36) (v := 1) X dX9_known_35 (by decide) rfl ?_
      refine v_goto (pc' := 40) X dX9_known_36 (by decide) ?_
      refine v_istore (pc' := 42) (lv' := [(6, .int 1), (0, .ref (ad (0))), (1, .ref (ad (tb i))), (2, .int 2), (3, .int x), (4, .int y), (5, .int z)]) X dX9_known_40 (by decide) rfl rfl ?_
      refine v_iload (pc' := 44) (j := 0) X dX9_known_42 rfl rfl ?_
      refine v_if_eq (pc' := 47) (tgt := 78) X dX9_known_44 (by decide) rfl (fun hc_44 => absurd hc_44 (by decide)) (fun _ => ?_)
      refine v_iload_n (pc' := 48) (i := 2) (j := 3) X dX9_known_47 rfl rfl rfl ?_
      refine v_if_eq (pc' := 51) (tgt := 75) X dX9_known_48 (by decide) rfl (fun hc_48 => absurd hc_48 (by decide)) (fun _ => ?_)
      refine v_iload_n (pc' := 52) (i := 2) (j := 3) X dX9_known_51 rfl rfl rfl ?_
      refine v_bipush (pc' := 54) (v := 18) X dX9_known_52 (by decide) rfl ?_
      refine v_icmp_eq (pc' := 57) (tgt := 75) X dX9_known_54 (by decide) rfl (fun hc_54 => absurd hc_54 (by decide)) (fun _ => ?_)
      refine v_iload_n (pc' := 58) (i := 2) (j := 3) X dX9_known_57 rfl rfl rfl ?_
      refine v_bipush (pc' := 60) (v := 25) X dX9_known_58 (by decide) rfl ?_
      refine v_icmp_eq (pc' := 63) (tgt := 75) X dX9_known_60 (by decide) rfl (fun hc_60 => absurd hc_60 (by decide)) (fun _ => ?_)
      refine v_iload_n (pc' := 64) (i := 2) (j := 3) X dX9_known_63 rfl rfl rfl ?_
      refine v_bipush (pc' := 66) (v := 26) X dX9_known_64 (by decide) rfl ?_
      refine v_icmp_eq (pc' := 69) (tgt := 75) X dX9_known_66 (by decide) rfl (fun hc_66 => absurd hc_66 (by decide)) (fun _ => ?_)
      refine v_iload_n (pc' := 70) (i := 2) (j := 3) X dX9_known_69 rfl rfl rfl ?_
      refine v_bipush (pc' := 72) (v := 27) X dX9_known_70 (by decide) rfl ?_
      refine v_icmp_ne (pc' := 75) (tgt := 78) X dX9_known_72 (by decide) rfl (fun _ => ?_) (fun hc_72 => absurd hc_72 (by decide))
      refine v_iload (pc' := 80) (j := 0) X dX9_known_78 rfl rfl ?_
      refine v_if_ne (pc' := 83) (tgt := 116) X dX9_known_80 (by decide) rfl (fun _ => ?_) (fun hc_80 => absurd hc_80 (by decide))
      refine v_iload_n (pc' := 117) (i := 2) (j := 3) X dX9_known_116 rfl rfl rfl ?_
      refine v_bipush (pc' := 119) (v := 15) X dX9_known_117 (by decide) rfl ?_
      refine v_icmp_le (pc' := 122) (tgt := 128) X dX9_known_119 (by decide) rfl (fun _ => ?_) (fun hc_119 => absurd (by decide) hc_119)
      refine v_aload_n (pc' := 129) (i := 0) (j := 1) X dX9_known_128 rfl rfl rfl ?_
      refine v_aload_n (pc' := 130) (i := 1) (j := 2) X dX9_known_129 rfl rfl rfl ?_
      refine v_iload_n (pc' := 131) (i := 2) (j := 3) X dX9_known_130 rfl rfl rfl ?_
      refine v_iload_n (pc' := 132) (i := 3) (j := 4) X dX9_known_131 rfl rfl rfl ?_
      refine v_iload (pc' := 134) (j := 5) X dX9_known_132 rfl rfl ?_
      refine v_iload (pc' := 136) (j := 6) X dX9_known_134 rfl rfl ?_
      obtain ⟨hx1, hx2⟩ := nrg_not (fun z9 => hc_23 (Or.inl (z9)))
      obtain ⟨hy1, hy2⟩ := nrg_not (fun z9 => hc_23 (Or.inr (z9)))
      refine v_callV (pc' := 139) X (st := []) (c_X9_plain_2 (M := M) hi hg hts hI (x := x) (y := y) (z := z) hx1 hx2 hy1 hy2) k_X9_plain w_ml_X9_91 w_im_X9_plain w_se_X9_X9_plain (rv_M) (by rw [hR]; exact ⟨Nat.le_of_ble_eq_true rfl, Nat.le_of_ble_eq_true rfl⟩) rfl rfl (Nat.le_of_ble_eq_true rfl) dX9_known_136 rfl (⟨Nat.zero_le _, Nat.zero_le _⟩) ?_
      rintro _ _ ⟨rfl, rfl⟩
      refine v_ireturn X R (Nat.zero_le _) (Nat.zero_le _) dX9_known_139 ?_
      have hF : fKnown M n (tb i) 2 x y z = ((fPlain M n (tb i) 2 x y z).1, (fPlain M n (tb i) 2 x y z).2) := by
        unfold fKnown
        rw [if_neg hc_23, if_pos hin]
        rw [if_neg (by decide)]
        unfold fRest
        rw [if_pos (by decide)]
      rw [hF]
      exact ⟨rfl, rfl⟩
    · have hnin : ¬ fIn M (tb i) := fun z9 => by obtain ⟨q9, y9, y8⟩ := z9; rw [h4, nn_nI (by omega)] at y9; exact hno q9 y9 y8
      refine v_if_lt (pc' := 35) (tgt := 39) X dX9_known_32 (by decide) rfl (fun _ => ?_) (fun hc_32 => absurd (by decide) hc_32)
      refine v_iconst (pc' := 40) (v := 0) X dX9_known_39 (by decide) rfl ?_
      refine v_istore (pc' := 42) (lv' := [(6, .int 0), (0, .ref (ad (0))), (1, .ref (ad (tb i))), (2, .int 2), (3, .int x), (4, .int y), (5, .int z)]) X dX9_known_40 (by decide) rfl rfl ?_
      refine v_iload (pc' := 44) (j := 0) X dX9_known_42 rfl rfl ?_
      refine v_if_eq (pc' := 47) (tgt := 78) X dX9_known_44 (by decide) rfl (fun _ => ?_) (fun hc_44 => absurd (by decide) hc_44)
      refine v_iload (pc' := 80) (j := 0) X dX9_known_78 rfl rfl ?_
      refine v_if_ne (pc' := 83) (tgt := 116) X dX9_known_80 (by decide) rfl (fun hc_80 => absurd (by decide) hc_80) (fun _ => ?_)
      refine v_iload_n (pc' := 84) (i := 2) (j := 3) X dX9_known_83 rfl rfl rfl ?_
      refine v_bipush (pc' := 86) (v := 16) X dX9_known_84 (by decide) rfl ?_
      refine v_icmp_eq (pc' := 89) (tgt := 113) X dX9_known_86 (by decide) rfl (fun hc_86 => absurd hc_86 (by decide)) (fun _ => ?_)
      refine v_iload_n (pc' := 90) (i := 2) (j := 3) X dX9_known_89 rfl rfl rfl ?_
      refine v_bipush (pc' := 92) (v := 17) X dX9_known_90 (by decide) rfl ?_
      refine v_icmp_eq (pc' := 95) (tgt := 113) X dX9_known_92 (by decide) rfl (fun hc_92 => absurd hc_92 (by decide)) (fun _ => ?_)
      refine v_iload_n (pc' := 96) (i := 2) (j := 3) X dX9_known_95 rfl rfl rfl ?_
      refine v_bipush (pc' := 98) (v := 19) X dX9_known_96 (by decide) rfl ?_
      refine v_icmp_eq (pc' := 101) (tgt := 113) X dX9_known_98 (by decide) rfl (fun hc_98 => absurd hc_98 (by decide)) (fun _ => ?_)
      refine v_iload_n (pc' := 102) (i := 2) (j := 3) X dX9_known_101 rfl rfl rfl ?_
      refine v_bipush (pc' := 104) (v := 20) X dX9_known_102 (by decide) rfl ?_
      refine v_icmp_eq (pc' := 107) (tgt := 113) X dX9_known_104 (by decide) rfl (fun hc_104 => absurd hc_104 (by decide)) (fun _ => ?_)
      refine v_iload_n (pc' := 108) (i := 2) (j := 3) X dX9_known_107 rfl rfl rfl ?_
      refine v_bipush (pc' := 110) (v := 23) X dX9_known_108 (by decide) rfl ?_
      refine v_icmp_ne (pc' := 113) (tgt := 116) X dX9_known_110 (by decide) rfl (fun _ => ?_) (fun hc_110 => absurd hc_110 (by decide))
      refine v_iload_n (pc' := 117) (i := 2) (j := 3) X dX9_known_116 rfl rfl rfl ?_
      refine v_bipush (pc' := 119) (v := 15) X dX9_known_117 (by decide) rfl ?_
      refine v_icmp_le (pc' := 122) (tgt := 128) X dX9_known_119 (by decide) rfl (fun _ => ?_) (fun hc_119 => absurd (by decide) hc_119)
      refine v_aload_n (pc' := 129) (i := 0) (j := 1) X dX9_known_128 rfl rfl rfl ?_
      refine v_aload_n (pc' := 130) (i := 1) (j := 2) X dX9_known_129 rfl rfl rfl ?_
      refine v_iload_n (pc' := 131) (i := 2) (j := 3) X dX9_known_130 rfl rfl rfl ?_
      refine v_iload_n (pc' := 132) (i := 3) (j := 4) X dX9_known_131 rfl rfl rfl ?_
      refine v_iload (pc' := 134) (j := 5) X dX9_known_132 rfl rfl ?_
      refine v_iload (pc' := 136) (j := 6) X dX9_known_134 rfl rfl ?_
      obtain ⟨hx1, hx2⟩ := nrg_not (fun z9 => hc_23 (Or.inl (z9)))
      obtain ⟨hy1, hy2⟩ := nrg_not (fun z9 => hc_23 (Or.inr (z9)))
      refine v_callV (pc' := 139) X (st := []) (c_X9_plain_2 (M := M) hi hg hts hI (x := x) (y := y) (z := z) hx1 hx2 hy1 hy2) k_X9_plain w_ml_X9_91 w_im_X9_plain w_se_X9_X9_plain (rv_M) (by rw [hR]; exact ⟨Nat.le_of_ble_eq_true rfl, Nat.le_of_ble_eq_true rfl⟩) rfl rfl (Nat.le_of_ble_eq_true rfl) dX9_known_136 rfl (⟨Nat.zero_le _, Nat.zero_le _⟩) ?_
      rintro _ _ ⟨rfl, rfl⟩
      refine v_ireturn X R (Nat.zero_le _) (Nat.zero_le _) dX9_known_139 ?_
      have hF : fKnown M n (tb i) 2 x y z = ((fPlain M n (tb i) 2 x y z).1, (fPlain M n (tb i) 2 x y z).2) := by
        unfold fKnown
        rw [if_neg hc_23, if_neg hnin]
        rw [if_neg (by decide)]
        unfold fRest
        rw [if_pos (by decide)]
      rw [hF]
      exact ⟨rfl, rfl⟩
  -- not taken 23
  · refine v_iconst (pc' := 27) (v := (-1)) X dX9_known_26 (by decide) rfl ?_
    refine v_ireturn X R (Nat.zero_le _) (Nat.zero_le _) dX9_known_27 ?_
    have hF : fKnown M n (tb i) 2 x y z = (M, (-1)) := by
      unfold fKnown
      exact if_pos hc_23
    rw [hF]
    exact ⟨rfl, rfl⟩
set_option maxHeartbeats 4000000 in
set_option maxRecDepth 100000 in
theorem c_X9_known_3 {l : Launch} {D : va_G} {Y : Nat → ClassId} {zz : Nat → Nat} {n sz us pd : Nat} {ad : Nat → Nat} {M : vM} {i ca e r w : Nat} (hi : i < n) (hg : gI M n sz us pd) (hts : ∀ i, i < n → ∃ ca e r w, tI M us (tb i) ca e r w) (hI : tI M us (tb i) ca e r w) (hst1 : M.1 (tb i) 0 = 1) {x y z : Int32} : Ct l D Y zz yX9_known cX9_known 7 (some FieldType.int) 2 48 [.ref (ad (0)), .ref (ad (tb i)), .int 3, .int x, .int y, .int z] (wM Y n ad M) 0 0 (fun r w => r = some (.int (fKnown M n (tb i) 3 x y z).2) ∧ w = wM Y n ad (fKnown M n (tb i) 3 x y z).1) := by
  refine v_entry (by decide +kernel) (Nat.le_of_ble_eq_true rfl) ?_
  intro K X R hR hnm hl hD hY hz
  subst hl hD hY hz
  refine v_sub (lv' := [(0, .ref (ad (0))), (1, .ref (ad (tb i))), (2, .int 3), (3, .int x), (4, .int y), (5, .int z)]) [0, 1, 2, 3, 4, 5] rfl ?_
  obtain ⟨hsz, hsz2, hn2, hn1, hn16, hus, hus2, hpd, hpd2, h17, hfs, hvi, hgl⟩ := id hg
  obtain ⟨h3, hca, h4, he, h5, hr, h6, hw, hso, huq, hct, hctm, hwt, hwtm, hwt0, hpk, hst, hem, hov, hrg, hsv, hrd, hwr, hva⟩ := id hI
  refine v_iload_n (pc' := 1) (i := 2) (j := 2) X dX9_known_0 rfl rfl rfl ?_
  refine v_if_lt (pc' := 4) (tgt := 10) X dX9_known_1 (by decide) rfl (fun hc_1 => absurd hc_1 (by decide)) (fun _ => ?_)
  refine v_iload_n (pc' := 5) (i := 2) (j := 2) X dX9_known_4 rfl rfl rfl ?_
  refine v_bipush (pc' := 7) (v := 29) X dX9_known_5 (by decide) rfl ?_
  refine v_icmp_le (pc' := 10) (tgt := 12) X dX9_known_7 (by decide) rfl (fun _ => ?_) (fun hc_7 => absurd (by decide) hc_7)
  refine v_aload_n (pc' := 13) (i := 0) (j := 0) X dX9_known_12 rfl rfl rfl ?_
  refine v_aload_n (pc' := 14) (i := 1) (j := 1) X dX9_known_13 rfl rfl rfl ?_
  refine v_iload_n (pc' := 15) (i := 2) (j := 2) X dX9_known_14 rfl rfl rfl ?_
  refine v_iload_n (pc' := 16) (i := 3) (j := 3) X dX9_known_15 rfl rfl rfl ?_
  refine v_iload (pc' := 18) (j := 4) X dX9_known_16 rfl rfl ?_
  refine v_iload (pc' := 20) (j := 5) X dX9_known_18 rfl rfl ?_
  refine v_callV (pc' := 23) X (st := []) (c_X9_wrong_3 (M := M) hi (x := x) (y := y) (z := z)) k_X9_wrong w_ml_X9_83 w_im_X9_wrong w_se_X9_X9_wrong (rv_M) (by rw [hR]; exact ⟨Nat.le_of_ble_eq_true rfl, Nat.le_of_ble_eq_true rfl⟩) rfl rfl (Nat.le_of_ble_eq_true rfl) dX9_known_20 rfl (⟨Nat.zero_le _, Nat.zero_le _⟩) ?_
  rintro _ _ ⟨rfl, rfl⟩
  refine v_ifB_eq (pc' := 26) (tgt := 28) X dX9_known_23 (by decide) rfl (fun hc_23 => ?_) (fun hc_23 => ?_)
  -- taken 23
  · refine v_aload_n (pc' := 29) (i := 1) (j := 1) X dX9_known_28 rfl rfl rfl ?_
    refine v_callV (pc' := 32) X (st := []) (c_X8_atomic (M := M) hi (e := e) h4 he) k_X8_atomic w_ml_X9_87 w_im_X8_atomic w_se_X8_X8_atomic (rv_T hi) (by rw [hR]; exact ⟨Nat.le_of_ble_eq_true rfl, Nat.le_of_ble_eq_true rfl⟩) rfl rfl (Nat.le_of_ble_eq_true rfl) dX9_known_29 rfl (⟨Nat.zero_le _, Nat.zero_le _⟩) ?_
    rintro _ _ ⟨rfl, x9, rfl, hx9⟩
    rcases hx9 with ⟨k0, hk0, h0, hf0, rfl⟩ | ⟨hno, rfl⟩
    · have hin : fIn M (tb i) := ⟨k0, by rw [h4, nn_nI (by omega)]; exact hk0, h0⟩
      refine v_if_lt (pc' := 35) (tgt := 39) X dX9_known_32 (by decide) rfl (fun hc_32 => absurd hc_32 (nI_pos (by omega))) (fun _ => ?_)
      refine v_iconst (pc' := 36) (v := 1) X dX9_known_35 (by decide) rfl ?_
      refine v_goto (pc' := 40) X dX9_known_36 (by decide) ?_
      refine v_istore (pc' := 42) (lv' := [(6, .int 1), (0, .ref (ad (0))), (1, .ref (ad (tb i))), (2, .int 3), (3, .int x), (4, .int y), (5, .int z)]) X dX9_known_40 (by decide) rfl rfl ?_
      refine v_iload (pc' := 44) (j := 0) X dX9_known_42 rfl rfl ?_
      refine v_if_eq (pc' := 47) (tgt := 78) X dX9_known_44 (by decide) rfl (fun hc_44 => absurd hc_44 (by decide)) (fun _ => ?_)
      refine v_iload_n (pc' := 48) (i := 2) (j := 3) X dX9_known_47 rfl rfl rfl ?_
      refine v_if_eq (pc' := 51) (tgt := 75) X dX9_known_48 (by decide) rfl (fun hc_48 => absurd hc_48 (by decide)) (fun _ => ?_)
      refine v_iload_n (pc' := 52) (i := 2) (j := 3) X dX9_known_51 rfl rfl rfl ?_
      refine v_bipush (pc' := 54) (v := 18) X dX9_known_52 (by decide) rfl ?_
      refine v_icmp_eq (pc' := 57) (tgt := 75) X dX9_known_54 (by decide) rfl (fun hc_54 => absurd hc_54 (by decide)) (fun _ => ?_)
      refine v_iload_n (pc' := 58) (i := 2) (j := 3) X dX9_known_57 rfl rfl rfl ?_
      refine v_bipush (pc' := 60) (v := 25) X dX9_known_58 (by decide) rfl ?_
      refine v_icmp_eq (pc' := 63) (tgt := 75) X dX9_known_60 (by decide) rfl (fun hc_60 => absurd hc_60 (by decide)) (fun _ => ?_)
      refine v_iload_n (pc' := 64) (i := 2) (j := 3) X dX9_known_63 rfl rfl rfl ?_
      refine v_bipush (pc' := 66) (v := 26) X dX9_known_64 (by decide) rfl ?_
      refine v_icmp_eq (pc' := 69) (tgt := 75) X dX9_known_66 (by decide) rfl (fun hc_66 => absurd hc_66 (by decide)) (fun _ => ?_)
      refine v_iload_n (pc' := 70) (i := 2) (j := 3) X dX9_known_69 rfl rfl rfl ?_
      refine v_bipush (pc' := 72) (v := 27) X dX9_known_70 (by decide) rfl ?_
      refine v_icmp_ne (pc' := 75) (tgt := 78) X dX9_known_72 (by decide) rfl (fun _ => ?_) (fun hc_72 => absurd hc_72 (by decide))
      refine v_iload (pc' := 80) (j := 0) X dX9_known_78 rfl rfl ?_
      refine v_if_ne (pc' := 83) (tgt := 116) X dX9_known_80 (by decide) rfl (fun _ => ?_) (fun hc_80 => absurd hc_80 (by decide))
      refine v_iload_n (pc' := 117) (i := 2) (j := 3) X dX9_known_116 rfl rfl rfl ?_
      refine v_bipush (pc' := 119) (v := 15) X dX9_known_117 (by decide) rfl ?_
      refine v_icmp_le (pc' := 122) (tgt := 128) X dX9_known_119 (by decide) rfl (fun _ => ?_) (fun hc_119 => absurd (by decide) hc_119)
      refine v_aload_n (pc' := 129) (i := 0) (j := 1) X dX9_known_128 rfl rfl rfl ?_
      refine v_aload_n (pc' := 130) (i := 1) (j := 2) X dX9_known_129 rfl rfl rfl ?_
      refine v_iload_n (pc' := 131) (i := 2) (j := 3) X dX9_known_130 rfl rfl rfl ?_
      refine v_iload_n (pc' := 132) (i := 3) (j := 4) X dX9_known_131 rfl rfl rfl ?_
      refine v_iload (pc' := 134) (j := 5) X dX9_known_132 rfl rfl ?_
      refine v_iload (pc' := 136) (j := 6) X dX9_known_134 rfl rfl ?_
      obtain ⟨hx1, hx2⟩ := nrg_not (fun z9 => hc_23 (Or.inl (z9)))
      obtain ⟨hy1, hy2⟩ := nrg_not (fun z9 => hc_23 (Or.inr (Or.inl (z9))))
      obtain ⟨hz1, hz2⟩ := nrg_not (fun z9 => hc_23 (Or.inr (Or.inr (Or.inl (z9)))))
      refine v_callV (pc' := 139) X (st := []) (c_X9_plain_3 (M := M) hi hg hts hI (x := x) (y := y) (z := z) hx1 hx2 hy1 hy2 hz1 hz2) k_X9_plain w_ml_X9_91 w_im_X9_plain w_se_X9_X9_plain (rv_M) (by rw [hR]; exact ⟨Nat.le_of_ble_eq_true rfl, Nat.le_of_ble_eq_true rfl⟩) rfl rfl (Nat.le_of_ble_eq_true rfl) dX9_known_136 rfl (⟨Nat.zero_le _, Nat.zero_le _⟩) ?_
      rintro _ _ ⟨rfl, rfl⟩
      refine v_ireturn X R (Nat.zero_le _) (Nat.zero_le _) dX9_known_139 ?_
      have hF : fKnown M n (tb i) 3 x y z = ((fPlain M n (tb i) 3 x y z).1, (fPlain M n (tb i) 3 x y z).2) := by
        unfold fKnown
        rw [if_neg hc_23, if_pos hin]
        rw [if_neg (by decide)]
        unfold fRest
        rw [if_pos (by decide)]
      rw [hF]
      exact ⟨rfl, rfl⟩
    · have hnin : ¬ fIn M (tb i) := fun z9 => by obtain ⟨q9, y9, y8⟩ := z9; rw [h4, nn_nI (by omega)] at y9; exact hno q9 y9 y8
      refine v_if_lt (pc' := 35) (tgt := 39) X dX9_known_32 (by decide) rfl (fun _ => ?_) (fun hc_32 => absurd (by decide) hc_32)
      refine v_iconst (pc' := 40) (v := 0) X dX9_known_39 (by decide) rfl ?_
      refine v_istore (pc' := 42) (lv' := [(6, .int 0), (0, .ref (ad (0))), (1, .ref (ad (tb i))), (2, .int 3), (3, .int x), (4, .int y), (5, .int z)]) X dX9_known_40 (by decide) rfl rfl ?_
      refine v_iload (pc' := 44) (j := 0) X dX9_known_42 rfl rfl ?_
      refine v_if_eq (pc' := 47) (tgt := 78) X dX9_known_44 (by decide) rfl (fun _ => ?_) (fun hc_44 => absurd (by decide) hc_44)
      refine v_iload (pc' := 80) (j := 0) X dX9_known_78 rfl rfl ?_
      refine v_if_ne (pc' := 83) (tgt := 116) X dX9_known_80 (by decide) rfl (fun hc_80 => absurd (by decide) hc_80) (fun _ => ?_)
      refine v_iload_n (pc' := 84) (i := 2) (j := 3) X dX9_known_83 rfl rfl rfl ?_
      refine v_bipush (pc' := 86) (v := 16) X dX9_known_84 (by decide) rfl ?_
      refine v_icmp_eq (pc' := 89) (tgt := 113) X dX9_known_86 (by decide) rfl (fun hc_86 => absurd hc_86 (by decide)) (fun _ => ?_)
      refine v_iload_n (pc' := 90) (i := 2) (j := 3) X dX9_known_89 rfl rfl rfl ?_
      refine v_bipush (pc' := 92) (v := 17) X dX9_known_90 (by decide) rfl ?_
      refine v_icmp_eq (pc' := 95) (tgt := 113) X dX9_known_92 (by decide) rfl (fun hc_92 => absurd hc_92 (by decide)) (fun _ => ?_)
      refine v_iload_n (pc' := 96) (i := 2) (j := 3) X dX9_known_95 rfl rfl rfl ?_
      refine v_bipush (pc' := 98) (v := 19) X dX9_known_96 (by decide) rfl ?_
      refine v_icmp_eq (pc' := 101) (tgt := 113) X dX9_known_98 (by decide) rfl (fun hc_98 => absurd hc_98 (by decide)) (fun _ => ?_)
      refine v_iload_n (pc' := 102) (i := 2) (j := 3) X dX9_known_101 rfl rfl rfl ?_
      refine v_bipush (pc' := 104) (v := 20) X dX9_known_102 (by decide) rfl ?_
      refine v_icmp_eq (pc' := 107) (tgt := 113) X dX9_known_104 (by decide) rfl (fun hc_104 => absurd hc_104 (by decide)) (fun _ => ?_)
      refine v_iload_n (pc' := 108) (i := 2) (j := 3) X dX9_known_107 rfl rfl rfl ?_
      refine v_bipush (pc' := 110) (v := 23) X dX9_known_108 (by decide) rfl ?_
      refine v_icmp_ne (pc' := 113) (tgt := 116) X dX9_known_110 (by decide) rfl (fun _ => ?_) (fun hc_110 => absurd hc_110 (by decide))
      refine v_iload_n (pc' := 117) (i := 2) (j := 3) X dX9_known_116 rfl rfl rfl ?_
      refine v_bipush (pc' := 119) (v := 15) X dX9_known_117 (by decide) rfl ?_
      refine v_icmp_le (pc' := 122) (tgt := 128) X dX9_known_119 (by decide) rfl (fun _ => ?_) (fun hc_119 => absurd (by decide) hc_119)
      refine v_aload_n (pc' := 129) (i := 0) (j := 1) X dX9_known_128 rfl rfl rfl ?_
      refine v_aload_n (pc' := 130) (i := 1) (j := 2) X dX9_known_129 rfl rfl rfl ?_
      refine v_iload_n (pc' := 131) (i := 2) (j := 3) X dX9_known_130 rfl rfl rfl ?_
      refine v_iload_n (pc' := 132) (i := 3) (j := 4) X dX9_known_131 rfl rfl rfl ?_
      refine v_iload (pc' := 134) (j := 5) X dX9_known_132 rfl rfl ?_
      refine v_iload (pc' := 136) (j := 6) X dX9_known_134 rfl rfl ?_
      obtain ⟨hx1, hx2⟩ := nrg_not (fun z9 => hc_23 (Or.inl (z9)))
      obtain ⟨hy1, hy2⟩ := nrg_not (fun z9 => hc_23 (Or.inr (Or.inl (z9))))
      obtain ⟨hz1, hz2⟩ := nrg_not (fun z9 => hc_23 (Or.inr (Or.inr (Or.inl (z9)))))
      refine v_callV (pc' := 139) X (st := []) (c_X9_plain_3 (M := M) hi hg hts hI (x := x) (y := y) (z := z) hx1 hx2 hy1 hy2 hz1 hz2) k_X9_plain w_ml_X9_91 w_im_X9_plain w_se_X9_X9_plain (rv_M) (by rw [hR]; exact ⟨Nat.le_of_ble_eq_true rfl, Nat.le_of_ble_eq_true rfl⟩) rfl rfl (Nat.le_of_ble_eq_true rfl) dX9_known_136 rfl (⟨Nat.zero_le _, Nat.zero_le _⟩) ?_
      rintro _ _ ⟨rfl, rfl⟩
      refine v_ireturn X R (Nat.zero_le _) (Nat.zero_le _) dX9_known_139 ?_
      have hF : fKnown M n (tb i) 3 x y z = ((fPlain M n (tb i) 3 x y z).1, (fPlain M n (tb i) 3 x y z).2) := by
        unfold fKnown
        rw [if_neg hc_23, if_neg hnin]
        rw [if_neg (by decide)]
        unfold fRest
        rw [if_pos (by decide)]
      rw [hF]
      exact ⟨rfl, rfl⟩
  -- not taken 23
  · refine v_iconst (pc' := 27) (v := (-1)) X dX9_known_26 (by decide) rfl ?_
    refine v_ireturn X R (Nat.zero_le _) (Nat.zero_le _) dX9_known_27 ?_
    have hF : fKnown M n (tb i) 3 x y z = (M, (-1)) := by
      unfold fKnown
      exact if_pos hc_23
    rw [hF]
    exact ⟨rfl, rfl⟩
set_option maxHeartbeats 4000000 in
set_option maxRecDepth 100000 in
theorem c_X9_known_4 {l : Launch} {D : va_G} {Y : Nat → ClassId} {zz : Nat → Nat} {n sz us pd : Nat} {ad : Nat → Nat} {M : vM} {i ca e r w : Nat} (hi : i < n) (hg : gI M n sz us pd) (hts : ∀ i, i < n → ∃ ca e r w, tI M us (tb i) ca e r w) (hI : tI M us (tb i) ca e r w) (hst1 : M.1 (tb i) 0 = 1) {x y z : Int32} : Ct l D Y zz yX9_known cX9_known 7 (some FieldType.int) 2 48 [.ref (ad (0)), .ref (ad (tb i)), .int 4, .int x, .int y, .int z] (wM Y n ad M) 0 0 (fun r w => r = some (.int (fKnown M n (tb i) 4 x y z).2) ∧ w = wM Y n ad (fKnown M n (tb i) 4 x y z).1) := by
  refine v_entry (by decide +kernel) (Nat.le_of_ble_eq_true rfl) ?_
  intro K X R hR hnm hl hD hY hz
  subst hl hD hY hz
  refine v_sub (lv' := [(0, .ref (ad (0))), (1, .ref (ad (tb i))), (2, .int 4), (3, .int x), (4, .int y), (5, .int z)]) [0, 1, 2, 3, 4, 5] rfl ?_
  obtain ⟨hsz, hsz2, hn2, hn1, hn16, hus, hus2, hpd, hpd2, h17, hfs, hvi, hgl⟩ := id hg
  obtain ⟨h3, hca, h4, he, h5, hr, h6, hw, hso, huq, hct, hctm, hwt, hwtm, hwt0, hpk, hst, hem, hov, hrg, hsv, hrd, hwr, hva⟩ := id hI
  refine v_iload_n (pc' := 1) (i := 2) (j := 2) X dX9_known_0 rfl rfl rfl ?_
  refine v_if_lt (pc' := 4) (tgt := 10) X dX9_known_1 (by decide) rfl (fun hc_1 => absurd hc_1 (by decide)) (fun _ => ?_)
  refine v_iload_n (pc' := 5) (i := 2) (j := 2) X dX9_known_4 rfl rfl rfl ?_
  refine v_bipush (pc' := 7) (v := 29) X dX9_known_5 (by decide) rfl ?_
  refine v_icmp_le (pc' := 10) (tgt := 12) X dX9_known_7 (by decide) rfl (fun _ => ?_) (fun hc_7 => absurd (by decide) hc_7)
  refine v_aload_n (pc' := 13) (i := 0) (j := 0) X dX9_known_12 rfl rfl rfl ?_
  refine v_aload_n (pc' := 14) (i := 1) (j := 1) X dX9_known_13 rfl rfl rfl ?_
  refine v_iload_n (pc' := 15) (i := 2) (j := 2) X dX9_known_14 rfl rfl rfl ?_
  refine v_iload_n (pc' := 16) (i := 3) (j := 3) X dX9_known_15 rfl rfl rfl ?_
  refine v_iload (pc' := 18) (j := 4) X dX9_known_16 rfl rfl ?_
  refine v_iload (pc' := 20) (j := 5) X dX9_known_18 rfl rfl ?_
  refine v_callV (pc' := 23) X (st := []) (c_X9_wrong_4 (M := M) hi (x := x) (y := y) (z := z)) k_X9_wrong w_ml_X9_83 w_im_X9_wrong w_se_X9_X9_wrong (rv_M) (by rw [hR]; exact ⟨Nat.le_of_ble_eq_true rfl, Nat.le_of_ble_eq_true rfl⟩) rfl rfl (Nat.le_of_ble_eq_true rfl) dX9_known_20 rfl (⟨Nat.zero_le _, Nat.zero_le _⟩) ?_
  rintro _ _ ⟨rfl, rfl⟩
  refine v_ifB_eq (pc' := 26) (tgt := 28) X dX9_known_23 (by decide) rfl (fun hc_23 => ?_) (fun hc_23 => ?_)
  -- taken 23
  · refine v_aload_n (pc' := 29) (i := 1) (j := 1) X dX9_known_28 rfl rfl rfl ?_
    refine v_callV (pc' := 32) X (st := []) (c_X8_atomic (M := M) hi (e := e) h4 he) k_X8_atomic w_ml_X9_87 w_im_X8_atomic w_se_X8_X8_atomic (rv_T hi) (by rw [hR]; exact ⟨Nat.le_of_ble_eq_true rfl, Nat.le_of_ble_eq_true rfl⟩) rfl rfl (Nat.le_of_ble_eq_true rfl) dX9_known_29 rfl (⟨Nat.zero_le _, Nat.zero_le _⟩) ?_
    rintro _ _ ⟨rfl, x9, rfl, hx9⟩
    rcases hx9 with ⟨k0, hk0, h0, hf0, rfl⟩ | ⟨hno, rfl⟩
    · have hin : fIn M (tb i) := ⟨k0, by rw [h4, nn_nI (by omega)]; exact hk0, h0⟩
      refine v_if_lt (pc' := 35) (tgt := 39) X dX9_known_32 (by decide) rfl (fun hc_32 => absurd hc_32 (nI_pos (by omega))) (fun _ => ?_)
      refine v_iconst (pc' := 36) (v := 1) X dX9_known_35 (by decide) rfl ?_
      refine v_goto (pc' := 40) X dX9_known_36 (by decide) ?_
      refine v_istore (pc' := 42) (lv' := [(6, .int 1), (0, .ref (ad (0))), (1, .ref (ad (tb i))), (2, .int 4), (3, .int x), (4, .int y), (5, .int z)]) X dX9_known_40 (by decide) rfl rfl ?_
      refine v_iload (pc' := 44) (j := 0) X dX9_known_42 rfl rfl ?_
      refine v_if_eq (pc' := 47) (tgt := 78) X dX9_known_44 (by decide) rfl (fun hc_44 => absurd hc_44 (by decide)) (fun _ => ?_)
      refine v_iload_n (pc' := 48) (i := 2) (j := 3) X dX9_known_47 rfl rfl rfl ?_
      refine v_if_eq (pc' := 51) (tgt := 75) X dX9_known_48 (by decide) rfl (fun hc_48 => absurd hc_48 (by decide)) (fun _ => ?_)
      refine v_iload_n (pc' := 52) (i := 2) (j := 3) X dX9_known_51 rfl rfl rfl ?_
      refine v_bipush (pc' := 54) (v := 18) X dX9_known_52 (by decide) rfl ?_
      refine v_icmp_eq (pc' := 57) (tgt := 75) X dX9_known_54 (by decide) rfl (fun hc_54 => absurd hc_54 (by decide)) (fun _ => ?_)
      refine v_iload_n (pc' := 58) (i := 2) (j := 3) X dX9_known_57 rfl rfl rfl ?_
      refine v_bipush (pc' := 60) (v := 25) X dX9_known_58 (by decide) rfl ?_
      refine v_icmp_eq (pc' := 63) (tgt := 75) X dX9_known_60 (by decide) rfl (fun hc_60 => absurd hc_60 (by decide)) (fun _ => ?_)
      refine v_iload_n (pc' := 64) (i := 2) (j := 3) X dX9_known_63 rfl rfl rfl ?_
      refine v_bipush (pc' := 66) (v := 26) X dX9_known_64 (by decide) rfl ?_
      refine v_icmp_eq (pc' := 69) (tgt := 75) X dX9_known_66 (by decide) rfl (fun hc_66 => absurd hc_66 (by decide)) (fun _ => ?_)
      refine v_iload_n (pc' := 70) (i := 2) (j := 3) X dX9_known_69 rfl rfl rfl ?_
      refine v_bipush (pc' := 72) (v := 27) X dX9_known_70 (by decide) rfl ?_
      refine v_icmp_ne (pc' := 75) (tgt := 78) X dX9_known_72 (by decide) rfl (fun _ => ?_) (fun hc_72 => absurd hc_72 (by decide))
      refine v_iload (pc' := 80) (j := 0) X dX9_known_78 rfl rfl ?_
      refine v_if_ne (pc' := 83) (tgt := 116) X dX9_known_80 (by decide) rfl (fun _ => ?_) (fun hc_80 => absurd hc_80 (by decide))
      refine v_iload_n (pc' := 117) (i := 2) (j := 3) X dX9_known_116 rfl rfl rfl ?_
      refine v_bipush (pc' := 119) (v := 15) X dX9_known_117 (by decide) rfl ?_
      refine v_icmp_le (pc' := 122) (tgt := 128) X dX9_known_119 (by decide) rfl (fun _ => ?_) (fun hc_119 => absurd (by decide) hc_119)
      refine v_aload_n (pc' := 129) (i := 0) (j := 1) X dX9_known_128 rfl rfl rfl ?_
      refine v_aload_n (pc' := 130) (i := 1) (j := 2) X dX9_known_129 rfl rfl rfl ?_
      refine v_iload_n (pc' := 131) (i := 2) (j := 3) X dX9_known_130 rfl rfl rfl ?_
      refine v_iload_n (pc' := 132) (i := 3) (j := 4) X dX9_known_131 rfl rfl rfl ?_
      refine v_iload (pc' := 134) (j := 5) X dX9_known_132 rfl rfl ?_
      refine v_iload (pc' := 136) (j := 6) X dX9_known_134 rfl rfl ?_
      obtain ⟨hx1, hx2⟩ := nrg_not (fun z9 => hc_23 (Or.inl (z9)))
      obtain ⟨hy1, hy2⟩ := nrg_not (fun z9 => hc_23 (Or.inr (Or.inl (z9))))
      obtain ⟨hz1, hz2⟩ := nrg_not (fun z9 => hc_23 (Or.inr (Or.inr (Or.inl (z9)))))
      refine v_callV (pc' := 139) X (st := []) (c_X9_plain_4 (M := M) hi hg hts hI (x := x) (y := y) (z := z) hx1 hx2 hy1 hy2 hz1 hz2) k_X9_plain w_ml_X9_91 w_im_X9_plain w_se_X9_X9_plain (rv_M) (by rw [hR]; exact ⟨Nat.le_of_ble_eq_true rfl, Nat.le_of_ble_eq_true rfl⟩) rfl rfl (Nat.le_of_ble_eq_true rfl) dX9_known_136 rfl (⟨Nat.zero_le _, Nat.zero_le _⟩) ?_
      rintro _ _ ⟨rfl, rfl⟩
      refine v_ireturn X R (Nat.zero_le _) (Nat.zero_le _) dX9_known_139 ?_
      have hF : fKnown M n (tb i) 4 x y z = ((fPlain M n (tb i) 4 x y z).1, (fPlain M n (tb i) 4 x y z).2) := by
        unfold fKnown
        rw [if_neg hc_23, if_pos hin]
        rw [if_neg (by decide)]
        unfold fRest
        rw [if_pos (by decide)]
      rw [hF]
      exact ⟨rfl, rfl⟩
    · have hnin : ¬ fIn M (tb i) := fun z9 => by obtain ⟨q9, y9, y8⟩ := z9; rw [h4, nn_nI (by omega)] at y9; exact hno q9 y9 y8
      refine v_if_lt (pc' := 35) (tgt := 39) X dX9_known_32 (by decide) rfl (fun _ => ?_) (fun hc_32 => absurd (by decide) hc_32)
      refine v_iconst (pc' := 40) (v := 0) X dX9_known_39 (by decide) rfl ?_
      refine v_istore (pc' := 42) (lv' := [(6, .int 0), (0, .ref (ad (0))), (1, .ref (ad (tb i))), (2, .int 4), (3, .int x), (4, .int y), (5, .int z)]) X dX9_known_40 (by decide) rfl rfl ?_
      refine v_iload (pc' := 44) (j := 0) X dX9_known_42 rfl rfl ?_
      refine v_if_eq (pc' := 47) (tgt := 78) X dX9_known_44 (by decide) rfl (fun _ => ?_) (fun hc_44 => absurd (by decide) hc_44)
      refine v_iload (pc' := 80) (j := 0) X dX9_known_78 rfl rfl ?_
      refine v_if_ne (pc' := 83) (tgt := 116) X dX9_known_80 (by decide) rfl (fun hc_80 => absurd (by decide) hc_80) (fun _ => ?_)
      refine v_iload_n (pc' := 84) (i := 2) (j := 3) X dX9_known_83 rfl rfl rfl ?_
      refine v_bipush (pc' := 86) (v := 16) X dX9_known_84 (by decide) rfl ?_
      refine v_icmp_eq (pc' := 89) (tgt := 113) X dX9_known_86 (by decide) rfl (fun hc_86 => absurd hc_86 (by decide)) (fun _ => ?_)
      refine v_iload_n (pc' := 90) (i := 2) (j := 3) X dX9_known_89 rfl rfl rfl ?_
      refine v_bipush (pc' := 92) (v := 17) X dX9_known_90 (by decide) rfl ?_
      refine v_icmp_eq (pc' := 95) (tgt := 113) X dX9_known_92 (by decide) rfl (fun hc_92 => absurd hc_92 (by decide)) (fun _ => ?_)
      refine v_iload_n (pc' := 96) (i := 2) (j := 3) X dX9_known_95 rfl rfl rfl ?_
      refine v_bipush (pc' := 98) (v := 19) X dX9_known_96 (by decide) rfl ?_
      refine v_icmp_eq (pc' := 101) (tgt := 113) X dX9_known_98 (by decide) rfl (fun hc_98 => absurd hc_98 (by decide)) (fun _ => ?_)
      refine v_iload_n (pc' := 102) (i := 2) (j := 3) X dX9_known_101 rfl rfl rfl ?_
      refine v_bipush (pc' := 104) (v := 20) X dX9_known_102 (by decide) rfl ?_
      refine v_icmp_eq (pc' := 107) (tgt := 113) X dX9_known_104 (by decide) rfl (fun hc_104 => absurd hc_104 (by decide)) (fun _ => ?_)
      refine v_iload_n (pc' := 108) (i := 2) (j := 3) X dX9_known_107 rfl rfl rfl ?_
      refine v_bipush (pc' := 110) (v := 23) X dX9_known_108 (by decide) rfl ?_
      refine v_icmp_ne (pc' := 113) (tgt := 116) X dX9_known_110 (by decide) rfl (fun _ => ?_) (fun hc_110 => absurd hc_110 (by decide))
      refine v_iload_n (pc' := 117) (i := 2) (j := 3) X dX9_known_116 rfl rfl rfl ?_
      refine v_bipush (pc' := 119) (v := 15) X dX9_known_117 (by decide) rfl ?_
      refine v_icmp_le (pc' := 122) (tgt := 128) X dX9_known_119 (by decide) rfl (fun _ => ?_) (fun hc_119 => absurd (by decide) hc_119)
      refine v_aload_n (pc' := 129) (i := 0) (j := 1) X dX9_known_128 rfl rfl rfl ?_
      refine v_aload_n (pc' := 130) (i := 1) (j := 2) X dX9_known_129 rfl rfl rfl ?_
      refine v_iload_n (pc' := 131) (i := 2) (j := 3) X dX9_known_130 rfl rfl rfl ?_
      refine v_iload_n (pc' := 132) (i := 3) (j := 4) X dX9_known_131 rfl rfl rfl ?_
      refine v_iload (pc' := 134) (j := 5) X dX9_known_132 rfl rfl ?_
      refine v_iload (pc' := 136) (j := 6) X dX9_known_134 rfl rfl ?_
      obtain ⟨hx1, hx2⟩ := nrg_not (fun z9 => hc_23 (Or.inl (z9)))
      obtain ⟨hy1, hy2⟩ := nrg_not (fun z9 => hc_23 (Or.inr (Or.inl (z9))))
      obtain ⟨hz1, hz2⟩ := nrg_not (fun z9 => hc_23 (Or.inr (Or.inr (Or.inl (z9)))))
      refine v_callV (pc' := 139) X (st := []) (c_X9_plain_4 (M := M) hi hg hts hI (x := x) (y := y) (z := z) hx1 hx2 hy1 hy2 hz1 hz2) k_X9_plain w_ml_X9_91 w_im_X9_plain w_se_X9_X9_plain (rv_M) (by rw [hR]; exact ⟨Nat.le_of_ble_eq_true rfl, Nat.le_of_ble_eq_true rfl⟩) rfl rfl (Nat.le_of_ble_eq_true rfl) dX9_known_136 rfl (⟨Nat.zero_le _, Nat.zero_le _⟩) ?_
      rintro _ _ ⟨rfl, rfl⟩
      refine v_ireturn X R (Nat.zero_le _) (Nat.zero_le _) dX9_known_139 ?_
      have hF : fKnown M n (tb i) 4 x y z = ((fPlain M n (tb i) 4 x y z).1, (fPlain M n (tb i) 4 x y z).2) := by
        unfold fKnown
        rw [if_neg hc_23, if_neg hnin]
        rw [if_neg (by decide)]
        unfold fRest
        rw [if_pos (by decide)]
      rw [hF]
      exact ⟨rfl, rfl⟩
  -- not taken 23
  · refine v_iconst (pc' := 27) (v := (-1)) X dX9_known_26 (by decide) rfl ?_
    refine v_ireturn X R (Nat.zero_le _) (Nat.zero_le _) dX9_known_27 ?_
    have hF : fKnown M n (tb i) 4 x y z = (M, (-1)) := by
      unfold fKnown
      exact if_pos hc_23
    rw [hF]
    exact ⟨rfl, rfl⟩
set_option maxHeartbeats 4000000 in
set_option maxRecDepth 100000 in
theorem c_X9_known_5 {l : Launch} {D : va_G} {Y : Nat → ClassId} {zz : Nat → Nat} {n sz us pd : Nat} {ad : Nat → Nat} {M : vM} {i ca e r w : Nat} (hi : i < n) (hg : gI M n sz us pd) (hts : ∀ i, i < n → ∃ ca e r w, tI M us (tb i) ca e r w) (hI : tI M us (tb i) ca e r w) (hst1 : M.1 (tb i) 0 = 1) {x y z : Int32} : Ct l D Y zz yX9_known cX9_known 7 (some FieldType.int) 2 48 [.ref (ad (0)), .ref (ad (tb i)), .int 5, .int x, .int y, .int z] (wM Y n ad M) 0 0 (fun r w => r = some (.int (fKnown M n (tb i) 5 x y z).2) ∧ w = wM Y n ad (fKnown M n (tb i) 5 x y z).1) := by
  refine v_entry (by decide +kernel) (Nat.le_of_ble_eq_true rfl) ?_
  intro K X R hR hnm hl hD hY hz
  subst hl hD hY hz
  refine v_sub (lv' := [(0, .ref (ad (0))), (1, .ref (ad (tb i))), (2, .int 5), (3, .int x), (4, .int y), (5, .int z)]) [0, 1, 2, 3, 4, 5] rfl ?_
  obtain ⟨hsz, hsz2, hn2, hn1, hn16, hus, hus2, hpd, hpd2, h17, hfs, hvi, hgl⟩ := id hg
  obtain ⟨h3, hca, h4, he, h5, hr, h6, hw, hso, huq, hct, hctm, hwt, hwtm, hwt0, hpk, hst, hem, hov, hrg, hsv, hrd, hwr, hva⟩ := id hI
  refine v_iload_n (pc' := 1) (i := 2) (j := 2) X dX9_known_0 rfl rfl rfl ?_
  refine v_if_lt (pc' := 4) (tgt := 10) X dX9_known_1 (by decide) rfl (fun hc_1 => absurd hc_1 (by decide)) (fun _ => ?_)
  refine v_iload_n (pc' := 5) (i := 2) (j := 2) X dX9_known_4 rfl rfl rfl ?_
  refine v_bipush (pc' := 7) (v := 29) X dX9_known_5 (by decide) rfl ?_
  refine v_icmp_le (pc' := 10) (tgt := 12) X dX9_known_7 (by decide) rfl (fun _ => ?_) (fun hc_7 => absurd (by decide) hc_7)
  refine v_aload_n (pc' := 13) (i := 0) (j := 0) X dX9_known_12 rfl rfl rfl ?_
  refine v_aload_n (pc' := 14) (i := 1) (j := 1) X dX9_known_13 rfl rfl rfl ?_
  refine v_iload_n (pc' := 15) (i := 2) (j := 2) X dX9_known_14 rfl rfl rfl ?_
  refine v_iload_n (pc' := 16) (i := 3) (j := 3) X dX9_known_15 rfl rfl rfl ?_
  refine v_iload (pc' := 18) (j := 4) X dX9_known_16 rfl rfl ?_
  refine v_iload (pc' := 20) (j := 5) X dX9_known_18 rfl rfl ?_
  refine v_callV (pc' := 23) X (st := []) (c_X9_wrong_5 (M := M) hi (x := x) (y := y) (z := z)) k_X9_wrong w_ml_X9_83 w_im_X9_wrong w_se_X9_X9_wrong (rv_M) (by rw [hR]; exact ⟨Nat.le_of_ble_eq_true rfl, Nat.le_of_ble_eq_true rfl⟩) rfl rfl (Nat.le_of_ble_eq_true rfl) dX9_known_20 rfl (⟨Nat.zero_le _, Nat.zero_le _⟩) ?_
  rintro _ _ ⟨rfl, rfl⟩
  refine v_ifB_eq (pc' := 26) (tgt := 28) X dX9_known_23 (by decide) rfl (fun hc_23 => ?_) (fun hc_23 => ?_)
  -- taken 23
  · refine v_aload_n (pc' := 29) (i := 1) (j := 1) X dX9_known_28 rfl rfl rfl ?_
    refine v_callV (pc' := 32) X (st := []) (c_X8_atomic (M := M) hi (e := e) h4 he) k_X8_atomic w_ml_X9_87 w_im_X8_atomic w_se_X8_X8_atomic (rv_T hi) (by rw [hR]; exact ⟨Nat.le_of_ble_eq_true rfl, Nat.le_of_ble_eq_true rfl⟩) rfl rfl (Nat.le_of_ble_eq_true rfl) dX9_known_29 rfl (⟨Nat.zero_le _, Nat.zero_le _⟩) ?_
    rintro _ _ ⟨rfl, x9, rfl, hx9⟩
    rcases hx9 with ⟨k0, hk0, h0, hf0, rfl⟩ | ⟨hno, rfl⟩
    · have hin : fIn M (tb i) := ⟨k0, by rw [h4, nn_nI (by omega)]; exact hk0, h0⟩
      refine v_if_lt (pc' := 35) (tgt := 39) X dX9_known_32 (by decide) rfl (fun hc_32 => absurd hc_32 (nI_pos (by omega))) (fun _ => ?_)
      refine v_iconst (pc' := 36) (v := 1) X dX9_known_35 (by decide) rfl ?_
      refine v_goto (pc' := 40) X dX9_known_36 (by decide) ?_
      refine v_istore (pc' := 42) (lv' := [(6, .int 1), (0, .ref (ad (0))), (1, .ref (ad (tb i))), (2, .int 5), (3, .int x), (4, .int y), (5, .int z)]) X dX9_known_40 (by decide) rfl rfl ?_
      refine v_iload (pc' := 44) (j := 0) X dX9_known_42 rfl rfl ?_
      refine v_if_eq (pc' := 47) (tgt := 78) X dX9_known_44 (by decide) rfl (fun hc_44 => absurd hc_44 (by decide)) (fun _ => ?_)
      refine v_iload_n (pc' := 48) (i := 2) (j := 3) X dX9_known_47 rfl rfl rfl ?_
      refine v_if_eq (pc' := 51) (tgt := 75) X dX9_known_48 (by decide) rfl (fun hc_48 => absurd hc_48 (by decide)) (fun _ => ?_)
      refine v_iload_n (pc' := 52) (i := 2) (j := 3) X dX9_known_51 rfl rfl rfl ?_
      refine v_bipush (pc' := 54) (v := 18) X dX9_known_52 (by decide) rfl ?_
      refine v_icmp_eq (pc' := 57) (tgt := 75) X dX9_known_54 (by decide) rfl (fun hc_54 => absurd hc_54 (by decide)) (fun _ => ?_)
      refine v_iload_n (pc' := 58) (i := 2) (j := 3) X dX9_known_57 rfl rfl rfl ?_
      refine v_bipush (pc' := 60) (v := 25) X dX9_known_58 (by decide) rfl ?_
      refine v_icmp_eq (pc' := 63) (tgt := 75) X dX9_known_60 (by decide) rfl (fun hc_60 => absurd hc_60 (by decide)) (fun _ => ?_)
      refine v_iload_n (pc' := 64) (i := 2) (j := 3) X dX9_known_63 rfl rfl rfl ?_
      refine v_bipush (pc' := 66) (v := 26) X dX9_known_64 (by decide) rfl ?_
      refine v_icmp_eq (pc' := 69) (tgt := 75) X dX9_known_66 (by decide) rfl (fun hc_66 => absurd hc_66 (by decide)) (fun _ => ?_)
      refine v_iload_n (pc' := 70) (i := 2) (j := 3) X dX9_known_69 rfl rfl rfl ?_
      refine v_bipush (pc' := 72) (v := 27) X dX9_known_70 (by decide) rfl ?_
      refine v_icmp_ne (pc' := 75) (tgt := 78) X dX9_known_72 (by decide) rfl (fun _ => ?_) (fun hc_72 => absurd hc_72 (by decide))
      refine v_iload (pc' := 80) (j := 0) X dX9_known_78 rfl rfl ?_
      refine v_if_ne (pc' := 83) (tgt := 116) X dX9_known_80 (by decide) rfl (fun _ => ?_) (fun hc_80 => absurd hc_80 (by decide))
      refine v_iload_n (pc' := 117) (i := 2) (j := 3) X dX9_known_116 rfl rfl rfl ?_
      refine v_bipush (pc' := 119) (v := 15) X dX9_known_117 (by decide) rfl ?_
      refine v_icmp_le (pc' := 122) (tgt := 128) X dX9_known_119 (by decide) rfl (fun _ => ?_) (fun hc_119 => absurd (by decide) hc_119)
      refine v_aload_n (pc' := 129) (i := 0) (j := 1) X dX9_known_128 rfl rfl rfl ?_
      refine v_aload_n (pc' := 130) (i := 1) (j := 2) X dX9_known_129 rfl rfl rfl ?_
      refine v_iload_n (pc' := 131) (i := 2) (j := 3) X dX9_known_130 rfl rfl rfl ?_
      refine v_iload_n (pc' := 132) (i := 3) (j := 4) X dX9_known_131 rfl rfl rfl ?_
      refine v_iload (pc' := 134) (j := 5) X dX9_known_132 rfl rfl ?_
      refine v_iload (pc' := 136) (j := 6) X dX9_known_134 rfl rfl ?_
      obtain ⟨hx1, hx2⟩ := nrg_not (fun z9 => hc_23 (Or.inl (z9)))
      obtain ⟨hy1, hy2⟩ := nrg_not (fun z9 => hc_23 (Or.inr (Or.inl (z9))))
      obtain ⟨hz1, hz2⟩ := nrg_not (fun z9 => hc_23 (Or.inr (Or.inr (Or.inl (z9)))))
      refine v_callV (pc' := 139) X (st := []) (c_X9_plain_5 (M := M) hi hg hts hI (x := x) (y := y) (z := z) hx1 hx2 hy1 hy2 hz1 hz2) k_X9_plain w_ml_X9_91 w_im_X9_plain w_se_X9_X9_plain (rv_M) (by rw [hR]; exact ⟨Nat.le_of_ble_eq_true rfl, Nat.le_of_ble_eq_true rfl⟩) rfl rfl (Nat.le_of_ble_eq_true rfl) dX9_known_136 rfl (⟨Nat.zero_le _, Nat.zero_le _⟩) ?_
      rintro _ _ ⟨rfl, rfl⟩
      refine v_ireturn X R (Nat.zero_le _) (Nat.zero_le _) dX9_known_139 ?_
      have hF : fKnown M n (tb i) 5 x y z = ((fPlain M n (tb i) 5 x y z).1, (fPlain M n (tb i) 5 x y z).2) := by
        unfold fKnown
        rw [if_neg hc_23, if_pos hin]
        rw [if_neg (by decide)]
        unfold fRest
        rw [if_pos (by decide)]
      rw [hF]
      exact ⟨rfl, rfl⟩
    · have hnin : ¬ fIn M (tb i) := fun z9 => by obtain ⟨q9, y9, y8⟩ := z9; rw [h4, nn_nI (by omega)] at y9; exact hno q9 y9 y8
      refine v_if_lt (pc' := 35) (tgt := 39) X dX9_known_32 (by decide) rfl (fun _ => ?_) (fun hc_32 => absurd (by decide) hc_32)
      refine v_iconst (pc' := 40) (v := 0) X dX9_known_39 (by decide) rfl ?_
      refine v_istore (pc' := 42) (lv' := [(6, .int 0), (0, .ref (ad (0))), (1, .ref (ad (tb i))), (2, .int 5), (3, .int x), (4, .int y), (5, .int z)]) X dX9_known_40 (by decide) rfl rfl ?_
      refine v_iload (pc' := 44) (j := 0) X dX9_known_42 rfl rfl ?_
      refine v_if_eq (pc' := 47) (tgt := 78) X dX9_known_44 (by decide) rfl (fun _ => ?_) (fun hc_44 => absurd (by decide) hc_44)
      refine v_iload (pc' := 80) (j := 0) X dX9_known_78 rfl rfl ?_
      refine v_if_ne (pc' := 83) (tgt := 116) X dX9_known_80 (by decide) rfl (fun hc_80 => absurd (by decide) hc_80) (fun _ => ?_)
      refine v_iload_n (pc' := 84) (i := 2) (j := 3) X dX9_known_83 rfl rfl rfl ?_
      refine v_bipush (pc' := 86) (v := 16) X dX9_known_84 (by decide) rfl ?_
      refine v_icmp_eq (pc' := 89) (tgt := 113) X dX9_known_86 (by decide) rfl (fun hc_86 => absurd hc_86 (by decide)) (fun _ => ?_)
      refine v_iload_n (pc' := 90) (i := 2) (j := 3) X dX9_known_89 rfl rfl rfl ?_
      refine v_bipush (pc' := 92) (v := 17) X dX9_known_90 (by decide) rfl ?_
      refine v_icmp_eq (pc' := 95) (tgt := 113) X dX9_known_92 (by decide) rfl (fun hc_92 => absurd hc_92 (by decide)) (fun _ => ?_)
      refine v_iload_n (pc' := 96) (i := 2) (j := 3) X dX9_known_95 rfl rfl rfl ?_
      refine v_bipush (pc' := 98) (v := 19) X dX9_known_96 (by decide) rfl ?_
      refine v_icmp_eq (pc' := 101) (tgt := 113) X dX9_known_98 (by decide) rfl (fun hc_98 => absurd hc_98 (by decide)) (fun _ => ?_)
      refine v_iload_n (pc' := 102) (i := 2) (j := 3) X dX9_known_101 rfl rfl rfl ?_
      refine v_bipush (pc' := 104) (v := 20) X dX9_known_102 (by decide) rfl ?_
      refine v_icmp_eq (pc' := 107) (tgt := 113) X dX9_known_104 (by decide) rfl (fun hc_104 => absurd hc_104 (by decide)) (fun _ => ?_)
      refine v_iload_n (pc' := 108) (i := 2) (j := 3) X dX9_known_107 rfl rfl rfl ?_
      refine v_bipush (pc' := 110) (v := 23) X dX9_known_108 (by decide) rfl ?_
      refine v_icmp_ne (pc' := 113) (tgt := 116) X dX9_known_110 (by decide) rfl (fun _ => ?_) (fun hc_110 => absurd hc_110 (by decide))
      refine v_iload_n (pc' := 117) (i := 2) (j := 3) X dX9_known_116 rfl rfl rfl ?_
      refine v_bipush (pc' := 119) (v := 15) X dX9_known_117 (by decide) rfl ?_
      refine v_icmp_le (pc' := 122) (tgt := 128) X dX9_known_119 (by decide) rfl (fun _ => ?_) (fun hc_119 => absurd (by decide) hc_119)
      refine v_aload_n (pc' := 129) (i := 0) (j := 1) X dX9_known_128 rfl rfl rfl ?_
      refine v_aload_n (pc' := 130) (i := 1) (j := 2) X dX9_known_129 rfl rfl rfl ?_
      refine v_iload_n (pc' := 131) (i := 2) (j := 3) X dX9_known_130 rfl rfl rfl ?_
      refine v_iload_n (pc' := 132) (i := 3) (j := 4) X dX9_known_131 rfl rfl rfl ?_
      refine v_iload (pc' := 134) (j := 5) X dX9_known_132 rfl rfl ?_
      refine v_iload (pc' := 136) (j := 6) X dX9_known_134 rfl rfl ?_
      obtain ⟨hx1, hx2⟩ := nrg_not (fun z9 => hc_23 (Or.inl (z9)))
      obtain ⟨hy1, hy2⟩ := nrg_not (fun z9 => hc_23 (Or.inr (Or.inl (z9))))
      obtain ⟨hz1, hz2⟩ := nrg_not (fun z9 => hc_23 (Or.inr (Or.inr (Or.inl (z9)))))
      refine v_callV (pc' := 139) X (st := []) (c_X9_plain_5 (M := M) hi hg hts hI (x := x) (y := y) (z := z) hx1 hx2 hy1 hy2 hz1 hz2) k_X9_plain w_ml_X9_91 w_im_X9_plain w_se_X9_X9_plain (rv_M) (by rw [hR]; exact ⟨Nat.le_of_ble_eq_true rfl, Nat.le_of_ble_eq_true rfl⟩) rfl rfl (Nat.le_of_ble_eq_true rfl) dX9_known_136 rfl (⟨Nat.zero_le _, Nat.zero_le _⟩) ?_
      rintro _ _ ⟨rfl, rfl⟩
      refine v_ireturn X R (Nat.zero_le _) (Nat.zero_le _) dX9_known_139 ?_
      have hF : fKnown M n (tb i) 5 x y z = ((fPlain M n (tb i) 5 x y z).1, (fPlain M n (tb i) 5 x y z).2) := by
        unfold fKnown
        rw [if_neg hc_23, if_neg hnin]
        rw [if_neg (by decide)]
        unfold fRest
        rw [if_pos (by decide)]
      rw [hF]
      exact ⟨rfl, rfl⟩
  -- not taken 23
  · refine v_iconst (pc' := 27) (v := (-1)) X dX9_known_26 (by decide) rfl ?_
    refine v_ireturn X R (Nat.zero_le _) (Nat.zero_le _) dX9_known_27 ?_
    have hF : fKnown M n (tb i) 5 x y z = (M, (-1)) := by
      unfold fKnown
      exact if_pos hc_23
    rw [hF]
    exact ⟨rfl, rfl⟩
set_option maxHeartbeats 4000000 in
set_option maxRecDepth 100000 in
theorem c_X9_known_6 {l : Launch} {D : va_G} {Y : Nat → ClassId} {zz : Nat → Nat} {n sz us pd : Nat} {ad : Nat → Nat} {M : vM} {i ca e r w : Nat} (hi : i < n) (hg : gI M n sz us pd) (hts : ∀ i, i < n → ∃ ca e r w, tI M us (tb i) ca e r w) (hI : tI M us (tb i) ca e r w) (hst1 : M.1 (tb i) 0 = 1) {x y z : Int32} : Ct l D Y zz yX9_known cX9_known 7 (some FieldType.int) 2 48 [.ref (ad (0)), .ref (ad (tb i)), .int 6, .int x, .int y, .int z] (wM Y n ad M) 0 0 (fun r w => r = some (.int (fKnown M n (tb i) 6 x y z).2) ∧ w = wM Y n ad (fKnown M n (tb i) 6 x y z).1) := by
  refine v_entry (by decide +kernel) (Nat.le_of_ble_eq_true rfl) ?_
  intro K X R hR hnm hl hD hY hz
  subst hl hD hY hz
  refine v_sub (lv' := [(0, .ref (ad (0))), (1, .ref (ad (tb i))), (2, .int 6), (3, .int x), (4, .int y), (5, .int z)]) [0, 1, 2, 3, 4, 5] rfl ?_
  obtain ⟨hsz, hsz2, hn2, hn1, hn16, hus, hus2, hpd, hpd2, h17, hfs, hvi, hgl⟩ := id hg
  obtain ⟨h3, hca, h4, he, h5, hr, h6, hw, hso, huq, hct, hctm, hwt, hwtm, hwt0, hpk, hst, hem, hov, hrg, hsv, hrd, hwr, hva⟩ := id hI
  refine v_iload_n (pc' := 1) (i := 2) (j := 2) X dX9_known_0 rfl rfl rfl ?_
  refine v_if_lt (pc' := 4) (tgt := 10) X dX9_known_1 (by decide) rfl (fun hc_1 => absurd hc_1 (by decide)) (fun _ => ?_)
  refine v_iload_n (pc' := 5) (i := 2) (j := 2) X dX9_known_4 rfl rfl rfl ?_
  refine v_bipush (pc' := 7) (v := 29) X dX9_known_5 (by decide) rfl ?_
  refine v_icmp_le (pc' := 10) (tgt := 12) X dX9_known_7 (by decide) rfl (fun _ => ?_) (fun hc_7 => absurd (by decide) hc_7)
  refine v_aload_n (pc' := 13) (i := 0) (j := 0) X dX9_known_12 rfl rfl rfl ?_
  refine v_aload_n (pc' := 14) (i := 1) (j := 1) X dX9_known_13 rfl rfl rfl ?_
  refine v_iload_n (pc' := 15) (i := 2) (j := 2) X dX9_known_14 rfl rfl rfl ?_
  refine v_iload_n (pc' := 16) (i := 3) (j := 3) X dX9_known_15 rfl rfl rfl ?_
  refine v_iload (pc' := 18) (j := 4) X dX9_known_16 rfl rfl ?_
  refine v_iload (pc' := 20) (j := 5) X dX9_known_18 rfl rfl ?_
  refine v_callV (pc' := 23) X (st := []) (c_X9_wrong_6 (M := M) hi (x := x) (y := y) (z := z)) k_X9_wrong w_ml_X9_83 w_im_X9_wrong w_se_X9_X9_wrong (rv_M) (by rw [hR]; exact ⟨Nat.le_of_ble_eq_true rfl, Nat.le_of_ble_eq_true rfl⟩) rfl rfl (Nat.le_of_ble_eq_true rfl) dX9_known_20 rfl (⟨Nat.zero_le _, Nat.zero_le _⟩) ?_
  rintro _ _ ⟨rfl, rfl⟩
  refine v_ifB_eq (pc' := 26) (tgt := 28) X dX9_known_23 (by decide) rfl (fun hc_23 => ?_) (fun hc_23 => ?_)
  -- taken 23
  · refine v_aload_n (pc' := 29) (i := 1) (j := 1) X dX9_known_28 rfl rfl rfl ?_
    refine v_callV (pc' := 32) X (st := []) (c_X8_atomic (M := M) hi (e := e) h4 he) k_X8_atomic w_ml_X9_87 w_im_X8_atomic w_se_X8_X8_atomic (rv_T hi) (by rw [hR]; exact ⟨Nat.le_of_ble_eq_true rfl, Nat.le_of_ble_eq_true rfl⟩) rfl rfl (Nat.le_of_ble_eq_true rfl) dX9_known_29 rfl (⟨Nat.zero_le _, Nat.zero_le _⟩) ?_
    rintro _ _ ⟨rfl, x9, rfl, hx9⟩
    rcases hx9 with ⟨k0, hk0, h0, hf0, rfl⟩ | ⟨hno, rfl⟩
    · have hin : fIn M (tb i) := ⟨k0, by rw [h4, nn_nI (by omega)]; exact hk0, h0⟩
      refine v_if_lt (pc' := 35) (tgt := 39) X dX9_known_32 (by decide) rfl (fun hc_32 => absurd hc_32 (nI_pos (by omega))) (fun _ => ?_)
      refine v_iconst (pc' := 36) (v := 1) X dX9_known_35 (by decide) rfl ?_
      refine v_goto (pc' := 40) X dX9_known_36 (by decide) ?_
      refine v_istore (pc' := 42) (lv' := [(6, .int 1), (0, .ref (ad (0))), (1, .ref (ad (tb i))), (2, .int 6), (3, .int x), (4, .int y), (5, .int z)]) X dX9_known_40 (by decide) rfl rfl ?_
      refine v_iload (pc' := 44) (j := 0) X dX9_known_42 rfl rfl ?_
      refine v_if_eq (pc' := 47) (tgt := 78) X dX9_known_44 (by decide) rfl (fun hc_44 => absurd hc_44 (by decide)) (fun _ => ?_)
      refine v_iload_n (pc' := 48) (i := 2) (j := 3) X dX9_known_47 rfl rfl rfl ?_
      refine v_if_eq (pc' := 51) (tgt := 75) X dX9_known_48 (by decide) rfl (fun hc_48 => absurd hc_48 (by decide)) (fun _ => ?_)
      refine v_iload_n (pc' := 52) (i := 2) (j := 3) X dX9_known_51 rfl rfl rfl ?_
      refine v_bipush (pc' := 54) (v := 18) X dX9_known_52 (by decide) rfl ?_
      refine v_icmp_eq (pc' := 57) (tgt := 75) X dX9_known_54 (by decide) rfl (fun hc_54 => absurd hc_54 (by decide)) (fun _ => ?_)
      refine v_iload_n (pc' := 58) (i := 2) (j := 3) X dX9_known_57 rfl rfl rfl ?_
      refine v_bipush (pc' := 60) (v := 25) X dX9_known_58 (by decide) rfl ?_
      refine v_icmp_eq (pc' := 63) (tgt := 75) X dX9_known_60 (by decide) rfl (fun hc_60 => absurd hc_60 (by decide)) (fun _ => ?_)
      refine v_iload_n (pc' := 64) (i := 2) (j := 3) X dX9_known_63 rfl rfl rfl ?_
      refine v_bipush (pc' := 66) (v := 26) X dX9_known_64 (by decide) rfl ?_
      refine v_icmp_eq (pc' := 69) (tgt := 75) X dX9_known_66 (by decide) rfl (fun hc_66 => absurd hc_66 (by decide)) (fun _ => ?_)
      refine v_iload_n (pc' := 70) (i := 2) (j := 3) X dX9_known_69 rfl rfl rfl ?_
      refine v_bipush (pc' := 72) (v := 27) X dX9_known_70 (by decide) rfl ?_
      refine v_icmp_ne (pc' := 75) (tgt := 78) X dX9_known_72 (by decide) rfl (fun _ => ?_) (fun hc_72 => absurd hc_72 (by decide))
      refine v_iload (pc' := 80) (j := 0) X dX9_known_78 rfl rfl ?_
      refine v_if_ne (pc' := 83) (tgt := 116) X dX9_known_80 (by decide) rfl (fun _ => ?_) (fun hc_80 => absurd hc_80 (by decide))
      refine v_iload_n (pc' := 117) (i := 2) (j := 3) X dX9_known_116 rfl rfl rfl ?_
      refine v_bipush (pc' := 119) (v := 15) X dX9_known_117 (by decide) rfl ?_
      refine v_icmp_le (pc' := 122) (tgt := 128) X dX9_known_119 (by decide) rfl (fun _ => ?_) (fun hc_119 => absurd (by decide) hc_119)
      refine v_aload_n (pc' := 129) (i := 0) (j := 1) X dX9_known_128 rfl rfl rfl ?_
      refine v_aload_n (pc' := 130) (i := 1) (j := 2) X dX9_known_129 rfl rfl rfl ?_
      refine v_iload_n (pc' := 131) (i := 2) (j := 3) X dX9_known_130 rfl rfl rfl ?_
      refine v_iload_n (pc' := 132) (i := 3) (j := 4) X dX9_known_131 rfl rfl rfl ?_
      refine v_iload (pc' := 134) (j := 5) X dX9_known_132 rfl rfl ?_
      refine v_iload (pc' := 136) (j := 6) X dX9_known_134 rfl rfl ?_
      obtain ⟨hx1, hx2⟩ := nrg_not (fun z9 => hc_23 (Or.inl (z9)))
      obtain ⟨hy1, hy2⟩ := nrg_not (fun z9 => hc_23 (Or.inr (Or.inl (z9))))
      obtain ⟨hz1, hz2⟩ := nrg_not (fun z9 => hc_23 (Or.inr (Or.inr (Or.inl (z9)))))
      refine v_callV (pc' := 139) X (st := []) (c_X9_plain_6 (M := M) hi hg hts hI (x := x) (y := y) (z := z) hx1 hx2 hy1 hy2 hz1 hz2) k_X9_plain w_ml_X9_91 w_im_X9_plain w_se_X9_X9_plain (rv_M) (by rw [hR]; exact ⟨Nat.le_of_ble_eq_true rfl, Nat.le_of_ble_eq_true rfl⟩) rfl rfl (Nat.le_of_ble_eq_true rfl) dX9_known_136 rfl (⟨Nat.zero_le _, Nat.zero_le _⟩) ?_
      rintro _ _ ⟨rfl, rfl⟩
      refine v_ireturn X R (Nat.zero_le _) (Nat.zero_le _) dX9_known_139 ?_
      have hF : fKnown M n (tb i) 6 x y z = ((fPlain M n (tb i) 6 x y z).1, (fPlain M n (tb i) 6 x y z).2) := by
        unfold fKnown
        rw [if_neg hc_23, if_pos hin]
        rw [if_neg (by decide)]
        unfold fRest
        rw [if_pos (by decide)]
      rw [hF]
      exact ⟨rfl, rfl⟩
    · have hnin : ¬ fIn M (tb i) := fun z9 => by obtain ⟨q9, y9, y8⟩ := z9; rw [h4, nn_nI (by omega)] at y9; exact hno q9 y9 y8
      refine v_if_lt (pc' := 35) (tgt := 39) X dX9_known_32 (by decide) rfl (fun _ => ?_) (fun hc_32 => absurd (by decide) hc_32)
      refine v_iconst (pc' := 40) (v := 0) X dX9_known_39 (by decide) rfl ?_
      refine v_istore (pc' := 42) (lv' := [(6, .int 0), (0, .ref (ad (0))), (1, .ref (ad (tb i))), (2, .int 6), (3, .int x), (4, .int y), (5, .int z)]) X dX9_known_40 (by decide) rfl rfl ?_
      refine v_iload (pc' := 44) (j := 0) X dX9_known_42 rfl rfl ?_
      refine v_if_eq (pc' := 47) (tgt := 78) X dX9_known_44 (by decide) rfl (fun _ => ?_) (fun hc_44 => absurd (by decide) hc_44)
      refine v_iload (pc' := 80) (j := 0) X dX9_known_78 rfl rfl ?_
      refine v_if_ne (pc' := 83) (tgt := 116) X dX9_known_80 (by decide) rfl (fun hc_80 => absurd (by decide) hc_80) (fun _ => ?_)
      refine v_iload_n (pc' := 84) (i := 2) (j := 3) X dX9_known_83 rfl rfl rfl ?_
      refine v_bipush (pc' := 86) (v := 16) X dX9_known_84 (by decide) rfl ?_
      refine v_icmp_eq (pc' := 89) (tgt := 113) X dX9_known_86 (by decide) rfl (fun hc_86 => absurd hc_86 (by decide)) (fun _ => ?_)
      refine v_iload_n (pc' := 90) (i := 2) (j := 3) X dX9_known_89 rfl rfl rfl ?_
      refine v_bipush (pc' := 92) (v := 17) X dX9_known_90 (by decide) rfl ?_
      refine v_icmp_eq (pc' := 95) (tgt := 113) X dX9_known_92 (by decide) rfl (fun hc_92 => absurd hc_92 (by decide)) (fun _ => ?_)
      refine v_iload_n (pc' := 96) (i := 2) (j := 3) X dX9_known_95 rfl rfl rfl ?_
      refine v_bipush (pc' := 98) (v := 19) X dX9_known_96 (by decide) rfl ?_
      refine v_icmp_eq (pc' := 101) (tgt := 113) X dX9_known_98 (by decide) rfl (fun hc_98 => absurd hc_98 (by decide)) (fun _ => ?_)
      refine v_iload_n (pc' := 102) (i := 2) (j := 3) X dX9_known_101 rfl rfl rfl ?_
      refine v_bipush (pc' := 104) (v := 20) X dX9_known_102 (by decide) rfl ?_
      refine v_icmp_eq (pc' := 107) (tgt := 113) X dX9_known_104 (by decide) rfl (fun hc_104 => absurd hc_104 (by decide)) (fun _ => ?_)
      refine v_iload_n (pc' := 108) (i := 2) (j := 3) X dX9_known_107 rfl rfl rfl ?_
      refine v_bipush (pc' := 110) (v := 23) X dX9_known_108 (by decide) rfl ?_
      refine v_icmp_ne (pc' := 113) (tgt := 116) X dX9_known_110 (by decide) rfl (fun _ => ?_) (fun hc_110 => absurd hc_110 (by decide))
      refine v_iload_n (pc' := 117) (i := 2) (j := 3) X dX9_known_116 rfl rfl rfl ?_
      refine v_bipush (pc' := 119) (v := 15) X dX9_known_117 (by decide) rfl ?_
      refine v_icmp_le (pc' := 122) (tgt := 128) X dX9_known_119 (by decide) rfl (fun _ => ?_) (fun hc_119 => absurd (by decide) hc_119)
      refine v_aload_n (pc' := 129) (i := 0) (j := 1) X dX9_known_128 rfl rfl rfl ?_
      refine v_aload_n (pc' := 130) (i := 1) (j := 2) X dX9_known_129 rfl rfl rfl ?_
      refine v_iload_n (pc' := 131) (i := 2) (j := 3) X dX9_known_130 rfl rfl rfl ?_
      refine v_iload_n (pc' := 132) (i := 3) (j := 4) X dX9_known_131 rfl rfl rfl ?_
      refine v_iload (pc' := 134) (j := 5) X dX9_known_132 rfl rfl ?_
      refine v_iload (pc' := 136) (j := 6) X dX9_known_134 rfl rfl ?_
      obtain ⟨hx1, hx2⟩ := nrg_not (fun z9 => hc_23 (Or.inl (z9)))
      obtain ⟨hy1, hy2⟩ := nrg_not (fun z9 => hc_23 (Or.inr (Or.inl (z9))))
      obtain ⟨hz1, hz2⟩ := nrg_not (fun z9 => hc_23 (Or.inr (Or.inr (Or.inl (z9)))))
      refine v_callV (pc' := 139) X (st := []) (c_X9_plain_6 (M := M) hi hg hts hI (x := x) (y := y) (z := z) hx1 hx2 hy1 hy2 hz1 hz2) k_X9_plain w_ml_X9_91 w_im_X9_plain w_se_X9_X9_plain (rv_M) (by rw [hR]; exact ⟨Nat.le_of_ble_eq_true rfl, Nat.le_of_ble_eq_true rfl⟩) rfl rfl (Nat.le_of_ble_eq_true rfl) dX9_known_136 rfl (⟨Nat.zero_le _, Nat.zero_le _⟩) ?_
      rintro _ _ ⟨rfl, rfl⟩
      refine v_ireturn X R (Nat.zero_le _) (Nat.zero_le _) dX9_known_139 ?_
      have hF : fKnown M n (tb i) 6 x y z = ((fPlain M n (tb i) 6 x y z).1, (fPlain M n (tb i) 6 x y z).2) := by
        unfold fKnown
        rw [if_neg hc_23, if_neg hnin]
        rw [if_neg (by decide)]
        unfold fRest
        rw [if_pos (by decide)]
      rw [hF]
      exact ⟨rfl, rfl⟩
  -- not taken 23
  · refine v_iconst (pc' := 27) (v := (-1)) X dX9_known_26 (by decide) rfl ?_
    refine v_ireturn X R (Nat.zero_le _) (Nat.zero_le _) dX9_known_27 ?_
    have hF : fKnown M n (tb i) 6 x y z = (M, (-1)) := by
      unfold fKnown
      exact if_pos hc_23
    rw [hF]
    exact ⟨rfl, rfl⟩
set_option maxHeartbeats 4000000 in
set_option maxRecDepth 100000 in
theorem c_X9_known_7 {l : Launch} {D : va_G} {Y : Nat → ClassId} {zz : Nat → Nat} {n sz us pd : Nat} {ad : Nat → Nat} {M : vM} {i ca e r w : Nat} (hi : i < n) (hg : gI M n sz us pd) (hts : ∀ i, i < n → ∃ ca e r w, tI M us (tb i) ca e r w) (hI : tI M us (tb i) ca e r w) (hst1 : M.1 (tb i) 0 = 1) {x y z : Int32} : Ct l D Y zz yX9_known cX9_known 7 (some FieldType.int) 2 47 [.ref (ad (0)), .ref (ad (tb i)), .int 7, .int x, .int y, .int z] (wM Y n ad M) 0 0 (fun r w => r = some (.int (fKnown M n (tb i) 7 x y z).2) ∧ w = wM Y n ad (fKnown M n (tb i) 7 x y z).1) := by
  refine v_entry (by decide +kernel) (Nat.le_of_ble_eq_true rfl) ?_
  intro K X R hR hnm hl hD hY hz
  subst hl hD hY hz
  refine v_sub (lv' := [(0, .ref (ad (0))), (1, .ref (ad (tb i))), (2, .int 7), (3, .int x), (4, .int y), (5, .int z)]) [0, 1, 2, 3, 4, 5] rfl ?_
  obtain ⟨hsz, hsz2, hn2, hn1, hn16, hus, hus2, hpd, hpd2, h17, hfs, hvi, hgl⟩ := id hg
  obtain ⟨h3, hca, h4, he, h5, hr, h6, hw, hso, huq, hct, hctm, hwt, hwtm, hwt0, hpk, hst, hem, hov, hrg, hsv, hrd, hwr, hva⟩ := id hI
  refine v_iload_n (pc' := 1) (i := 2) (j := 2) X dX9_known_0 rfl rfl rfl ?_
  refine v_if_lt (pc' := 4) (tgt := 10) X dX9_known_1 (by decide) rfl (fun hc_1 => absurd hc_1 (by decide)) (fun _ => ?_)
  refine v_iload_n (pc' := 5) (i := 2) (j := 2) X dX9_known_4 rfl rfl rfl ?_
  refine v_bipush (pc' := 7) (v := 29) X dX9_known_5 (by decide) rfl ?_
  refine v_icmp_le (pc' := 10) (tgt := 12) X dX9_known_7 (by decide) rfl (fun _ => ?_) (fun hc_7 => absurd (by decide) hc_7)
  refine v_aload_n (pc' := 13) (i := 0) (j := 0) X dX9_known_12 rfl rfl rfl ?_
  refine v_aload_n (pc' := 14) (i := 1) (j := 1) X dX9_known_13 rfl rfl rfl ?_
  refine v_iload_n (pc' := 15) (i := 2) (j := 2) X dX9_known_14 rfl rfl rfl ?_
  refine v_iload_n (pc' := 16) (i := 3) (j := 3) X dX9_known_15 rfl rfl rfl ?_
  refine v_iload (pc' := 18) (j := 4) X dX9_known_16 rfl rfl ?_
  refine v_iload (pc' := 20) (j := 5) X dX9_known_18 rfl rfl ?_
  refine v_callV (pc' := 23) X (st := []) (c_X9_wrong_7 (M := M) hi (x := x) (y := y) (z := z)) k_X9_wrong w_ml_X9_83 w_im_X9_wrong w_se_X9_X9_wrong (rv_M) (by rw [hR]; exact ⟨Nat.le_of_ble_eq_true rfl, Nat.le_of_ble_eq_true rfl⟩) rfl rfl (Nat.le_of_ble_eq_true rfl) dX9_known_20 rfl (⟨Nat.zero_le _, Nat.zero_le _⟩) ?_
  rintro _ _ ⟨rfl, rfl⟩
  refine v_ifB_eq (pc' := 26) (tgt := 28) X dX9_known_23 (by decide) rfl (fun hc_23 => ?_) (fun hc_23 => ?_)
  -- taken 23
  · refine v_aload_n (pc' := 29) (i := 1) (j := 1) X dX9_known_28 rfl rfl rfl ?_
    refine v_callV (pc' := 32) X (st := []) (c_X8_atomic (M := M) hi (e := e) h4 he) k_X8_atomic w_ml_X9_87 w_im_X8_atomic w_se_X8_X8_atomic (rv_T hi) (by rw [hR]; exact ⟨Nat.le_of_ble_eq_true rfl, Nat.le_of_ble_eq_true rfl⟩) rfl rfl (Nat.le_of_ble_eq_true rfl) dX9_known_29 rfl (⟨Nat.zero_le _, Nat.zero_le _⟩) ?_
    rintro _ _ ⟨rfl, x9, rfl, hx9⟩
    rcases hx9 with ⟨k0, hk0, h0, hf0, rfl⟩ | ⟨hno, rfl⟩
    · have hin : fIn M (tb i) := ⟨k0, by rw [h4, nn_nI (by omega)]; exact hk0, h0⟩
      refine v_if_lt (pc' := 35) (tgt := 39) X dX9_known_32 (by decide) rfl (fun hc_32 => absurd hc_32 (nI_pos (by omega))) (fun _ => ?_)
      refine v_iconst (pc' := 36) (v := 1) X dX9_known_35 (by decide) rfl ?_
      refine v_goto (pc' := 40) X dX9_known_36 (by decide) ?_
      refine v_istore (pc' := 42) (lv' := [(6, .int 1), (0, .ref (ad (0))), (1, .ref (ad (tb i))), (2, .int 7), (3, .int x), (4, .int y), (5, .int z)]) X dX9_known_40 (by decide) rfl rfl ?_
      refine v_iload (pc' := 44) (j := 0) X dX9_known_42 rfl rfl ?_
      refine v_if_eq (pc' := 47) (tgt := 78) X dX9_known_44 (by decide) rfl (fun hc_44 => absurd hc_44 (by decide)) (fun _ => ?_)
      refine v_iload_n (pc' := 48) (i := 2) (j := 3) X dX9_known_47 rfl rfl rfl ?_
      refine v_if_eq (pc' := 51) (tgt := 75) X dX9_known_48 (by decide) rfl (fun hc_48 => absurd hc_48 (by decide)) (fun _ => ?_)
      refine v_iload_n (pc' := 52) (i := 2) (j := 3) X dX9_known_51 rfl rfl rfl ?_
      refine v_bipush (pc' := 54) (v := 18) X dX9_known_52 (by decide) rfl ?_
      refine v_icmp_eq (pc' := 57) (tgt := 75) X dX9_known_54 (by decide) rfl (fun hc_54 => absurd hc_54 (by decide)) (fun _ => ?_)
      refine v_iload_n (pc' := 58) (i := 2) (j := 3) X dX9_known_57 rfl rfl rfl ?_
      refine v_bipush (pc' := 60) (v := 25) X dX9_known_58 (by decide) rfl ?_
      refine v_icmp_eq (pc' := 63) (tgt := 75) X dX9_known_60 (by decide) rfl (fun hc_60 => absurd hc_60 (by decide)) (fun _ => ?_)
      refine v_iload_n (pc' := 64) (i := 2) (j := 3) X dX9_known_63 rfl rfl rfl ?_
      refine v_bipush (pc' := 66) (v := 26) X dX9_known_64 (by decide) rfl ?_
      refine v_icmp_eq (pc' := 69) (tgt := 75) X dX9_known_66 (by decide) rfl (fun hc_66 => absurd hc_66 (by decide)) (fun _ => ?_)
      refine v_iload_n (pc' := 70) (i := 2) (j := 3) X dX9_known_69 rfl rfl rfl ?_
      refine v_bipush (pc' := 72) (v := 27) X dX9_known_70 (by decide) rfl ?_
      refine v_icmp_ne (pc' := 75) (tgt := 78) X dX9_known_72 (by decide) rfl (fun _ => ?_) (fun hc_72 => absurd hc_72 (by decide))
      refine v_iload (pc' := 80) (j := 0) X dX9_known_78 rfl rfl ?_
      refine v_if_ne (pc' := 83) (tgt := 116) X dX9_known_80 (by decide) rfl (fun _ => ?_) (fun hc_80 => absurd hc_80 (by decide))
      refine v_iload_n (pc' := 117) (i := 2) (j := 3) X dX9_known_116 rfl rfl rfl ?_
      refine v_bipush (pc' := 119) (v := 15) X dX9_known_117 (by decide) rfl ?_
      refine v_icmp_le (pc' := 122) (tgt := 128) X dX9_known_119 (by decide) rfl (fun _ => ?_) (fun hc_119 => absurd (by decide) hc_119)
      refine v_aload_n (pc' := 129) (i := 0) (j := 1) X dX9_known_128 rfl rfl rfl ?_
      refine v_aload_n (pc' := 130) (i := 1) (j := 2) X dX9_known_129 rfl rfl rfl ?_
      refine v_iload_n (pc' := 131) (i := 2) (j := 3) X dX9_known_130 rfl rfl rfl ?_
      refine v_iload_n (pc' := 132) (i := 3) (j := 4) X dX9_known_131 rfl rfl rfl ?_
      refine v_iload (pc' := 134) (j := 5) X dX9_known_132 rfl rfl ?_
      refine v_iload (pc' := 136) (j := 6) X dX9_known_134 rfl rfl ?_
      obtain ⟨hx1, hx2⟩ := nrg_not (fun z9 => hc_23 (Or.inl (z9)))
      obtain ⟨hy1, hy2⟩ := nrg_not (fun z9 => hc_23 (Or.inr (Or.inl (z9))))
      obtain ⟨hz1, hz2⟩ := nrg_not (fun z9 => hc_23 (Or.inr (Or.inr (z9))))
      refine v_callV (pc' := 139) X (st := []) (c_X9_plain_7 (M := M) hi hg hts hI (x := x) (y := y) (z := z) hx1 hx2 hy1 hy2 hz1 hz2) k_X9_plain w_ml_X9_91 w_im_X9_plain w_se_X9_X9_plain (rv_M) (by rw [hR]; exact ⟨Nat.le_of_ble_eq_true rfl, Nat.le_of_ble_eq_true rfl⟩) rfl rfl (Nat.le_of_ble_eq_true rfl) dX9_known_136 rfl (⟨Nat.zero_le _, Nat.zero_le _⟩) ?_
      rintro _ _ ⟨rfl, rfl⟩
      refine v_ireturn X R (Nat.zero_le _) (Nat.zero_le _) dX9_known_139 ?_
      have hF : fKnown M n (tb i) 7 x y z = ((fPlain M n (tb i) 7 x y z).1, (fPlain M n (tb i) 7 x y z).2) := by
        unfold fKnown
        rw [if_neg hc_23, if_pos hin]
        rw [if_neg (by decide)]
        unfold fRest
        rw [if_pos (by decide)]
      rw [hF]
      exact ⟨rfl, rfl⟩
    · have hnin : ¬ fIn M (tb i) := fun z9 => by obtain ⟨q9, y9, y8⟩ := z9; rw [h4, nn_nI (by omega)] at y9; exact hno q9 y9 y8
      refine v_if_lt (pc' := 35) (tgt := 39) X dX9_known_32 (by decide) rfl (fun _ => ?_) (fun hc_32 => absurd (by decide) hc_32)
      refine v_iconst (pc' := 40) (v := 0) X dX9_known_39 (by decide) rfl ?_
      refine v_istore (pc' := 42) (lv' := [(6, .int 0), (0, .ref (ad (0))), (1, .ref (ad (tb i))), (2, .int 7), (3, .int x), (4, .int y), (5, .int z)]) X dX9_known_40 (by decide) rfl rfl ?_
      refine v_iload (pc' := 44) (j := 0) X dX9_known_42 rfl rfl ?_
      refine v_if_eq (pc' := 47) (tgt := 78) X dX9_known_44 (by decide) rfl (fun _ => ?_) (fun hc_44 => absurd (by decide) hc_44)
      refine v_iload (pc' := 80) (j := 0) X dX9_known_78 rfl rfl ?_
      refine v_if_ne (pc' := 83) (tgt := 116) X dX9_known_80 (by decide) rfl (fun hc_80 => absurd (by decide) hc_80) (fun _ => ?_)
      refine v_iload_n (pc' := 84) (i := 2) (j := 3) X dX9_known_83 rfl rfl rfl ?_
      refine v_bipush (pc' := 86) (v := 16) X dX9_known_84 (by decide) rfl ?_
      refine v_icmp_eq (pc' := 89) (tgt := 113) X dX9_known_86 (by decide) rfl (fun hc_86 => absurd hc_86 (by decide)) (fun _ => ?_)
      refine v_iload_n (pc' := 90) (i := 2) (j := 3) X dX9_known_89 rfl rfl rfl ?_
      refine v_bipush (pc' := 92) (v := 17) X dX9_known_90 (by decide) rfl ?_
      refine v_icmp_eq (pc' := 95) (tgt := 113) X dX9_known_92 (by decide) rfl (fun hc_92 => absurd hc_92 (by decide)) (fun _ => ?_)
      refine v_iload_n (pc' := 96) (i := 2) (j := 3) X dX9_known_95 rfl rfl rfl ?_
      refine v_bipush (pc' := 98) (v := 19) X dX9_known_96 (by decide) rfl ?_
      refine v_icmp_eq (pc' := 101) (tgt := 113) X dX9_known_98 (by decide) rfl (fun hc_98 => absurd hc_98 (by decide)) (fun _ => ?_)
      refine v_iload_n (pc' := 102) (i := 2) (j := 3) X dX9_known_101 rfl rfl rfl ?_
      refine v_bipush (pc' := 104) (v := 20) X dX9_known_102 (by decide) rfl ?_
      refine v_icmp_eq (pc' := 107) (tgt := 113) X dX9_known_104 (by decide) rfl (fun hc_104 => absurd hc_104 (by decide)) (fun _ => ?_)
      refine v_iload_n (pc' := 108) (i := 2) (j := 3) X dX9_known_107 rfl rfl rfl ?_
      refine v_bipush (pc' := 110) (v := 23) X dX9_known_108 (by decide) rfl ?_
      refine v_icmp_ne (pc' := 113) (tgt := 116) X dX9_known_110 (by decide) rfl (fun _ => ?_) (fun hc_110 => absurd hc_110 (by decide))
      refine v_iload_n (pc' := 117) (i := 2) (j := 3) X dX9_known_116 rfl rfl rfl ?_
      refine v_bipush (pc' := 119) (v := 15) X dX9_known_117 (by decide) rfl ?_
      refine v_icmp_le (pc' := 122) (tgt := 128) X dX9_known_119 (by decide) rfl (fun _ => ?_) (fun hc_119 => absurd (by decide) hc_119)
      refine v_aload_n (pc' := 129) (i := 0) (j := 1) X dX9_known_128 rfl rfl rfl ?_
      refine v_aload_n (pc' := 130) (i := 1) (j := 2) X dX9_known_129 rfl rfl rfl ?_
      refine v_iload_n (pc' := 131) (i := 2) (j := 3) X dX9_known_130 rfl rfl rfl ?_
      refine v_iload_n (pc' := 132) (i := 3) (j := 4) X dX9_known_131 rfl rfl rfl ?_
      refine v_iload (pc' := 134) (j := 5) X dX9_known_132 rfl rfl ?_
      refine v_iload (pc' := 136) (j := 6) X dX9_known_134 rfl rfl ?_
      obtain ⟨hx1, hx2⟩ := nrg_not (fun z9 => hc_23 (Or.inl (z9)))
      obtain ⟨hy1, hy2⟩ := nrg_not (fun z9 => hc_23 (Or.inr (Or.inl (z9))))
      obtain ⟨hz1, hz2⟩ := nrg_not (fun z9 => hc_23 (Or.inr (Or.inr (z9))))
      refine v_callV (pc' := 139) X (st := []) (c_X9_plain_7 (M := M) hi hg hts hI (x := x) (y := y) (z := z) hx1 hx2 hy1 hy2 hz1 hz2) k_X9_plain w_ml_X9_91 w_im_X9_plain w_se_X9_X9_plain (rv_M) (by rw [hR]; exact ⟨Nat.le_of_ble_eq_true rfl, Nat.le_of_ble_eq_true rfl⟩) rfl rfl (Nat.le_of_ble_eq_true rfl) dX9_known_136 rfl (⟨Nat.zero_le _, Nat.zero_le _⟩) ?_
      rintro _ _ ⟨rfl, rfl⟩
      refine v_ireturn X R (Nat.zero_le _) (Nat.zero_le _) dX9_known_139 ?_
      have hF : fKnown M n (tb i) 7 x y z = ((fPlain M n (tb i) 7 x y z).1, (fPlain M n (tb i) 7 x y z).2) := by
        unfold fKnown
        rw [if_neg hc_23, if_neg hnin]
        rw [if_neg (by decide)]
        unfold fRest
        rw [if_pos (by decide)]
      rw [hF]
      exact ⟨rfl, rfl⟩
  -- not taken 23
  · refine v_iconst (pc' := 27) (v := (-1)) X dX9_known_26 (by decide) rfl ?_
    refine v_ireturn X R (Nat.zero_le _) (Nat.zero_le _) dX9_known_27 ?_
    have hF : fKnown M n (tb i) 7 x y z = (M, (-1)) := by
      unfold fKnown
      exact if_pos hc_23
    rw [hF]
    exact ⟨rfl, rfl⟩
set_option maxHeartbeats 4000000 in
set_option maxRecDepth 100000 in
theorem c_X9_known_8 {l : Launch} {D : va_G} {Y : Nat → ClassId} {zz : Nat → Nat} {n sz us pd : Nat} {ad : Nat → Nat} {M : vM} {i ca e r w : Nat} (hi : i < n) (hg : gI M n sz us pd) (hts : ∀ i, i < n → ∃ ca e r w, tI M us (tb i) ca e r w) (hI : tI M us (tb i) ca e r w) (hst1 : M.1 (tb i) 0 = 1) {x y z : Int32} : Ct l D Y zz yX9_known cX9_known 7 (some FieldType.int) 2 47 [.ref (ad (0)), .ref (ad (tb i)), .int 8, .int x, .int y, .int z] (wM Y n ad M) 0 0 (fun r w => r = some (.int (fKnown M n (tb i) 8 x y z).2) ∧ w = wM Y n ad (fKnown M n (tb i) 8 x y z).1) := by
  refine v_entry (by decide +kernel) (Nat.le_of_ble_eq_true rfl) ?_
  intro K X R hR hnm hl hD hY hz
  subst hl hD hY hz
  refine v_sub (lv' := [(0, .ref (ad (0))), (1, .ref (ad (tb i))), (2, .int 8), (3, .int x), (4, .int y), (5, .int z)]) [0, 1, 2, 3, 4, 5] rfl ?_
  obtain ⟨hsz, hsz2, hn2, hn1, hn16, hus, hus2, hpd, hpd2, h17, hfs, hvi, hgl⟩ := id hg
  obtain ⟨h3, hca, h4, he, h5, hr, h6, hw, hso, huq, hct, hctm, hwt, hwtm, hwt0, hpk, hst, hem, hov, hrg, hsv, hrd, hwr, hva⟩ := id hI
  refine v_iload_n (pc' := 1) (i := 2) (j := 2) X dX9_known_0 rfl rfl rfl ?_
  refine v_if_lt (pc' := 4) (tgt := 10) X dX9_known_1 (by decide) rfl (fun hc_1 => absurd hc_1 (by decide)) (fun _ => ?_)
  refine v_iload_n (pc' := 5) (i := 2) (j := 2) X dX9_known_4 rfl rfl rfl ?_
  refine v_bipush (pc' := 7) (v := 29) X dX9_known_5 (by decide) rfl ?_
  refine v_icmp_le (pc' := 10) (tgt := 12) X dX9_known_7 (by decide) rfl (fun _ => ?_) (fun hc_7 => absurd (by decide) hc_7)
  refine v_aload_n (pc' := 13) (i := 0) (j := 0) X dX9_known_12 rfl rfl rfl ?_
  refine v_aload_n (pc' := 14) (i := 1) (j := 1) X dX9_known_13 rfl rfl rfl ?_
  refine v_iload_n (pc' := 15) (i := 2) (j := 2) X dX9_known_14 rfl rfl rfl ?_
  refine v_iload_n (pc' := 16) (i := 3) (j := 3) X dX9_known_15 rfl rfl rfl ?_
  refine v_iload (pc' := 18) (j := 4) X dX9_known_16 rfl rfl ?_
  refine v_iload (pc' := 20) (j := 5) X dX9_known_18 rfl rfl ?_
  refine v_callV (pc' := 23) X (st := []) (c_X9_wrong_8 (M := M) hi (x := x) (y := y) (z := z)) k_X9_wrong w_ml_X9_83 w_im_X9_wrong w_se_X9_X9_wrong (rv_M) (by rw [hR]; exact ⟨Nat.le_of_ble_eq_true rfl, Nat.le_of_ble_eq_true rfl⟩) rfl rfl (Nat.le_of_ble_eq_true rfl) dX9_known_20 rfl (⟨Nat.zero_le _, Nat.zero_le _⟩) ?_
  rintro _ _ ⟨rfl, rfl⟩
  refine v_ifB_eq (pc' := 26) (tgt := 28) X dX9_known_23 (by decide) rfl (fun hc_23 => ?_) (fun hc_23 => ?_)
  -- taken 23
  · refine v_aload_n (pc' := 29) (i := 1) (j := 1) X dX9_known_28 rfl rfl rfl ?_
    refine v_callV (pc' := 32) X (st := []) (c_X8_atomic (M := M) hi (e := e) h4 he) k_X8_atomic w_ml_X9_87 w_im_X8_atomic w_se_X8_X8_atomic (rv_T hi) (by rw [hR]; exact ⟨Nat.le_of_ble_eq_true rfl, Nat.le_of_ble_eq_true rfl⟩) rfl rfl (Nat.le_of_ble_eq_true rfl) dX9_known_29 rfl (⟨Nat.zero_le _, Nat.zero_le _⟩) ?_
    rintro _ _ ⟨rfl, x9, rfl, hx9⟩
    rcases hx9 with ⟨k0, hk0, h0, hf0, rfl⟩ | ⟨hno, rfl⟩
    · have hin : fIn M (tb i) := ⟨k0, by rw [h4, nn_nI (by omega)]; exact hk0, h0⟩
      refine v_if_lt (pc' := 35) (tgt := 39) X dX9_known_32 (by decide) rfl (fun hc_32 => absurd hc_32 (nI_pos (by omega))) (fun _ => ?_)
      refine v_iconst (pc' := 36) (v := 1) X dX9_known_35 (by decide) rfl ?_
      refine v_goto (pc' := 40) X dX9_known_36 (by decide) ?_
      refine v_istore (pc' := 42) (lv' := [(6, .int 1), (0, .ref (ad (0))), (1, .ref (ad (tb i))), (2, .int 8), (3, .int x), (4, .int y), (5, .int z)]) X dX9_known_40 (by decide) rfl rfl ?_
      refine v_iload (pc' := 44) (j := 0) X dX9_known_42 rfl rfl ?_
      refine v_if_eq (pc' := 47) (tgt := 78) X dX9_known_44 (by decide) rfl (fun hc_44 => absurd hc_44 (by decide)) (fun _ => ?_)
      refine v_iload_n (pc' := 48) (i := 2) (j := 3) X dX9_known_47 rfl rfl rfl ?_
      refine v_if_eq (pc' := 51) (tgt := 75) X dX9_known_48 (by decide) rfl (fun hc_48 => absurd hc_48 (by decide)) (fun _ => ?_)
      refine v_iload_n (pc' := 52) (i := 2) (j := 3) X dX9_known_51 rfl rfl rfl ?_
      refine v_bipush (pc' := 54) (v := 18) X dX9_known_52 (by decide) rfl ?_
      refine v_icmp_eq (pc' := 57) (tgt := 75) X dX9_known_54 (by decide) rfl (fun hc_54 => absurd hc_54 (by decide)) (fun _ => ?_)
      refine v_iload_n (pc' := 58) (i := 2) (j := 3) X dX9_known_57 rfl rfl rfl ?_
      refine v_bipush (pc' := 60) (v := 25) X dX9_known_58 (by decide) rfl ?_
      refine v_icmp_eq (pc' := 63) (tgt := 75) X dX9_known_60 (by decide) rfl (fun hc_60 => absurd hc_60 (by decide)) (fun _ => ?_)
      refine v_iload_n (pc' := 64) (i := 2) (j := 3) X dX9_known_63 rfl rfl rfl ?_
      refine v_bipush (pc' := 66) (v := 26) X dX9_known_64 (by decide) rfl ?_
      refine v_icmp_eq (pc' := 69) (tgt := 75) X dX9_known_66 (by decide) rfl (fun hc_66 => absurd hc_66 (by decide)) (fun _ => ?_)
      refine v_iload_n (pc' := 70) (i := 2) (j := 3) X dX9_known_69 rfl rfl rfl ?_
      refine v_bipush (pc' := 72) (v := 27) X dX9_known_70 (by decide) rfl ?_
      refine v_icmp_ne (pc' := 75) (tgt := 78) X dX9_known_72 (by decide) rfl (fun _ => ?_) (fun hc_72 => absurd hc_72 (by decide))
      refine v_iload (pc' := 80) (j := 0) X dX9_known_78 rfl rfl ?_
      refine v_if_ne (pc' := 83) (tgt := 116) X dX9_known_80 (by decide) rfl (fun _ => ?_) (fun hc_80 => absurd hc_80 (by decide))
      refine v_iload_n (pc' := 117) (i := 2) (j := 3) X dX9_known_116 rfl rfl rfl ?_
      refine v_bipush (pc' := 119) (v := 15) X dX9_known_117 (by decide) rfl ?_
      refine v_icmp_le (pc' := 122) (tgt := 128) X dX9_known_119 (by decide) rfl (fun _ => ?_) (fun hc_119 => absurd (by decide) hc_119)
      refine v_aload_n (pc' := 129) (i := 0) (j := 1) X dX9_known_128 rfl rfl rfl ?_
      refine v_aload_n (pc' := 130) (i := 1) (j := 2) X dX9_known_129 rfl rfl rfl ?_
      refine v_iload_n (pc' := 131) (i := 2) (j := 3) X dX9_known_130 rfl rfl rfl ?_
      refine v_iload_n (pc' := 132) (i := 3) (j := 4) X dX9_known_131 rfl rfl rfl ?_
      refine v_iload (pc' := 134) (j := 5) X dX9_known_132 rfl rfl ?_
      refine v_iload (pc' := 136) (j := 6) X dX9_known_134 rfl rfl ?_
      refine v_callV (pc' := 139) X (st := []) (c_X9_plain_8 (M := M) hi hg hts hI (x := x) (y := y) (z := z)) k_X9_plain w_ml_X9_91 w_im_X9_plain w_se_X9_X9_plain (rv_M) (by rw [hR]; exact ⟨Nat.le_of_ble_eq_true rfl, Nat.le_of_ble_eq_true rfl⟩) rfl rfl (Nat.le_of_ble_eq_true rfl) dX9_known_136 rfl (⟨Nat.zero_le _, Nat.zero_le _⟩) ?_
      rintro _ _ ⟨rfl, rfl⟩
      refine v_ireturn X R (Nat.zero_le _) (Nat.zero_le _) dX9_known_139 ?_
      have hF : fKnown M n (tb i) 8 x y z = ((fPlain M n (tb i) 8 x y z).1, (fPlain M n (tb i) 8 x y z).2) := by
        unfold fKnown
        rw [if_neg hc_23, if_pos hin]
        rw [if_neg (by decide)]
        unfold fRest
        rw [if_pos (by decide)]
      rw [hF]
      exact ⟨rfl, rfl⟩
    · have hnin : ¬ fIn M (tb i) := fun z9 => by obtain ⟨q9, y9, y8⟩ := z9; rw [h4, nn_nI (by omega)] at y9; exact hno q9 y9 y8
      refine v_if_lt (pc' := 35) (tgt := 39) X dX9_known_32 (by decide) rfl (fun _ => ?_) (fun hc_32 => absurd (by decide) hc_32)
      refine v_iconst (pc' := 40) (v := 0) X dX9_known_39 (by decide) rfl ?_
      refine v_istore (pc' := 42) (lv' := [(6, .int 0), (0, .ref (ad (0))), (1, .ref (ad (tb i))), (2, .int 8), (3, .int x), (4, .int y), (5, .int z)]) X dX9_known_40 (by decide) rfl rfl ?_
      refine v_iload (pc' := 44) (j := 0) X dX9_known_42 rfl rfl ?_
      refine v_if_eq (pc' := 47) (tgt := 78) X dX9_known_44 (by decide) rfl (fun _ => ?_) (fun hc_44 => absurd (by decide) hc_44)
      refine v_iload (pc' := 80) (j := 0) X dX9_known_78 rfl rfl ?_
      refine v_if_ne (pc' := 83) (tgt := 116) X dX9_known_80 (by decide) rfl (fun hc_80 => absurd (by decide) hc_80) (fun _ => ?_)
      refine v_iload_n (pc' := 84) (i := 2) (j := 3) X dX9_known_83 rfl rfl rfl ?_
      refine v_bipush (pc' := 86) (v := 16) X dX9_known_84 (by decide) rfl ?_
      refine v_icmp_eq (pc' := 89) (tgt := 113) X dX9_known_86 (by decide) rfl (fun hc_86 => absurd hc_86 (by decide)) (fun _ => ?_)
      refine v_iload_n (pc' := 90) (i := 2) (j := 3) X dX9_known_89 rfl rfl rfl ?_
      refine v_bipush (pc' := 92) (v := 17) X dX9_known_90 (by decide) rfl ?_
      refine v_icmp_eq (pc' := 95) (tgt := 113) X dX9_known_92 (by decide) rfl (fun hc_92 => absurd hc_92 (by decide)) (fun _ => ?_)
      refine v_iload_n (pc' := 96) (i := 2) (j := 3) X dX9_known_95 rfl rfl rfl ?_
      refine v_bipush (pc' := 98) (v := 19) X dX9_known_96 (by decide) rfl ?_
      refine v_icmp_eq (pc' := 101) (tgt := 113) X dX9_known_98 (by decide) rfl (fun hc_98 => absurd hc_98 (by decide)) (fun _ => ?_)
      refine v_iload_n (pc' := 102) (i := 2) (j := 3) X dX9_known_101 rfl rfl rfl ?_
      refine v_bipush (pc' := 104) (v := 20) X dX9_known_102 (by decide) rfl ?_
      refine v_icmp_eq (pc' := 107) (tgt := 113) X dX9_known_104 (by decide) rfl (fun hc_104 => absurd hc_104 (by decide)) (fun _ => ?_)
      refine v_iload_n (pc' := 108) (i := 2) (j := 3) X dX9_known_107 rfl rfl rfl ?_
      refine v_bipush (pc' := 110) (v := 23) X dX9_known_108 (by decide) rfl ?_
      refine v_icmp_ne (pc' := 113) (tgt := 116) X dX9_known_110 (by decide) rfl (fun _ => ?_) (fun hc_110 => absurd hc_110 (by decide))
      refine v_iload_n (pc' := 117) (i := 2) (j := 3) X dX9_known_116 rfl rfl rfl ?_
      refine v_bipush (pc' := 119) (v := 15) X dX9_known_117 (by decide) rfl ?_
      refine v_icmp_le (pc' := 122) (tgt := 128) X dX9_known_119 (by decide) rfl (fun _ => ?_) (fun hc_119 => absurd (by decide) hc_119)
      refine v_aload_n (pc' := 129) (i := 0) (j := 1) X dX9_known_128 rfl rfl rfl ?_
      refine v_aload_n (pc' := 130) (i := 1) (j := 2) X dX9_known_129 rfl rfl rfl ?_
      refine v_iload_n (pc' := 131) (i := 2) (j := 3) X dX9_known_130 rfl rfl rfl ?_
      refine v_iload_n (pc' := 132) (i := 3) (j := 4) X dX9_known_131 rfl rfl rfl ?_
      refine v_iload (pc' := 134) (j := 5) X dX9_known_132 rfl rfl ?_
      refine v_iload (pc' := 136) (j := 6) X dX9_known_134 rfl rfl ?_
      refine v_callV (pc' := 139) X (st := []) (c_X9_plain_8 (M := M) hi hg hts hI (x := x) (y := y) (z := z)) k_X9_plain w_ml_X9_91 w_im_X9_plain w_se_X9_X9_plain (rv_M) (by rw [hR]; exact ⟨Nat.le_of_ble_eq_true rfl, Nat.le_of_ble_eq_true rfl⟩) rfl rfl (Nat.le_of_ble_eq_true rfl) dX9_known_136 rfl (⟨Nat.zero_le _, Nat.zero_le _⟩) ?_
      rintro _ _ ⟨rfl, rfl⟩
      refine v_ireturn X R (Nat.zero_le _) (Nat.zero_le _) dX9_known_139 ?_
      have hF : fKnown M n (tb i) 8 x y z = ((fPlain M n (tb i) 8 x y z).1, (fPlain M n (tb i) 8 x y z).2) := by
        unfold fKnown
        rw [if_neg hc_23, if_neg hnin]
        rw [if_neg (by decide)]
        unfold fRest
        rw [if_pos (by decide)]
      rw [hF]
      exact ⟨rfl, rfl⟩
  -- not taken 23
  · refine v_iconst (pc' := 27) (v := (-1)) X dX9_known_26 (by decide) rfl ?_
    refine v_ireturn X R (Nat.zero_le _) (Nat.zero_le _) dX9_known_27 ?_
    have hF : fKnown M n (tb i) 8 x y z = (M, (-1)) := by
      unfold fKnown
      exact if_pos hc_23
    rw [hF]
    exact ⟨rfl, rfl⟩
set_option maxHeartbeats 4000000 in
set_option maxRecDepth 100000 in
theorem c_X9_known_9 {l : Launch} {D : va_G} {Y : Nat → ClassId} {zz : Nat → Nat} {n sz us pd : Nat} {ad : Nat → Nat} {M : vM} {i ca e r w : Nat} (hi : i < n) (hg : gI M n sz us pd) (hts : ∀ i, i < n → ∃ ca e r w, tI M us (tb i) ca e r w) (hI : tI M us (tb i) ca e r w) (hst1 : M.1 (tb i) 0 = 1) {x y z : Int32} : Ct l D Y zz yX9_known cX9_known 7 (some FieldType.int) 2 47 [.ref (ad (0)), .ref (ad (tb i)), .int 9, .int x, .int y, .int z] (wM Y n ad M) 0 0 (fun r w => r = some (.int (fKnown M n (tb i) 9 x y z).2) ∧ w = wM Y n ad (fKnown M n (tb i) 9 x y z).1) := by
  refine v_entry (by decide +kernel) (Nat.le_of_ble_eq_true rfl) ?_
  intro K X R hR hnm hl hD hY hz
  subst hl hD hY hz
  refine v_sub (lv' := [(0, .ref (ad (0))), (1, .ref (ad (tb i))), (2, .int 9), (3, .int x), (4, .int y), (5, .int z)]) [0, 1, 2, 3, 4, 5] rfl ?_
  obtain ⟨hsz, hsz2, hn2, hn1, hn16, hus, hus2, hpd, hpd2, h17, hfs, hvi, hgl⟩ := id hg
  obtain ⟨h3, hca, h4, he, h5, hr, h6, hw, hso, huq, hct, hctm, hwt, hwtm, hwt0, hpk, hst, hem, hov, hrg, hsv, hrd, hwr, hva⟩ := id hI
  refine v_iload_n (pc' := 1) (i := 2) (j := 2) X dX9_known_0 rfl rfl rfl ?_
  refine v_if_lt (pc' := 4) (tgt := 10) X dX9_known_1 (by decide) rfl (fun hc_1 => absurd hc_1 (by decide)) (fun _ => ?_)
  refine v_iload_n (pc' := 5) (i := 2) (j := 2) X dX9_known_4 rfl rfl rfl ?_
  refine v_bipush (pc' := 7) (v := 29) X dX9_known_5 (by decide) rfl ?_
  refine v_icmp_le (pc' := 10) (tgt := 12) X dX9_known_7 (by decide) rfl (fun _ => ?_) (fun hc_7 => absurd (by decide) hc_7)
  refine v_aload_n (pc' := 13) (i := 0) (j := 0) X dX9_known_12 rfl rfl rfl ?_
  refine v_aload_n (pc' := 14) (i := 1) (j := 1) X dX9_known_13 rfl rfl rfl ?_
  refine v_iload_n (pc' := 15) (i := 2) (j := 2) X dX9_known_14 rfl rfl rfl ?_
  refine v_iload_n (pc' := 16) (i := 3) (j := 3) X dX9_known_15 rfl rfl rfl ?_
  refine v_iload (pc' := 18) (j := 4) X dX9_known_16 rfl rfl ?_
  refine v_iload (pc' := 20) (j := 5) X dX9_known_18 rfl rfl ?_
  refine v_callV (pc' := 23) X (st := []) (c_X9_wrong_9 (M := M) hi (x := x) (y := y) (z := z)) k_X9_wrong w_ml_X9_83 w_im_X9_wrong w_se_X9_X9_wrong (rv_M) (by rw [hR]; exact ⟨Nat.le_of_ble_eq_true rfl, Nat.le_of_ble_eq_true rfl⟩) rfl rfl (Nat.le_of_ble_eq_true rfl) dX9_known_20 rfl (⟨Nat.zero_le _, Nat.zero_le _⟩) ?_
  rintro _ _ ⟨rfl, rfl⟩
  refine v_ifB_eq (pc' := 26) (tgt := 28) X dX9_known_23 (by decide) rfl (fun hc_23 => ?_) (fun hc_23 => ?_)
  -- taken 23
  · refine v_aload_n (pc' := 29) (i := 1) (j := 1) X dX9_known_28 rfl rfl rfl ?_
    refine v_callV (pc' := 32) X (st := []) (c_X8_atomic (M := M) hi (e := e) h4 he) k_X8_atomic w_ml_X9_87 w_im_X8_atomic w_se_X8_X8_atomic (rv_T hi) (by rw [hR]; exact ⟨Nat.le_of_ble_eq_true rfl, Nat.le_of_ble_eq_true rfl⟩) rfl rfl (Nat.le_of_ble_eq_true rfl) dX9_known_29 rfl (⟨Nat.zero_le _, Nat.zero_le _⟩) ?_
    rintro _ _ ⟨rfl, x9, rfl, hx9⟩
    rcases hx9 with ⟨k0, hk0, h0, hf0, rfl⟩ | ⟨hno, rfl⟩
    · have hin : fIn M (tb i) := ⟨k0, by rw [h4, nn_nI (by omega)]; exact hk0, h0⟩
      refine v_if_lt (pc' := 35) (tgt := 39) X dX9_known_32 (by decide) rfl (fun hc_32 => absurd hc_32 (nI_pos (by omega))) (fun _ => ?_)
      refine v_iconst (pc' := 36) (v := 1) X dX9_known_35 (by decide) rfl ?_
      refine v_goto (pc' := 40) X dX9_known_36 (by decide) ?_
      refine v_istore (pc' := 42) (lv' := [(6, .int 1), (0, .ref (ad (0))), (1, .ref (ad (tb i))), (2, .int 9), (3, .int x), (4, .int y), (5, .int z)]) X dX9_known_40 (by decide) rfl rfl ?_
      refine v_iload (pc' := 44) (j := 0) X dX9_known_42 rfl rfl ?_
      refine v_if_eq (pc' := 47) (tgt := 78) X dX9_known_44 (by decide) rfl (fun hc_44 => absurd hc_44 (by decide)) (fun _ => ?_)
      refine v_iload_n (pc' := 48) (i := 2) (j := 3) X dX9_known_47 rfl rfl rfl ?_
      refine v_if_eq (pc' := 51) (tgt := 75) X dX9_known_48 (by decide) rfl (fun hc_48 => absurd hc_48 (by decide)) (fun _ => ?_)
      refine v_iload_n (pc' := 52) (i := 2) (j := 3) X dX9_known_51 rfl rfl rfl ?_
      refine v_bipush (pc' := 54) (v := 18) X dX9_known_52 (by decide) rfl ?_
      refine v_icmp_eq (pc' := 57) (tgt := 75) X dX9_known_54 (by decide) rfl (fun hc_54 => absurd hc_54 (by decide)) (fun _ => ?_)
      refine v_iload_n (pc' := 58) (i := 2) (j := 3) X dX9_known_57 rfl rfl rfl ?_
      refine v_bipush (pc' := 60) (v := 25) X dX9_known_58 (by decide) rfl ?_
      refine v_icmp_eq (pc' := 63) (tgt := 75) X dX9_known_60 (by decide) rfl (fun hc_60 => absurd hc_60 (by decide)) (fun _ => ?_)
      refine v_iload_n (pc' := 64) (i := 2) (j := 3) X dX9_known_63 rfl rfl rfl ?_
      refine v_bipush (pc' := 66) (v := 26) X dX9_known_64 (by decide) rfl ?_
      refine v_icmp_eq (pc' := 69) (tgt := 75) X dX9_known_66 (by decide) rfl (fun hc_66 => absurd hc_66 (by decide)) (fun _ => ?_)
      refine v_iload_n (pc' := 70) (i := 2) (j := 3) X dX9_known_69 rfl rfl rfl ?_
      refine v_bipush (pc' := 72) (v := 27) X dX9_known_70 (by decide) rfl ?_
      refine v_icmp_ne (pc' := 75) (tgt := 78) X dX9_known_72 (by decide) rfl (fun _ => ?_) (fun hc_72 => absurd hc_72 (by decide))
      refine v_iload (pc' := 80) (j := 0) X dX9_known_78 rfl rfl ?_
      refine v_if_ne (pc' := 83) (tgt := 116) X dX9_known_80 (by decide) rfl (fun _ => ?_) (fun hc_80 => absurd hc_80 (by decide))
      refine v_iload_n (pc' := 117) (i := 2) (j := 3) X dX9_known_116 rfl rfl rfl ?_
      refine v_bipush (pc' := 119) (v := 15) X dX9_known_117 (by decide) rfl ?_
      refine v_icmp_le (pc' := 122) (tgt := 128) X dX9_known_119 (by decide) rfl (fun _ => ?_) (fun hc_119 => absurd (by decide) hc_119)
      refine v_aload_n (pc' := 129) (i := 0) (j := 1) X dX9_known_128 rfl rfl rfl ?_
      refine v_aload_n (pc' := 130) (i := 1) (j := 2) X dX9_known_129 rfl rfl rfl ?_
      refine v_iload_n (pc' := 131) (i := 2) (j := 3) X dX9_known_130 rfl rfl rfl ?_
      refine v_iload_n (pc' := 132) (i := 3) (j := 4) X dX9_known_131 rfl rfl rfl ?_
      refine v_iload (pc' := 134) (j := 5) X dX9_known_132 rfl rfl ?_
      refine v_iload (pc' := 136) (j := 6) X dX9_known_134 rfl rfl ?_
      obtain ⟨hx1, hx2⟩ := nrg_not (fun z9 => hc_23 (z9))
      refine v_callV (pc' := 139) X (st := []) (c_X9_plain_9 (M := M) hi hg hts hI (x := x) (y := y) (z := z) hx1 hx2) k_X9_plain w_ml_X9_91 w_im_X9_plain w_se_X9_X9_plain (rv_M) (by rw [hR]; exact ⟨Nat.le_of_ble_eq_true rfl, Nat.le_of_ble_eq_true rfl⟩) rfl rfl (Nat.le_of_ble_eq_true rfl) dX9_known_136 rfl (⟨Nat.zero_le _, Nat.zero_le _⟩) ?_
      rintro _ _ ⟨rfl, rfl⟩
      refine v_ireturn X R (Nat.zero_le _) (Nat.zero_le _) dX9_known_139 ?_
      have hF : fKnown M n (tb i) 9 x y z = ((fPlain M n (tb i) 9 x y z).1, (fPlain M n (tb i) 9 x y z).2) := by
        unfold fKnown
        rw [if_neg hc_23, if_pos hin]
        rw [if_neg (by decide)]
        unfold fRest
        rw [if_pos (by decide)]
      rw [hF]
      exact ⟨rfl, rfl⟩
    · have hnin : ¬ fIn M (tb i) := fun z9 => by obtain ⟨q9, y9, y8⟩ := z9; rw [h4, nn_nI (by omega)] at y9; exact hno q9 y9 y8
      refine v_if_lt (pc' := 35) (tgt := 39) X dX9_known_32 (by decide) rfl (fun _ => ?_) (fun hc_32 => absurd (by decide) hc_32)
      refine v_iconst (pc' := 40) (v := 0) X dX9_known_39 (by decide) rfl ?_
      refine v_istore (pc' := 42) (lv' := [(6, .int 0), (0, .ref (ad (0))), (1, .ref (ad (tb i))), (2, .int 9), (3, .int x), (4, .int y), (5, .int z)]) X dX9_known_40 (by decide) rfl rfl ?_
      refine v_iload (pc' := 44) (j := 0) X dX9_known_42 rfl rfl ?_
      refine v_if_eq (pc' := 47) (tgt := 78) X dX9_known_44 (by decide) rfl (fun _ => ?_) (fun hc_44 => absurd (by decide) hc_44)
      refine v_iload (pc' := 80) (j := 0) X dX9_known_78 rfl rfl ?_
      refine v_if_ne (pc' := 83) (tgt := 116) X dX9_known_80 (by decide) rfl (fun hc_80 => absurd (by decide) hc_80) (fun _ => ?_)
      refine v_iload_n (pc' := 84) (i := 2) (j := 3) X dX9_known_83 rfl rfl rfl ?_
      refine v_bipush (pc' := 86) (v := 16) X dX9_known_84 (by decide) rfl ?_
      refine v_icmp_eq (pc' := 89) (tgt := 113) X dX9_known_86 (by decide) rfl (fun hc_86 => absurd hc_86 (by decide)) (fun _ => ?_)
      refine v_iload_n (pc' := 90) (i := 2) (j := 3) X dX9_known_89 rfl rfl rfl ?_
      refine v_bipush (pc' := 92) (v := 17) X dX9_known_90 (by decide) rfl ?_
      refine v_icmp_eq (pc' := 95) (tgt := 113) X dX9_known_92 (by decide) rfl (fun hc_92 => absurd hc_92 (by decide)) (fun _ => ?_)
      refine v_iload_n (pc' := 96) (i := 2) (j := 3) X dX9_known_95 rfl rfl rfl ?_
      refine v_bipush (pc' := 98) (v := 19) X dX9_known_96 (by decide) rfl ?_
      refine v_icmp_eq (pc' := 101) (tgt := 113) X dX9_known_98 (by decide) rfl (fun hc_98 => absurd hc_98 (by decide)) (fun _ => ?_)
      refine v_iload_n (pc' := 102) (i := 2) (j := 3) X dX9_known_101 rfl rfl rfl ?_
      refine v_bipush (pc' := 104) (v := 20) X dX9_known_102 (by decide) rfl ?_
      refine v_icmp_eq (pc' := 107) (tgt := 113) X dX9_known_104 (by decide) rfl (fun hc_104 => absurd hc_104 (by decide)) (fun _ => ?_)
      refine v_iload_n (pc' := 108) (i := 2) (j := 3) X dX9_known_107 rfl rfl rfl ?_
      refine v_bipush (pc' := 110) (v := 23) X dX9_known_108 (by decide) rfl ?_
      refine v_icmp_ne (pc' := 113) (tgt := 116) X dX9_known_110 (by decide) rfl (fun _ => ?_) (fun hc_110 => absurd hc_110 (by decide))
      refine v_iload_n (pc' := 117) (i := 2) (j := 3) X dX9_known_116 rfl rfl rfl ?_
      refine v_bipush (pc' := 119) (v := 15) X dX9_known_117 (by decide) rfl ?_
      refine v_icmp_le (pc' := 122) (tgt := 128) X dX9_known_119 (by decide) rfl (fun _ => ?_) (fun hc_119 => absurd (by decide) hc_119)
      refine v_aload_n (pc' := 129) (i := 0) (j := 1) X dX9_known_128 rfl rfl rfl ?_
      refine v_aload_n (pc' := 130) (i := 1) (j := 2) X dX9_known_129 rfl rfl rfl ?_
      refine v_iload_n (pc' := 131) (i := 2) (j := 3) X dX9_known_130 rfl rfl rfl ?_
      refine v_iload_n (pc' := 132) (i := 3) (j := 4) X dX9_known_131 rfl rfl rfl ?_
      refine v_iload (pc' := 134) (j := 5) X dX9_known_132 rfl rfl ?_
      refine v_iload (pc' := 136) (j := 6) X dX9_known_134 rfl rfl ?_
      obtain ⟨hx1, hx2⟩ := nrg_not (fun z9 => hc_23 (z9))
      refine v_callV (pc' := 139) X (st := []) (c_X9_plain_9 (M := M) hi hg hts hI (x := x) (y := y) (z := z) hx1 hx2) k_X9_plain w_ml_X9_91 w_im_X9_plain w_se_X9_X9_plain (rv_M) (by rw [hR]; exact ⟨Nat.le_of_ble_eq_true rfl, Nat.le_of_ble_eq_true rfl⟩) rfl rfl (Nat.le_of_ble_eq_true rfl) dX9_known_136 rfl (⟨Nat.zero_le _, Nat.zero_le _⟩) ?_
      rintro _ _ ⟨rfl, rfl⟩
      refine v_ireturn X R (Nat.zero_le _) (Nat.zero_le _) dX9_known_139 ?_
      have hF : fKnown M n (tb i) 9 x y z = ((fPlain M n (tb i) 9 x y z).1, (fPlain M n (tb i) 9 x y z).2) := by
        unfold fKnown
        rw [if_neg hc_23, if_neg hnin]
        rw [if_neg (by decide)]
        unfold fRest
        rw [if_pos (by decide)]
      rw [hF]
      exact ⟨rfl, rfl⟩
  -- not taken 23
  · refine v_iconst (pc' := 27) (v := (-1)) X dX9_known_26 (by decide) rfl ?_
    refine v_ireturn X R (Nat.zero_le _) (Nat.zero_le _) dX9_known_27 ?_
    have hF : fKnown M n (tb i) 9 x y z = (M, (-1)) := by
      unfold fKnown
      exact if_pos hc_23
    rw [hF]
    exact ⟨rfl, rfl⟩
set_option maxHeartbeats 4000000 in
set_option maxRecDepth 100000 in
theorem c_X9_known_10 {l : Launch} {D : va_G} {Y : Nat → ClassId} {zz : Nat → Nat} {n sz us pd : Nat} {ad : Nat → Nat} {M : vM} {i ca e r w : Nat} (hi : i < n) (hg : gI M n sz us pd) (hts : ∀ i, i < n → ∃ ca e r w, tI M us (tb i) ca e r w) (hI : tI M us (tb i) ca e r w) (hst1 : M.1 (tb i) 0 = 1) {x y z : Int32} : Ct l D Y zz yX9_known cX9_known 7 (some FieldType.int) 2 47 [.ref (ad (0)), .ref (ad (tb i)), .int 10, .int x, .int y, .int z] (wM Y n ad M) 0 0 (fun r w => r = some (.int (fKnown M n (tb i) 10 x y z).2) ∧ w = wM Y n ad (fKnown M n (tb i) 10 x y z).1) := by
  refine v_entry (by decide +kernel) (Nat.le_of_ble_eq_true rfl) ?_
  intro K X R hR hnm hl hD hY hz
  subst hl hD hY hz
  refine v_sub (lv' := [(0, .ref (ad (0))), (1, .ref (ad (tb i))), (2, .int 10), (3, .int x), (4, .int y), (5, .int z)]) [0, 1, 2, 3, 4, 5] rfl ?_
  obtain ⟨hsz, hsz2, hn2, hn1, hn16, hus, hus2, hpd, hpd2, h17, hfs, hvi, hgl⟩ := id hg
  obtain ⟨h3, hca, h4, he, h5, hr, h6, hw, hso, huq, hct, hctm, hwt, hwtm, hwt0, hpk, hst, hem, hov, hrg, hsv, hrd, hwr, hva⟩ := id hI
  refine v_iload_n (pc' := 1) (i := 2) (j := 2) X dX9_known_0 rfl rfl rfl ?_
  refine v_if_lt (pc' := 4) (tgt := 10) X dX9_known_1 (by decide) rfl (fun hc_1 => absurd hc_1 (by decide)) (fun _ => ?_)
  refine v_iload_n (pc' := 5) (i := 2) (j := 2) X dX9_known_4 rfl rfl rfl ?_
  refine v_bipush (pc' := 7) (v := 29) X dX9_known_5 (by decide) rfl ?_
  refine v_icmp_le (pc' := 10) (tgt := 12) X dX9_known_7 (by decide) rfl (fun _ => ?_) (fun hc_7 => absurd (by decide) hc_7)
  refine v_aload_n (pc' := 13) (i := 0) (j := 0) X dX9_known_12 rfl rfl rfl ?_
  refine v_aload_n (pc' := 14) (i := 1) (j := 1) X dX9_known_13 rfl rfl rfl ?_
  refine v_iload_n (pc' := 15) (i := 2) (j := 2) X dX9_known_14 rfl rfl rfl ?_
  refine v_iload_n (pc' := 16) (i := 3) (j := 3) X dX9_known_15 rfl rfl rfl ?_
  refine v_iload (pc' := 18) (j := 4) X dX9_known_16 rfl rfl ?_
  refine v_iload (pc' := 20) (j := 5) X dX9_known_18 rfl rfl ?_
  refine v_callV (pc' := 23) X (st := []) (c_X9_wrong_10 (M := M) hi (x := x) (y := y) (z := z)) k_X9_wrong w_ml_X9_83 w_im_X9_wrong w_se_X9_X9_wrong (rv_M) (by rw [hR]; exact ⟨Nat.le_of_ble_eq_true rfl, Nat.le_of_ble_eq_true rfl⟩) rfl rfl (Nat.le_of_ble_eq_true rfl) dX9_known_20 rfl (⟨Nat.zero_le _, Nat.zero_le _⟩) ?_
  rintro _ _ ⟨rfl, rfl⟩
  refine v_ifB_eq (pc' := 26) (tgt := 28) X dX9_known_23 (by decide) rfl (fun hc_23 => ?_) (fun hc_23 => ?_)
  -- taken 23
  · refine v_aload_n (pc' := 29) (i := 1) (j := 1) X dX9_known_28 rfl rfl rfl ?_
    refine v_callV (pc' := 32) X (st := []) (c_X8_atomic (M := M) hi (e := e) h4 he) k_X8_atomic w_ml_X9_87 w_im_X8_atomic w_se_X8_X8_atomic (rv_T hi) (by rw [hR]; exact ⟨Nat.le_of_ble_eq_true rfl, Nat.le_of_ble_eq_true rfl⟩) rfl rfl (Nat.le_of_ble_eq_true rfl) dX9_known_29 rfl (⟨Nat.zero_le _, Nat.zero_le _⟩) ?_
    rintro _ _ ⟨rfl, x9, rfl, hx9⟩
    rcases hx9 with ⟨k0, hk0, h0, hf0, rfl⟩ | ⟨hno, rfl⟩
    · have hin : fIn M (tb i) := ⟨k0, by rw [h4, nn_nI (by omega)]; exact hk0, h0⟩
      refine v_if_lt (pc' := 35) (tgt := 39) X dX9_known_32 (by decide) rfl (fun hc_32 => absurd hc_32 (nI_pos (by omega))) (fun _ => ?_)
      refine v_iconst (pc' := 36) (v := 1) X dX9_known_35 (by decide) rfl ?_
      refine v_goto (pc' := 40) X dX9_known_36 (by decide) ?_
      refine v_istore (pc' := 42) (lv' := [(6, .int 1), (0, .ref (ad (0))), (1, .ref (ad (tb i))), (2, .int 10), (3, .int x), (4, .int y), (5, .int z)]) X dX9_known_40 (by decide) rfl rfl ?_
      refine v_iload (pc' := 44) (j := 0) X dX9_known_42 rfl rfl ?_
      refine v_if_eq (pc' := 47) (tgt := 78) X dX9_known_44 (by decide) rfl (fun hc_44 => absurd hc_44 (by decide)) (fun _ => ?_)
      refine v_iload_n (pc' := 48) (i := 2) (j := 3) X dX9_known_47 rfl rfl rfl ?_
      refine v_if_eq (pc' := 51) (tgt := 75) X dX9_known_48 (by decide) rfl (fun hc_48 => absurd hc_48 (by decide)) (fun _ => ?_)
      refine v_iload_n (pc' := 52) (i := 2) (j := 3) X dX9_known_51 rfl rfl rfl ?_
      refine v_bipush (pc' := 54) (v := 18) X dX9_known_52 (by decide) rfl ?_
      refine v_icmp_eq (pc' := 57) (tgt := 75) X dX9_known_54 (by decide) rfl (fun hc_54 => absurd hc_54 (by decide)) (fun _ => ?_)
      refine v_iload_n (pc' := 58) (i := 2) (j := 3) X dX9_known_57 rfl rfl rfl ?_
      refine v_bipush (pc' := 60) (v := 25) X dX9_known_58 (by decide) rfl ?_
      refine v_icmp_eq (pc' := 63) (tgt := 75) X dX9_known_60 (by decide) rfl (fun hc_60 => absurd hc_60 (by decide)) (fun _ => ?_)
      refine v_iload_n (pc' := 64) (i := 2) (j := 3) X dX9_known_63 rfl rfl rfl ?_
      refine v_bipush (pc' := 66) (v := 26) X dX9_known_64 (by decide) rfl ?_
      refine v_icmp_eq (pc' := 69) (tgt := 75) X dX9_known_66 (by decide) rfl (fun hc_66 => absurd hc_66 (by decide)) (fun _ => ?_)
      refine v_iload_n (pc' := 70) (i := 2) (j := 3) X dX9_known_69 rfl rfl rfl ?_
      refine v_bipush (pc' := 72) (v := 27) X dX9_known_70 (by decide) rfl ?_
      refine v_icmp_ne (pc' := 75) (tgt := 78) X dX9_known_72 (by decide) rfl (fun _ => ?_) (fun hc_72 => absurd hc_72 (by decide))
      refine v_iload (pc' := 80) (j := 0) X dX9_known_78 rfl rfl ?_
      refine v_if_ne (pc' := 83) (tgt := 116) X dX9_known_80 (by decide) rfl (fun _ => ?_) (fun hc_80 => absurd hc_80 (by decide))
      refine v_iload_n (pc' := 117) (i := 2) (j := 3) X dX9_known_116 rfl rfl rfl ?_
      refine v_bipush (pc' := 119) (v := 15) X dX9_known_117 (by decide) rfl ?_
      refine v_icmp_le (pc' := 122) (tgt := 128) X dX9_known_119 (by decide) rfl (fun _ => ?_) (fun hc_119 => absurd (by decide) hc_119)
      refine v_aload_n (pc' := 129) (i := 0) (j := 1) X dX9_known_128 rfl rfl rfl ?_
      refine v_aload_n (pc' := 130) (i := 1) (j := 2) X dX9_known_129 rfl rfl rfl ?_
      refine v_iload_n (pc' := 131) (i := 2) (j := 3) X dX9_known_130 rfl rfl rfl ?_
      refine v_iload_n (pc' := 132) (i := 3) (j := 4) X dX9_known_131 rfl rfl rfl ?_
      refine v_iload (pc' := 134) (j := 5) X dX9_known_132 rfl rfl ?_
      refine v_iload (pc' := 136) (j := 6) X dX9_known_134 rfl rfl ?_
      refine v_callV (pc' := 139) X (st := []) (c_X9_plain_10 (M := M) hi hg hts hI (x := x) (y := y) (z := z)) k_X9_plain w_ml_X9_91 w_im_X9_plain w_se_X9_X9_plain (rv_M) (by rw [hR]; exact ⟨Nat.le_of_ble_eq_true rfl, Nat.le_of_ble_eq_true rfl⟩) rfl rfl (Nat.le_of_ble_eq_true rfl) dX9_known_136 rfl (⟨Nat.zero_le _, Nat.zero_le _⟩) ?_
      rintro _ _ ⟨rfl, rfl⟩
      refine v_ireturn X R (Nat.zero_le _) (Nat.zero_le _) dX9_known_139 ?_
      have hF : fKnown M n (tb i) 10 x y z = ((fPlain M n (tb i) 10 x y z).1, (fPlain M n (tb i) 10 x y z).2) := by
        unfold fKnown
        rw [if_neg hc_23, if_pos hin]
        rw [if_neg (by decide)]
        unfold fRest
        rw [if_pos (by decide)]
      rw [hF]
      exact ⟨rfl, rfl⟩
    · have hnin : ¬ fIn M (tb i) := fun z9 => by obtain ⟨q9, y9, y8⟩ := z9; rw [h4, nn_nI (by omega)] at y9; exact hno q9 y9 y8
      refine v_if_lt (pc' := 35) (tgt := 39) X dX9_known_32 (by decide) rfl (fun _ => ?_) (fun hc_32 => absurd (by decide) hc_32)
      refine v_iconst (pc' := 40) (v := 0) X dX9_known_39 (by decide) rfl ?_
      refine v_istore (pc' := 42) (lv' := [(6, .int 0), (0, .ref (ad (0))), (1, .ref (ad (tb i))), (2, .int 10), (3, .int x), (4, .int y), (5, .int z)]) X dX9_known_40 (by decide) rfl rfl ?_
      refine v_iload (pc' := 44) (j := 0) X dX9_known_42 rfl rfl ?_
      refine v_if_eq (pc' := 47) (tgt := 78) X dX9_known_44 (by decide) rfl (fun _ => ?_) (fun hc_44 => absurd (by decide) hc_44)
      refine v_iload (pc' := 80) (j := 0) X dX9_known_78 rfl rfl ?_
      refine v_if_ne (pc' := 83) (tgt := 116) X dX9_known_80 (by decide) rfl (fun hc_80 => absurd (by decide) hc_80) (fun _ => ?_)
      refine v_iload_n (pc' := 84) (i := 2) (j := 3) X dX9_known_83 rfl rfl rfl ?_
      refine v_bipush (pc' := 86) (v := 16) X dX9_known_84 (by decide) rfl ?_
      refine v_icmp_eq (pc' := 89) (tgt := 113) X dX9_known_86 (by decide) rfl (fun hc_86 => absurd hc_86 (by decide)) (fun _ => ?_)
      refine v_iload_n (pc' := 90) (i := 2) (j := 3) X dX9_known_89 rfl rfl rfl ?_
      refine v_bipush (pc' := 92) (v := 17) X dX9_known_90 (by decide) rfl ?_
      refine v_icmp_eq (pc' := 95) (tgt := 113) X dX9_known_92 (by decide) rfl (fun hc_92 => absurd hc_92 (by decide)) (fun _ => ?_)
      refine v_iload_n (pc' := 96) (i := 2) (j := 3) X dX9_known_95 rfl rfl rfl ?_
      refine v_bipush (pc' := 98) (v := 19) X dX9_known_96 (by decide) rfl ?_
      refine v_icmp_eq (pc' := 101) (tgt := 113) X dX9_known_98 (by decide) rfl (fun hc_98 => absurd hc_98 (by decide)) (fun _ => ?_)
      refine v_iload_n (pc' := 102) (i := 2) (j := 3) X dX9_known_101 rfl rfl rfl ?_
      refine v_bipush (pc' := 104) (v := 20) X dX9_known_102 (by decide) rfl ?_
      refine v_icmp_eq (pc' := 107) (tgt := 113) X dX9_known_104 (by decide) rfl (fun hc_104 => absurd hc_104 (by decide)) (fun _ => ?_)
      refine v_iload_n (pc' := 108) (i := 2) (j := 3) X dX9_known_107 rfl rfl rfl ?_
      refine v_bipush (pc' := 110) (v := 23) X dX9_known_108 (by decide) rfl ?_
      refine v_icmp_ne (pc' := 113) (tgt := 116) X dX9_known_110 (by decide) rfl (fun _ => ?_) (fun hc_110 => absurd hc_110 (by decide))
      refine v_iload_n (pc' := 117) (i := 2) (j := 3) X dX9_known_116 rfl rfl rfl ?_
      refine v_bipush (pc' := 119) (v := 15) X dX9_known_117 (by decide) rfl ?_
      refine v_icmp_le (pc' := 122) (tgt := 128) X dX9_known_119 (by decide) rfl (fun _ => ?_) (fun hc_119 => absurd (by decide) hc_119)
      refine v_aload_n (pc' := 129) (i := 0) (j := 1) X dX9_known_128 rfl rfl rfl ?_
      refine v_aload_n (pc' := 130) (i := 1) (j := 2) X dX9_known_129 rfl rfl rfl ?_
      refine v_iload_n (pc' := 131) (i := 2) (j := 3) X dX9_known_130 rfl rfl rfl ?_
      refine v_iload_n (pc' := 132) (i := 3) (j := 4) X dX9_known_131 rfl rfl rfl ?_
      refine v_iload (pc' := 134) (j := 5) X dX9_known_132 rfl rfl ?_
      refine v_iload (pc' := 136) (j := 6) X dX9_known_134 rfl rfl ?_
      refine v_callV (pc' := 139) X (st := []) (c_X9_plain_10 (M := M) hi hg hts hI (x := x) (y := y) (z := z)) k_X9_plain w_ml_X9_91 w_im_X9_plain w_se_X9_X9_plain (rv_M) (by rw [hR]; exact ⟨Nat.le_of_ble_eq_true rfl, Nat.le_of_ble_eq_true rfl⟩) rfl rfl (Nat.le_of_ble_eq_true rfl) dX9_known_136 rfl (⟨Nat.zero_le _, Nat.zero_le _⟩) ?_
      rintro _ _ ⟨rfl, rfl⟩
      refine v_ireturn X R (Nat.zero_le _) (Nat.zero_le _) dX9_known_139 ?_
      have hF : fKnown M n (tb i) 10 x y z = ((fPlain M n (tb i) 10 x y z).1, (fPlain M n (tb i) 10 x y z).2) := by
        unfold fKnown
        rw [if_neg hc_23, if_neg hnin]
        rw [if_neg (by decide)]
        unfold fRest
        rw [if_pos (by decide)]
      rw [hF]
      exact ⟨rfl, rfl⟩
  -- not taken 23
  · refine v_iconst (pc' := 27) (v := (-1)) X dX9_known_26 (by decide) rfl ?_
    refine v_ireturn X R (Nat.zero_le _) (Nat.zero_le _) dX9_known_27 ?_
    have hF : fKnown M n (tb i) 10 x y z = (M, (-1)) := by
      unfold fKnown
      exact if_pos hc_23
    rw [hF]
    exact ⟨rfl, rfl⟩
set_option maxHeartbeats 4000000 in
set_option maxRecDepth 100000 in
theorem c_X9_known_11 {l : Launch} {D : va_G} {Y : Nat → ClassId} {zz : Nat → Nat} {n sz us pd : Nat} {ad : Nat → Nat} {M : vM} {i ca e r w : Nat} (hi : i < n) (hg : gI M n sz us pd) (hts : ∀ i, i < n → ∃ ca e r w, tI M us (tb i) ca e r w) (hI : tI M us (tb i) ca e r w) (hst1 : M.1 (tb i) 0 = 1) {x y z : Int32} : Ct l D Y zz yX9_known cX9_known 7 (some FieldType.int) 2 47 [.ref (ad (0)), .ref (ad (tb i)), .int 11, .int x, .int y, .int z] (wM Y n ad M) 0 0 (fun r w => r = some (.int (fKnown M n (tb i) 11 x y z).2) ∧ w = wM Y n ad (fKnown M n (tb i) 11 x y z).1) := by
  refine v_entry (by decide +kernel) (Nat.le_of_ble_eq_true rfl) ?_
  intro K X R hR hnm hl hD hY hz
  subst hl hD hY hz
  refine v_sub (lv' := [(0, .ref (ad (0))), (1, .ref (ad (tb i))), (2, .int 11), (3, .int x), (4, .int y), (5, .int z)]) [0, 1, 2, 3, 4, 5] rfl ?_
  obtain ⟨hsz, hsz2, hn2, hn1, hn16, hus, hus2, hpd, hpd2, h17, hfs, hvi, hgl⟩ := id hg
  obtain ⟨h3, hca, h4, he, h5, hr, h6, hw, hso, huq, hct, hctm, hwt, hwtm, hwt0, hpk, hst, hem, hov, hrg, hsv, hrd, hwr, hva⟩ := id hI
  refine v_iload_n (pc' := 1) (i := 2) (j := 2) X dX9_known_0 rfl rfl rfl ?_
  refine v_if_lt (pc' := 4) (tgt := 10) X dX9_known_1 (by decide) rfl (fun hc_1 => absurd hc_1 (by decide)) (fun _ => ?_)
  refine v_iload_n (pc' := 5) (i := 2) (j := 2) X dX9_known_4 rfl rfl rfl ?_
  refine v_bipush (pc' := 7) (v := 29) X dX9_known_5 (by decide) rfl ?_
  refine v_icmp_le (pc' := 10) (tgt := 12) X dX9_known_7 (by decide) rfl (fun _ => ?_) (fun hc_7 => absurd (by decide) hc_7)
  refine v_aload_n (pc' := 13) (i := 0) (j := 0) X dX9_known_12 rfl rfl rfl ?_
  refine v_aload_n (pc' := 14) (i := 1) (j := 1) X dX9_known_13 rfl rfl rfl ?_
  refine v_iload_n (pc' := 15) (i := 2) (j := 2) X dX9_known_14 rfl rfl rfl ?_
  refine v_iload_n (pc' := 16) (i := 3) (j := 3) X dX9_known_15 rfl rfl rfl ?_
  refine v_iload (pc' := 18) (j := 4) X dX9_known_16 rfl rfl ?_
  refine v_iload (pc' := 20) (j := 5) X dX9_known_18 rfl rfl ?_
  refine v_callV (pc' := 23) X (st := []) (c_X9_wrong_11 (M := M) hi (x := x) (y := y) (z := z)) k_X9_wrong w_ml_X9_83 w_im_X9_wrong w_se_X9_X9_wrong (rv_M) (by rw [hR]; exact ⟨Nat.le_of_ble_eq_true rfl, Nat.le_of_ble_eq_true rfl⟩) rfl rfl (Nat.le_of_ble_eq_true rfl) dX9_known_20 rfl (⟨Nat.zero_le _, Nat.zero_le _⟩) ?_
  rintro _ _ ⟨rfl, rfl⟩
  refine v_ifB_eq (pc' := 26) (tgt := 28) X dX9_known_23 (by decide) rfl (fun hc_23 => ?_) (fun hc_23 => ?_)
  -- taken 23
  · refine v_aload_n (pc' := 29) (i := 1) (j := 1) X dX9_known_28 rfl rfl rfl ?_
    refine v_callV (pc' := 32) X (st := []) (c_X8_atomic (M := M) hi (e := e) h4 he) k_X8_atomic w_ml_X9_87 w_im_X8_atomic w_se_X8_X8_atomic (rv_T hi) (by rw [hR]; exact ⟨Nat.le_of_ble_eq_true rfl, Nat.le_of_ble_eq_true rfl⟩) rfl rfl (Nat.le_of_ble_eq_true rfl) dX9_known_29 rfl (⟨Nat.zero_le _, Nat.zero_le _⟩) ?_
    rintro _ _ ⟨rfl, x9, rfl, hx9⟩
    rcases hx9 with ⟨k0, hk0, h0, hf0, rfl⟩ | ⟨hno, rfl⟩
    · have hin : fIn M (tb i) := ⟨k0, by rw [h4, nn_nI (by omega)]; exact hk0, h0⟩
      refine v_if_lt (pc' := 35) (tgt := 39) X dX9_known_32 (by decide) rfl (fun hc_32 => absurd hc_32 (nI_pos (by omega))) (fun _ => ?_)
      refine v_iconst (pc' := 36) (v := 1) X dX9_known_35 (by decide) rfl ?_
      refine v_goto (pc' := 40) X dX9_known_36 (by decide) ?_
      refine v_istore (pc' := 42) (lv' := [(6, .int 1), (0, .ref (ad (0))), (1, .ref (ad (tb i))), (2, .int 11), (3, .int x), (4, .int y), (5, .int z)]) X dX9_known_40 (by decide) rfl rfl ?_
      refine v_iload (pc' := 44) (j := 0) X dX9_known_42 rfl rfl ?_
      refine v_if_eq (pc' := 47) (tgt := 78) X dX9_known_44 (by decide) rfl (fun hc_44 => absurd hc_44 (by decide)) (fun _ => ?_)
      refine v_iload_n (pc' := 48) (i := 2) (j := 3) X dX9_known_47 rfl rfl rfl ?_
      refine v_if_eq (pc' := 51) (tgt := 75) X dX9_known_48 (by decide) rfl (fun hc_48 => absurd hc_48 (by decide)) (fun _ => ?_)
      refine v_iload_n (pc' := 52) (i := 2) (j := 3) X dX9_known_51 rfl rfl rfl ?_
      refine v_bipush (pc' := 54) (v := 18) X dX9_known_52 (by decide) rfl ?_
      refine v_icmp_eq (pc' := 57) (tgt := 75) X dX9_known_54 (by decide) rfl (fun hc_54 => absurd hc_54 (by decide)) (fun _ => ?_)
      refine v_iload_n (pc' := 58) (i := 2) (j := 3) X dX9_known_57 rfl rfl rfl ?_
      refine v_bipush (pc' := 60) (v := 25) X dX9_known_58 (by decide) rfl ?_
      refine v_icmp_eq (pc' := 63) (tgt := 75) X dX9_known_60 (by decide) rfl (fun hc_60 => absurd hc_60 (by decide)) (fun _ => ?_)
      refine v_iload_n (pc' := 64) (i := 2) (j := 3) X dX9_known_63 rfl rfl rfl ?_
      refine v_bipush (pc' := 66) (v := 26) X dX9_known_64 (by decide) rfl ?_
      refine v_icmp_eq (pc' := 69) (tgt := 75) X dX9_known_66 (by decide) rfl (fun hc_66 => absurd hc_66 (by decide)) (fun _ => ?_)
      refine v_iload_n (pc' := 70) (i := 2) (j := 3) X dX9_known_69 rfl rfl rfl ?_
      refine v_bipush (pc' := 72) (v := 27) X dX9_known_70 (by decide) rfl ?_
      refine v_icmp_ne (pc' := 75) (tgt := 78) X dX9_known_72 (by decide) rfl (fun _ => ?_) (fun hc_72 => absurd hc_72 (by decide))
      refine v_iload (pc' := 80) (j := 0) X dX9_known_78 rfl rfl ?_
      refine v_if_ne (pc' := 83) (tgt := 116) X dX9_known_80 (by decide) rfl (fun _ => ?_) (fun hc_80 => absurd hc_80 (by decide))
      refine v_iload_n (pc' := 117) (i := 2) (j := 3) X dX9_known_116 rfl rfl rfl ?_
      refine v_bipush (pc' := 119) (v := 15) X dX9_known_117 (by decide) rfl ?_
      refine v_icmp_le (pc' := 122) (tgt := 128) X dX9_known_119 (by decide) rfl (fun _ => ?_) (fun hc_119 => absurd (by decide) hc_119)
      refine v_aload_n (pc' := 129) (i := 0) (j := 1) X dX9_known_128 rfl rfl rfl ?_
      refine v_aload_n (pc' := 130) (i := 1) (j := 2) X dX9_known_129 rfl rfl rfl ?_
      refine v_iload_n (pc' := 131) (i := 2) (j := 3) X dX9_known_130 rfl rfl rfl ?_
      refine v_iload_n (pc' := 132) (i := 3) (j := 4) X dX9_known_131 rfl rfl rfl ?_
      refine v_iload (pc' := 134) (j := 5) X dX9_known_132 rfl rfl ?_
      refine v_iload (pc' := 136) (j := 6) X dX9_known_134 rfl rfl ?_
      refine v_callV (pc' := 139) X (st := []) (c_X9_plain_11 (M := M) hi hg hts hI (x := x) (y := y) (z := z)) k_X9_plain w_ml_X9_91 w_im_X9_plain w_se_X9_X9_plain (rv_M) (by rw [hR]; exact ⟨Nat.le_of_ble_eq_true rfl, Nat.le_of_ble_eq_true rfl⟩) rfl rfl (Nat.le_of_ble_eq_true rfl) dX9_known_136 rfl (⟨Nat.zero_le _, Nat.zero_le _⟩) ?_
      rintro _ _ ⟨rfl, rfl⟩
      refine v_ireturn X R (Nat.zero_le _) (Nat.zero_le _) dX9_known_139 ?_
      have hF : fKnown M n (tb i) 11 x y z = ((fPlain M n (tb i) 11 x y z).1, (fPlain M n (tb i) 11 x y z).2) := by
        unfold fKnown
        rw [if_neg hc_23, if_pos hin]
        rw [if_neg (by decide)]
        unfold fRest
        rw [if_pos (by decide)]
      rw [hF]
      exact ⟨rfl, rfl⟩
    · have hnin : ¬ fIn M (tb i) := fun z9 => by obtain ⟨q9, y9, y8⟩ := z9; rw [h4, nn_nI (by omega)] at y9; exact hno q9 y9 y8
      refine v_if_lt (pc' := 35) (tgt := 39) X dX9_known_32 (by decide) rfl (fun _ => ?_) (fun hc_32 => absurd (by decide) hc_32)
      refine v_iconst (pc' := 40) (v := 0) X dX9_known_39 (by decide) rfl ?_
      refine v_istore (pc' := 42) (lv' := [(6, .int 0), (0, .ref (ad (0))), (1, .ref (ad (tb i))), (2, .int 11), (3, .int x), (4, .int y), (5, .int z)]) X dX9_known_40 (by decide) rfl rfl ?_
      refine v_iload (pc' := 44) (j := 0) X dX9_known_42 rfl rfl ?_
      refine v_if_eq (pc' := 47) (tgt := 78) X dX9_known_44 (by decide) rfl (fun _ => ?_) (fun hc_44 => absurd (by decide) hc_44)
      refine v_iload (pc' := 80) (j := 0) X dX9_known_78 rfl rfl ?_
      refine v_if_ne (pc' := 83) (tgt := 116) X dX9_known_80 (by decide) rfl (fun hc_80 => absurd (by decide) hc_80) (fun _ => ?_)
      refine v_iload_n (pc' := 84) (i := 2) (j := 3) X dX9_known_83 rfl rfl rfl ?_
      refine v_bipush (pc' := 86) (v := 16) X dX9_known_84 (by decide) rfl ?_
      refine v_icmp_eq (pc' := 89) (tgt := 113) X dX9_known_86 (by decide) rfl (fun hc_86 => absurd hc_86 (by decide)) (fun _ => ?_)
      refine v_iload_n (pc' := 90) (i := 2) (j := 3) X dX9_known_89 rfl rfl rfl ?_
      refine v_bipush (pc' := 92) (v := 17) X dX9_known_90 (by decide) rfl ?_
      refine v_icmp_eq (pc' := 95) (tgt := 113) X dX9_known_92 (by decide) rfl (fun hc_92 => absurd hc_92 (by decide)) (fun _ => ?_)
      refine v_iload_n (pc' := 96) (i := 2) (j := 3) X dX9_known_95 rfl rfl rfl ?_
      refine v_bipush (pc' := 98) (v := 19) X dX9_known_96 (by decide) rfl ?_
      refine v_icmp_eq (pc' := 101) (tgt := 113) X dX9_known_98 (by decide) rfl (fun hc_98 => absurd hc_98 (by decide)) (fun _ => ?_)
      refine v_iload_n (pc' := 102) (i := 2) (j := 3) X dX9_known_101 rfl rfl rfl ?_
      refine v_bipush (pc' := 104) (v := 20) X dX9_known_102 (by decide) rfl ?_
      refine v_icmp_eq (pc' := 107) (tgt := 113) X dX9_known_104 (by decide) rfl (fun hc_104 => absurd hc_104 (by decide)) (fun _ => ?_)
      refine v_iload_n (pc' := 108) (i := 2) (j := 3) X dX9_known_107 rfl rfl rfl ?_
      refine v_bipush (pc' := 110) (v := 23) X dX9_known_108 (by decide) rfl ?_
      refine v_icmp_ne (pc' := 113) (tgt := 116) X dX9_known_110 (by decide) rfl (fun _ => ?_) (fun hc_110 => absurd hc_110 (by decide))
      refine v_iload_n (pc' := 117) (i := 2) (j := 3) X dX9_known_116 rfl rfl rfl ?_
      refine v_bipush (pc' := 119) (v := 15) X dX9_known_117 (by decide) rfl ?_
      refine v_icmp_le (pc' := 122) (tgt := 128) X dX9_known_119 (by decide) rfl (fun _ => ?_) (fun hc_119 => absurd (by decide) hc_119)
      refine v_aload_n (pc' := 129) (i := 0) (j := 1) X dX9_known_128 rfl rfl rfl ?_
      refine v_aload_n (pc' := 130) (i := 1) (j := 2) X dX9_known_129 rfl rfl rfl ?_
      refine v_iload_n (pc' := 131) (i := 2) (j := 3) X dX9_known_130 rfl rfl rfl ?_
      refine v_iload_n (pc' := 132) (i := 3) (j := 4) X dX9_known_131 rfl rfl rfl ?_
      refine v_iload (pc' := 134) (j := 5) X dX9_known_132 rfl rfl ?_
      refine v_iload (pc' := 136) (j := 6) X dX9_known_134 rfl rfl ?_
      refine v_callV (pc' := 139) X (st := []) (c_X9_plain_11 (M := M) hi hg hts hI (x := x) (y := y) (z := z)) k_X9_plain w_ml_X9_91 w_im_X9_plain w_se_X9_X9_plain (rv_M) (by rw [hR]; exact ⟨Nat.le_of_ble_eq_true rfl, Nat.le_of_ble_eq_true rfl⟩) rfl rfl (Nat.le_of_ble_eq_true rfl) dX9_known_136 rfl (⟨Nat.zero_le _, Nat.zero_le _⟩) ?_
      rintro _ _ ⟨rfl, rfl⟩
      refine v_ireturn X R (Nat.zero_le _) (Nat.zero_le _) dX9_known_139 ?_
      have hF : fKnown M n (tb i) 11 x y z = ((fPlain M n (tb i) 11 x y z).1, (fPlain M n (tb i) 11 x y z).2) := by
        unfold fKnown
        rw [if_neg hc_23, if_neg hnin]
        rw [if_neg (by decide)]
        unfold fRest
        rw [if_pos (by decide)]
      rw [hF]
      exact ⟨rfl, rfl⟩
  -- not taken 23
  · refine v_iconst (pc' := 27) (v := (-1)) X dX9_known_26 (by decide) rfl ?_
    refine v_ireturn X R (Nat.zero_le _) (Nat.zero_le _) dX9_known_27 ?_
    have hF : fKnown M n (tb i) 11 x y z = (M, (-1)) := by
      unfold fKnown
      exact if_pos hc_23
    rw [hF]
    exact ⟨rfl, rfl⟩
set_option maxHeartbeats 4000000 in
set_option maxRecDepth 100000 in
theorem c_X9_known_12 {l : Launch} {D : va_G} {Y : Nat → ClassId} {zz : Nat → Nat} {n sz us pd : Nat} {ad : Nat → Nat} {M : vM} {i ca e r w : Nat} (hi : i < n) (hg : gI M n sz us pd) (hts : ∀ i, i < n → ∃ ca e r w, tI M us (tb i) ca e r w) (hI : tI M us (tb i) ca e r w) (hst1 : M.1 (tb i) 0 = 1) {x y z : Int32} : Ct l D Y zz yX9_known cX9_known 7 (some FieldType.int) 7 164 [.ref (ad (0)), .ref (ad (tb i)), .int 12, .int x, .int y, .int z] (wM Y n ad M) 0 0 (fun r w => r = some (.int (fKnown M n (tb i) 12 x y z).2) ∧ w = wM Y n ad (fKnown M n (tb i) 12 x y z).1) := by
  refine v_entry (by decide +kernel) (Nat.le_of_ble_eq_true rfl) ?_
  intro K X R hR hnm hl hD hY hz
  subst hl hD hY hz
  refine v_sub (lv' := [(0, .ref (ad (0))), (1, .ref (ad (tb i))), (2, .int 12), (3, .int x), (4, .int y), (5, .int z)]) [0, 1, 2, 3, 4, 5] rfl ?_
  obtain ⟨hsz, hsz2, hn2, hn1, hn16, hus, hus2, hpd, hpd2, h17, hfs, hvi, hgl⟩ := id hg
  obtain ⟨h3, hca, h4, he, h5, hr, h6, hw, hso, huq, hct, hctm, hwt, hwtm, hwt0, hpk, hst, hem, hov, hrg, hsv, hrd, hwr, hva⟩ := id hI
  refine v_iload_n (pc' := 1) (i := 2) (j := 2) X dX9_known_0 rfl rfl rfl ?_
  refine v_if_lt (pc' := 4) (tgt := 10) X dX9_known_1 (by decide) rfl (fun hc_1 => absurd hc_1 (by decide)) (fun _ => ?_)
  refine v_iload_n (pc' := 5) (i := 2) (j := 2) X dX9_known_4 rfl rfl rfl ?_
  refine v_bipush (pc' := 7) (v := 29) X dX9_known_5 (by decide) rfl ?_
  refine v_icmp_le (pc' := 10) (tgt := 12) X dX9_known_7 (by decide) rfl (fun _ => ?_) (fun hc_7 => absurd (by decide) hc_7)
  refine v_aload_n (pc' := 13) (i := 0) (j := 0) X dX9_known_12 rfl rfl rfl ?_
  refine v_aload_n (pc' := 14) (i := 1) (j := 1) X dX9_known_13 rfl rfl rfl ?_
  refine v_iload_n (pc' := 15) (i := 2) (j := 2) X dX9_known_14 rfl rfl rfl ?_
  refine v_iload_n (pc' := 16) (i := 3) (j := 3) X dX9_known_15 rfl rfl rfl ?_
  refine v_iload (pc' := 18) (j := 4) X dX9_known_16 rfl rfl ?_
  refine v_iload (pc' := 20) (j := 5) X dX9_known_18 rfl rfl ?_
  refine v_callV (pc' := 23) X (st := []) (c_X9_wrong_12 (M := M) hi (x := x) (y := y) (z := z)) k_X9_wrong w_ml_X9_83 w_im_X9_wrong w_se_X9_X9_wrong (rv_M) (by rw [hR]; exact ⟨Nat.le_of_ble_eq_true rfl, Nat.le_of_ble_eq_true rfl⟩) rfl rfl (Nat.le_of_ble_eq_true rfl) dX9_known_20 rfl (⟨Nat.zero_le _, Nat.zero_le _⟩) ?_
  rintro _ _ ⟨rfl, rfl⟩
  refine v_ifB_eq (pc' := 26) (tgt := 28) X dX9_known_23 (by decide) rfl (fun hc_23 => ?_) (fun hc_23 => ?_)
  -- taken 23
  · refine v_aload_n (pc' := 29) (i := 1) (j := 1) X dX9_known_28 rfl rfl rfl ?_
    refine v_callV (pc' := 32) X (st := []) (c_X8_atomic (M := M) hi (e := e) h4 he) k_X8_atomic w_ml_X9_87 w_im_X8_atomic w_se_X8_X8_atomic (rv_T hi) (by rw [hR]; exact ⟨Nat.le_of_ble_eq_true rfl, Nat.le_of_ble_eq_true rfl⟩) rfl rfl (Nat.le_of_ble_eq_true rfl) dX9_known_29 rfl (⟨Nat.zero_le _, Nat.zero_le _⟩) ?_
    rintro _ _ ⟨rfl, x9, rfl, hx9⟩
    rcases hx9 with ⟨k0, hk0, h0, hf0, rfl⟩ | ⟨hno, rfl⟩
    · have hin : fIn M (tb i) := ⟨k0, by rw [h4, nn_nI (by omega)]; exact hk0, h0⟩
      refine v_if_lt (pc' := 35) (tgt := 39) X dX9_known_32 (by decide) rfl (fun hc_32 => absurd hc_32 (nI_pos (by omega))) (fun _ => ?_)
      refine v_iconst (pc' := 36) (v := 1) X dX9_known_35 (by decide) rfl ?_
      refine v_goto (pc' := 40) X dX9_known_36 (by decide) ?_
      refine v_istore (pc' := 42) (lv' := [(6, .int 1), (0, .ref (ad (0))), (1, .ref (ad (tb i))), (2, .int 12), (3, .int x), (4, .int y), (5, .int z)]) X dX9_known_40 (by decide) rfl rfl ?_
      refine v_iload (pc' := 44) (j := 0) X dX9_known_42 rfl rfl ?_
      refine v_if_eq (pc' := 47) (tgt := 78) X dX9_known_44 (by decide) rfl (fun hc_44 => absurd hc_44 (by decide)) (fun _ => ?_)
      refine v_iload_n (pc' := 48) (i := 2) (j := 3) X dX9_known_47 rfl rfl rfl ?_
      refine v_if_eq (pc' := 51) (tgt := 75) X dX9_known_48 (by decide) rfl (fun hc_48 => absurd hc_48 (by decide)) (fun _ => ?_)
      refine v_iload_n (pc' := 52) (i := 2) (j := 3) X dX9_known_51 rfl rfl rfl ?_
      refine v_bipush (pc' := 54) (v := 18) X dX9_known_52 (by decide) rfl ?_
      refine v_icmp_eq (pc' := 57) (tgt := 75) X dX9_known_54 (by decide) rfl (fun hc_54 => absurd hc_54 (by decide)) (fun _ => ?_)
      refine v_iload_n (pc' := 58) (i := 2) (j := 3) X dX9_known_57 rfl rfl rfl ?_
      refine v_bipush (pc' := 60) (v := 25) X dX9_known_58 (by decide) rfl ?_
      refine v_icmp_eq (pc' := 63) (tgt := 75) X dX9_known_60 (by decide) rfl (fun hc_60 => absurd hc_60 (by decide)) (fun _ => ?_)
      refine v_iload_n (pc' := 64) (i := 2) (j := 3) X dX9_known_63 rfl rfl rfl ?_
      refine v_bipush (pc' := 66) (v := 26) X dX9_known_64 (by decide) rfl ?_
      refine v_icmp_eq (pc' := 69) (tgt := 75) X dX9_known_66 (by decide) rfl (fun hc_66 => absurd hc_66 (by decide)) (fun _ => ?_)
      refine v_iload_n (pc' := 70) (i := 2) (j := 3) X dX9_known_69 rfl rfl rfl ?_
      refine v_bipush (pc' := 72) (v := 27) X dX9_known_70 (by decide) rfl ?_
      refine v_icmp_ne (pc' := 75) (tgt := 78) X dX9_known_72 (by decide) rfl (fun _ => ?_) (fun hc_72 => absurd hc_72 (by decide))
      refine v_iload (pc' := 80) (j := 0) X dX9_known_78 rfl rfl ?_
      refine v_if_ne (pc' := 83) (tgt := 116) X dX9_known_80 (by decide) rfl (fun _ => ?_) (fun hc_80 => absurd hc_80 (by decide))
      refine v_iload_n (pc' := 117) (i := 2) (j := 3) X dX9_known_116 rfl rfl rfl ?_
      refine v_bipush (pc' := 119) (v := 15) X dX9_known_117 (by decide) rfl ?_
      refine v_icmp_le (pc' := 122) (tgt := 128) X dX9_known_119 (by decide) rfl (fun _ => ?_) (fun hc_119 => absurd (by decide) hc_119)
      refine v_aload_n (pc' := 129) (i := 0) (j := 1) X dX9_known_128 rfl rfl rfl ?_
      refine v_aload_n (pc' := 130) (i := 1) (j := 2) X dX9_known_129 rfl rfl rfl ?_
      refine v_iload_n (pc' := 131) (i := 2) (j := 3) X dX9_known_130 rfl rfl rfl ?_
      refine v_iload_n (pc' := 132) (i := 3) (j := 4) X dX9_known_131 rfl rfl rfl ?_
      refine v_iload (pc' := 134) (j := 5) X dX9_known_132 rfl rfl ?_
      refine v_iload (pc' := 136) (j := 6) X dX9_known_134 rfl rfl ?_
      obtain ⟨hx1, hx2⟩ := nrg_not (fun z9 => hc_23 (Or.inl (z9)))
      obtain ⟨hy1, hy2⟩ := nrg_not (fun z9 => hc_23 (Or.inr (Or.inl (z9))))
      obtain ⟨hz1, hz2⟩ := nrg_not (fun z9 => hc_23 (Or.inr (Or.inr (z9))))
      refine v_callV (pc' := 139) X (st := []) (c_X9_plain_12 (M := M) hi hg hts hI (x := x) (y := y) (z := z) hx1 hx2 hy1 hy2 hz1 hz2) k_X9_plain w_ml_X9_91 w_im_X9_plain w_se_X9_X9_plain (rv_M) (by rw [hR]; exact ⟨Nat.le_of_ble_eq_true rfl, Nat.le_of_ble_eq_true rfl⟩) rfl rfl (Nat.le_of_ble_eq_true rfl) dX9_known_136 rfl (⟨Nat.zero_le _, Nat.zero_le _⟩) ?_
      rintro _ _ ⟨rfl, rfl⟩
      refine v_ireturn X R (Nat.zero_le _) (Nat.zero_le _) dX9_known_139 ?_
      have hF : fKnown M n (tb i) 12 x y z = ((fPlain M n (tb i) 12 x y z).1, (fPlain M n (tb i) 12 x y z).2) := by
        unfold fKnown
        rw [if_neg hc_23, if_pos hin]
        rw [if_neg (by decide)]
        unfold fRest
        rw [if_pos (by decide)]
      rw [hF]
      exact ⟨rfl, rfl⟩
    · have hnin : ¬ fIn M (tb i) := fun z9 => by obtain ⟨q9, y9, y8⟩ := z9; rw [h4, nn_nI (by omega)] at y9; exact hno q9 y9 y8
      refine v_if_lt (pc' := 35) (tgt := 39) X dX9_known_32 (by decide) rfl (fun _ => ?_) (fun hc_32 => absurd (by decide) hc_32)
      refine v_iconst (pc' := 40) (v := 0) X dX9_known_39 (by decide) rfl ?_
      refine v_istore (pc' := 42) (lv' := [(6, .int 0), (0, .ref (ad (0))), (1, .ref (ad (tb i))), (2, .int 12), (3, .int x), (4, .int y), (5, .int z)]) X dX9_known_40 (by decide) rfl rfl ?_
      refine v_iload (pc' := 44) (j := 0) X dX9_known_42 rfl rfl ?_
      refine v_if_eq (pc' := 47) (tgt := 78) X dX9_known_44 (by decide) rfl (fun _ => ?_) (fun hc_44 => absurd (by decide) hc_44)
      refine v_iload (pc' := 80) (j := 0) X dX9_known_78 rfl rfl ?_
      refine v_if_ne (pc' := 83) (tgt := 116) X dX9_known_80 (by decide) rfl (fun hc_80 => absurd (by decide) hc_80) (fun _ => ?_)
      refine v_iload_n (pc' := 84) (i := 2) (j := 3) X dX9_known_83 rfl rfl rfl ?_
      refine v_bipush (pc' := 86) (v := 16) X dX9_known_84 (by decide) rfl ?_
      refine v_icmp_eq (pc' := 89) (tgt := 113) X dX9_known_86 (by decide) rfl (fun hc_86 => absurd hc_86 (by decide)) (fun _ => ?_)
      refine v_iload_n (pc' := 90) (i := 2) (j := 3) X dX9_known_89 rfl rfl rfl ?_
      refine v_bipush (pc' := 92) (v := 17) X dX9_known_90 (by decide) rfl ?_
      refine v_icmp_eq (pc' := 95) (tgt := 113) X dX9_known_92 (by decide) rfl (fun hc_92 => absurd hc_92 (by decide)) (fun _ => ?_)
      refine v_iload_n (pc' := 96) (i := 2) (j := 3) X dX9_known_95 rfl rfl rfl ?_
      refine v_bipush (pc' := 98) (v := 19) X dX9_known_96 (by decide) rfl ?_
      refine v_icmp_eq (pc' := 101) (tgt := 113) X dX9_known_98 (by decide) rfl (fun hc_98 => absurd hc_98 (by decide)) (fun _ => ?_)
      refine v_iload_n (pc' := 102) (i := 2) (j := 3) X dX9_known_101 rfl rfl rfl ?_
      refine v_bipush (pc' := 104) (v := 20) X dX9_known_102 (by decide) rfl ?_
      refine v_icmp_eq (pc' := 107) (tgt := 113) X dX9_known_104 (by decide) rfl (fun hc_104 => absurd hc_104 (by decide)) (fun _ => ?_)
      refine v_iload_n (pc' := 108) (i := 2) (j := 3) X dX9_known_107 rfl rfl rfl ?_
      refine v_bipush (pc' := 110) (v := 23) X dX9_known_108 (by decide) rfl ?_
      refine v_icmp_ne (pc' := 113) (tgt := 116) X dX9_known_110 (by decide) rfl (fun _ => ?_) (fun hc_110 => absurd hc_110 (by decide))
      refine v_iload_n (pc' := 117) (i := 2) (j := 3) X dX9_known_116 rfl rfl rfl ?_
      refine v_bipush (pc' := 119) (v := 15) X dX9_known_117 (by decide) rfl ?_
      refine v_icmp_le (pc' := 122) (tgt := 128) X dX9_known_119 (by decide) rfl (fun _ => ?_) (fun hc_119 => absurd (by decide) hc_119)
      refine v_aload_n (pc' := 129) (i := 0) (j := 1) X dX9_known_128 rfl rfl rfl ?_
      refine v_aload_n (pc' := 130) (i := 1) (j := 2) X dX9_known_129 rfl rfl rfl ?_
      refine v_iload_n (pc' := 131) (i := 2) (j := 3) X dX9_known_130 rfl rfl rfl ?_
      refine v_iload_n (pc' := 132) (i := 3) (j := 4) X dX9_known_131 rfl rfl rfl ?_
      refine v_iload (pc' := 134) (j := 5) X dX9_known_132 rfl rfl ?_
      refine v_iload (pc' := 136) (j := 6) X dX9_known_134 rfl rfl ?_
      obtain ⟨hx1, hx2⟩ := nrg_not (fun z9 => hc_23 (Or.inl (z9)))
      obtain ⟨hy1, hy2⟩ := nrg_not (fun z9 => hc_23 (Or.inr (Or.inl (z9))))
      obtain ⟨hz1, hz2⟩ := nrg_not (fun z9 => hc_23 (Or.inr (Or.inr (z9))))
      refine v_callV (pc' := 139) X (st := []) (c_X9_plain_12 (M := M) hi hg hts hI (x := x) (y := y) (z := z) hx1 hx2 hy1 hy2 hz1 hz2) k_X9_plain w_ml_X9_91 w_im_X9_plain w_se_X9_X9_plain (rv_M) (by rw [hR]; exact ⟨Nat.le_of_ble_eq_true rfl, Nat.le_of_ble_eq_true rfl⟩) rfl rfl (Nat.le_of_ble_eq_true rfl) dX9_known_136 rfl (⟨Nat.zero_le _, Nat.zero_le _⟩) ?_
      rintro _ _ ⟨rfl, rfl⟩
      refine v_ireturn X R (Nat.zero_le _) (Nat.zero_le _) dX9_known_139 ?_
      have hF : fKnown M n (tb i) 12 x y z = ((fPlain M n (tb i) 12 x y z).1, (fPlain M n (tb i) 12 x y z).2) := by
        unfold fKnown
        rw [if_neg hc_23, if_neg hnin]
        rw [if_neg (by decide)]
        unfold fRest
        rw [if_pos (by decide)]
      rw [hF]
      exact ⟨rfl, rfl⟩
  -- not taken 23
  · refine v_iconst (pc' := 27) (v := (-1)) X dX9_known_26 (by decide) rfl ?_
    refine v_ireturn X R (Nat.zero_le _) (Nat.zero_le _) dX9_known_27 ?_
    have hF : fKnown M n (tb i) 12 x y z = (M, (-1)) := by
      unfold fKnown
      exact if_pos hc_23
    rw [hF]
    exact ⟨rfl, rfl⟩
set_option maxHeartbeats 4000000 in
set_option maxRecDepth 100000 in
theorem c_X9_known_13 {l : Launch} {D : va_G} {Y : Nat → ClassId} {zz : Nat → Nat} {n sz us pd : Nat} {ad : Nat → Nat} {M : vM} {i ca e r w : Nat} (hi : i < n) (hg : gI M n sz us pd) (hts : ∀ i, i < n → ∃ ca e r w, tI M us (tb i) ca e r w) (hI : tI M us (tb i) ca e r w) (hst1 : M.1 (tb i) 0 = 1) {x y z : Int32} : Ct l D Y zz yX9_known cX9_known 7 (some FieldType.int) 2 48 [.ref (ad (0)), .ref (ad (tb i)), .int 13, .int x, .int y, .int z] (wM Y n ad M) 0 0 (fun r w => r = some (.int (fKnown M n (tb i) 13 x y z).2) ∧ w = wM Y n ad (fKnown M n (tb i) 13 x y z).1) := by
  refine v_entry (by decide +kernel) (Nat.le_of_ble_eq_true rfl) ?_
  intro K X R hR hnm hl hD hY hz
  subst hl hD hY hz
  refine v_sub (lv' := [(0, .ref (ad (0))), (1, .ref (ad (tb i))), (2, .int 13), (3, .int x), (4, .int y), (5, .int z)]) [0, 1, 2, 3, 4, 5] rfl ?_
  obtain ⟨hsz, hsz2, hn2, hn1, hn16, hus, hus2, hpd, hpd2, h17, hfs, hvi, hgl⟩ := id hg
  obtain ⟨h3, hca, h4, he, h5, hr, h6, hw, hso, huq, hct, hctm, hwt, hwtm, hwt0, hpk, hst, hem, hov, hrg, hsv, hrd, hwr, hva⟩ := id hI
  refine v_iload_n (pc' := 1) (i := 2) (j := 2) X dX9_known_0 rfl rfl rfl ?_
  refine v_if_lt (pc' := 4) (tgt := 10) X dX9_known_1 (by decide) rfl (fun hc_1 => absurd hc_1 (by decide)) (fun _ => ?_)
  refine v_iload_n (pc' := 5) (i := 2) (j := 2) X dX9_known_4 rfl rfl rfl ?_
  refine v_bipush (pc' := 7) (v := 29) X dX9_known_5 (by decide) rfl ?_
  refine v_icmp_le (pc' := 10) (tgt := 12) X dX9_known_7 (by decide) rfl (fun _ => ?_) (fun hc_7 => absurd (by decide) hc_7)
  refine v_aload_n (pc' := 13) (i := 0) (j := 0) X dX9_known_12 rfl rfl rfl ?_
  refine v_aload_n (pc' := 14) (i := 1) (j := 1) X dX9_known_13 rfl rfl rfl ?_
  refine v_iload_n (pc' := 15) (i := 2) (j := 2) X dX9_known_14 rfl rfl rfl ?_
  refine v_iload_n (pc' := 16) (i := 3) (j := 3) X dX9_known_15 rfl rfl rfl ?_
  refine v_iload (pc' := 18) (j := 4) X dX9_known_16 rfl rfl ?_
  refine v_iload (pc' := 20) (j := 5) X dX9_known_18 rfl rfl ?_
  refine v_callV (pc' := 23) X (st := []) (c_X9_wrong_13 (M := M) hi (x := x) (y := y) (z := z)) k_X9_wrong w_ml_X9_83 w_im_X9_wrong w_se_X9_X9_wrong (rv_M) (by rw [hR]; exact ⟨Nat.le_of_ble_eq_true rfl, Nat.le_of_ble_eq_true rfl⟩) rfl rfl (Nat.le_of_ble_eq_true rfl) dX9_known_20 rfl (⟨Nat.zero_le _, Nat.zero_le _⟩) ?_
  rintro _ _ ⟨rfl, rfl⟩
  refine v_ifB_eq (pc' := 26) (tgt := 28) X dX9_known_23 (by decide) rfl (fun hc_23 => ?_) (fun hc_23 => ?_)
  -- taken 23
  · refine v_aload_n (pc' := 29) (i := 1) (j := 1) X dX9_known_28 rfl rfl rfl ?_
    refine v_callV (pc' := 32) X (st := []) (c_X8_atomic (M := M) hi (e := e) h4 he) k_X8_atomic w_ml_X9_87 w_im_X8_atomic w_se_X8_X8_atomic (rv_T hi) (by rw [hR]; exact ⟨Nat.le_of_ble_eq_true rfl, Nat.le_of_ble_eq_true rfl⟩) rfl rfl (Nat.le_of_ble_eq_true rfl) dX9_known_29 rfl (⟨Nat.zero_le _, Nat.zero_le _⟩) ?_
    rintro _ _ ⟨rfl, x9, rfl, hx9⟩
    rcases hx9 with ⟨k0, hk0, h0, hf0, rfl⟩ | ⟨hno, rfl⟩
    · have hin : fIn M (tb i) := ⟨k0, by rw [h4, nn_nI (by omega)]; exact hk0, h0⟩
      refine v_if_lt (pc' := 35) (tgt := 39) X dX9_known_32 (by decide) rfl (fun hc_32 => absurd hc_32 (nI_pos (by omega))) (fun _ => ?_)
      refine v_iconst (pc' := 36) (v := 1) X dX9_known_35 (by decide) rfl ?_
      refine v_goto (pc' := 40) X dX9_known_36 (by decide) ?_
      refine v_istore (pc' := 42) (lv' := [(6, .int 1), (0, .ref (ad (0))), (1, .ref (ad (tb i))), (2, .int 13), (3, .int x), (4, .int y), (5, .int z)]) X dX9_known_40 (by decide) rfl rfl ?_
      refine v_iload (pc' := 44) (j := 0) X dX9_known_42 rfl rfl ?_
      refine v_if_eq (pc' := 47) (tgt := 78) X dX9_known_44 (by decide) rfl (fun hc_44 => absurd hc_44 (by decide)) (fun _ => ?_)
      refine v_iload_n (pc' := 48) (i := 2) (j := 3) X dX9_known_47 rfl rfl rfl ?_
      refine v_if_eq (pc' := 51) (tgt := 75) X dX9_known_48 (by decide) rfl (fun hc_48 => absurd hc_48 (by decide)) (fun _ => ?_)
      refine v_iload_n (pc' := 52) (i := 2) (j := 3) X dX9_known_51 rfl rfl rfl ?_
      refine v_bipush (pc' := 54) (v := 18) X dX9_known_52 (by decide) rfl ?_
      refine v_icmp_eq (pc' := 57) (tgt := 75) X dX9_known_54 (by decide) rfl (fun hc_54 => absurd hc_54 (by decide)) (fun _ => ?_)
      refine v_iload_n (pc' := 58) (i := 2) (j := 3) X dX9_known_57 rfl rfl rfl ?_
      refine v_bipush (pc' := 60) (v := 25) X dX9_known_58 (by decide) rfl ?_
      refine v_icmp_eq (pc' := 63) (tgt := 75) X dX9_known_60 (by decide) rfl (fun hc_60 => absurd hc_60 (by decide)) (fun _ => ?_)
      refine v_iload_n (pc' := 64) (i := 2) (j := 3) X dX9_known_63 rfl rfl rfl ?_
      refine v_bipush (pc' := 66) (v := 26) X dX9_known_64 (by decide) rfl ?_
      refine v_icmp_eq (pc' := 69) (tgt := 75) X dX9_known_66 (by decide) rfl (fun hc_66 => absurd hc_66 (by decide)) (fun _ => ?_)
      refine v_iload_n (pc' := 70) (i := 2) (j := 3) X dX9_known_69 rfl rfl rfl ?_
      refine v_bipush (pc' := 72) (v := 27) X dX9_known_70 (by decide) rfl ?_
      refine v_icmp_ne (pc' := 75) (tgt := 78) X dX9_known_72 (by decide) rfl (fun _ => ?_) (fun hc_72 => absurd hc_72 (by decide))
      refine v_iload (pc' := 80) (j := 0) X dX9_known_78 rfl rfl ?_
      refine v_if_ne (pc' := 83) (tgt := 116) X dX9_known_80 (by decide) rfl (fun _ => ?_) (fun hc_80 => absurd hc_80 (by decide))
      refine v_iload_n (pc' := 117) (i := 2) (j := 3) X dX9_known_116 rfl rfl rfl ?_
      refine v_bipush (pc' := 119) (v := 15) X dX9_known_117 (by decide) rfl ?_
      refine v_icmp_le (pc' := 122) (tgt := 128) X dX9_known_119 (by decide) rfl (fun _ => ?_) (fun hc_119 => absurd (by decide) hc_119)
      refine v_aload_n (pc' := 129) (i := 0) (j := 1) X dX9_known_128 rfl rfl rfl ?_
      refine v_aload_n (pc' := 130) (i := 1) (j := 2) X dX9_known_129 rfl rfl rfl ?_
      refine v_iload_n (pc' := 131) (i := 2) (j := 3) X dX9_known_130 rfl rfl rfl ?_
      refine v_iload_n (pc' := 132) (i := 3) (j := 4) X dX9_known_131 rfl rfl rfl ?_
      refine v_iload (pc' := 134) (j := 5) X dX9_known_132 rfl rfl ?_
      refine v_iload (pc' := 136) (j := 6) X dX9_known_134 rfl rfl ?_
      obtain ⟨hx1, hx2⟩ := nrg_not (fun z9 => hc_23 (Or.inl (z9)))
      obtain ⟨hy1, hy2⟩ := nrg_not (fun z9 => hc_23 (Or.inr (Or.inl (z9))))
      have hP : isP (M.2 (tb i + 8) (nn y)) := Classical.not_not.mp (fun z9 => hc_23 (Or.inr (Or.inr (z9))))
      refine v_callV (pc' := 139) X (st := []) (c_X9_plain_13 (M := M) hi hg hts hI (x := x) (y := y) (z := z) hx1 hx2 hy1 hy2 hP) k_X9_plain w_ml_X9_91 w_im_X9_plain w_se_X9_X9_plain (rv_M) (by rw [hR]; exact ⟨Nat.le_of_ble_eq_true rfl, Nat.le_of_ble_eq_true rfl⟩) rfl rfl (Nat.le_of_ble_eq_true rfl) dX9_known_136 rfl (⟨Nat.zero_le _, Nat.zero_le _⟩) ?_
      rintro _ _ ⟨rfl, rfl⟩
      refine v_ireturn X R (Nat.zero_le _) (Nat.zero_le _) dX9_known_139 ?_
      have hF : fKnown M n (tb i) 13 x y z = ((fPlain M n (tb i) 13 x y z).1, (fPlain M n (tb i) 13 x y z).2) := by
        unfold fKnown
        rw [if_neg hc_23, if_pos hin]
        rw [if_neg (by decide)]
        unfold fRest
        rw [if_pos (by decide)]
      rw [hF]
      exact ⟨rfl, rfl⟩
    · have hnin : ¬ fIn M (tb i) := fun z9 => by obtain ⟨q9, y9, y8⟩ := z9; rw [h4, nn_nI (by omega)] at y9; exact hno q9 y9 y8
      refine v_if_lt (pc' := 35) (tgt := 39) X dX9_known_32 (by decide) rfl (fun _ => ?_) (fun hc_32 => absurd (by decide) hc_32)
      refine v_iconst (pc' := 40) (v := 0) X dX9_known_39 (by decide) rfl ?_
      refine v_istore (pc' := 42) (lv' := [(6, .int 0), (0, .ref (ad (0))), (1, .ref (ad (tb i))), (2, .int 13), (3, .int x), (4, .int y), (5, .int z)]) X dX9_known_40 (by decide) rfl rfl ?_
      refine v_iload (pc' := 44) (j := 0) X dX9_known_42 rfl rfl ?_
      refine v_if_eq (pc' := 47) (tgt := 78) X dX9_known_44 (by decide) rfl (fun _ => ?_) (fun hc_44 => absurd (by decide) hc_44)
      refine v_iload (pc' := 80) (j := 0) X dX9_known_78 rfl rfl ?_
      refine v_if_ne (pc' := 83) (tgt := 116) X dX9_known_80 (by decide) rfl (fun hc_80 => absurd (by decide) hc_80) (fun _ => ?_)
      refine v_iload_n (pc' := 84) (i := 2) (j := 3) X dX9_known_83 rfl rfl rfl ?_
      refine v_bipush (pc' := 86) (v := 16) X dX9_known_84 (by decide) rfl ?_
      refine v_icmp_eq (pc' := 89) (tgt := 113) X dX9_known_86 (by decide) rfl (fun hc_86 => absurd hc_86 (by decide)) (fun _ => ?_)
      refine v_iload_n (pc' := 90) (i := 2) (j := 3) X dX9_known_89 rfl rfl rfl ?_
      refine v_bipush (pc' := 92) (v := 17) X dX9_known_90 (by decide) rfl ?_
      refine v_icmp_eq (pc' := 95) (tgt := 113) X dX9_known_92 (by decide) rfl (fun hc_92 => absurd hc_92 (by decide)) (fun _ => ?_)
      refine v_iload_n (pc' := 96) (i := 2) (j := 3) X dX9_known_95 rfl rfl rfl ?_
      refine v_bipush (pc' := 98) (v := 19) X dX9_known_96 (by decide) rfl ?_
      refine v_icmp_eq (pc' := 101) (tgt := 113) X dX9_known_98 (by decide) rfl (fun hc_98 => absurd hc_98 (by decide)) (fun _ => ?_)
      refine v_iload_n (pc' := 102) (i := 2) (j := 3) X dX9_known_101 rfl rfl rfl ?_
      refine v_bipush (pc' := 104) (v := 20) X dX9_known_102 (by decide) rfl ?_
      refine v_icmp_eq (pc' := 107) (tgt := 113) X dX9_known_104 (by decide) rfl (fun hc_104 => absurd hc_104 (by decide)) (fun _ => ?_)
      refine v_iload_n (pc' := 108) (i := 2) (j := 3) X dX9_known_107 rfl rfl rfl ?_
      refine v_bipush (pc' := 110) (v := 23) X dX9_known_108 (by decide) rfl ?_
      refine v_icmp_ne (pc' := 113) (tgt := 116) X dX9_known_110 (by decide) rfl (fun _ => ?_) (fun hc_110 => absurd hc_110 (by decide))
      refine v_iload_n (pc' := 117) (i := 2) (j := 3) X dX9_known_116 rfl rfl rfl ?_
      refine v_bipush (pc' := 119) (v := 15) X dX9_known_117 (by decide) rfl ?_
      refine v_icmp_le (pc' := 122) (tgt := 128) X dX9_known_119 (by decide) rfl (fun _ => ?_) (fun hc_119 => absurd (by decide) hc_119)
      refine v_aload_n (pc' := 129) (i := 0) (j := 1) X dX9_known_128 rfl rfl rfl ?_
      refine v_aload_n (pc' := 130) (i := 1) (j := 2) X dX9_known_129 rfl rfl rfl ?_
      refine v_iload_n (pc' := 131) (i := 2) (j := 3) X dX9_known_130 rfl rfl rfl ?_
      refine v_iload_n (pc' := 132) (i := 3) (j := 4) X dX9_known_131 rfl rfl rfl ?_
      refine v_iload (pc' := 134) (j := 5) X dX9_known_132 rfl rfl ?_
      refine v_iload (pc' := 136) (j := 6) X dX9_known_134 rfl rfl ?_
      obtain ⟨hx1, hx2⟩ := nrg_not (fun z9 => hc_23 (Or.inl (z9)))
      obtain ⟨hy1, hy2⟩ := nrg_not (fun z9 => hc_23 (Or.inr (Or.inl (z9))))
      have hP : isP (M.2 (tb i + 8) (nn y)) := Classical.not_not.mp (fun z9 => hc_23 (Or.inr (Or.inr (z9))))
      refine v_callV (pc' := 139) X (st := []) (c_X9_plain_13 (M := M) hi hg hts hI (x := x) (y := y) (z := z) hx1 hx2 hy1 hy2 hP) k_X9_plain w_ml_X9_91 w_im_X9_plain w_se_X9_X9_plain (rv_M) (by rw [hR]; exact ⟨Nat.le_of_ble_eq_true rfl, Nat.le_of_ble_eq_true rfl⟩) rfl rfl (Nat.le_of_ble_eq_true rfl) dX9_known_136 rfl (⟨Nat.zero_le _, Nat.zero_le _⟩) ?_
      rintro _ _ ⟨rfl, rfl⟩
      refine v_ireturn X R (Nat.zero_le _) (Nat.zero_le _) dX9_known_139 ?_
      have hF : fKnown M n (tb i) 13 x y z = ((fPlain M n (tb i) 13 x y z).1, (fPlain M n (tb i) 13 x y z).2) := by
        unfold fKnown
        rw [if_neg hc_23, if_neg hnin]
        rw [if_neg (by decide)]
        unfold fRest
        rw [if_pos (by decide)]
      rw [hF]
      exact ⟨rfl, rfl⟩
  -- not taken 23
  · refine v_iconst (pc' := 27) (v := (-1)) X dX9_known_26 (by decide) rfl ?_
    refine v_ireturn X R (Nat.zero_le _) (Nat.zero_le _) dX9_known_27 ?_
    have hF : fKnown M n (tb i) 13 x y z = (M, (-1)) := by
      unfold fKnown
      exact if_pos hc_23
    rw [hF]
    exact ⟨rfl, rfl⟩
set_option maxHeartbeats 4000000 in
set_option maxRecDepth 100000 in
theorem c_X9_known_14 {l : Launch} {D : va_G} {Y : Nat → ClassId} {zz : Nat → Nat} {n sz us pd : Nat} {ad : Nat → Nat} {M : vM} {i ca e r w : Nat} (hi : i < n) (hg : gI M n sz us pd) (hts : ∀ i, i < n → ∃ ca e r w, tI M us (tb i) ca e r w) (hI : tI M us (tb i) ca e r w) (hst1 : M.1 (tb i) 0 = 1) {x y z : Int32} : Ct l D Y zz yX9_known cX9_known 7 (some FieldType.int) 2 48 [.ref (ad (0)), .ref (ad (tb i)), .int 14, .int x, .int y, .int z] (wM Y n ad M) 0 0 (fun r w => r = some (.int (fKnown M n (tb i) 14 x y z).2) ∧ w = wM Y n ad (fKnown M n (tb i) 14 x y z).1) := by
  refine v_entry (by decide +kernel) (Nat.le_of_ble_eq_true rfl) ?_
  intro K X R hR hnm hl hD hY hz
  subst hl hD hY hz
  refine v_sub (lv' := [(0, .ref (ad (0))), (1, .ref (ad (tb i))), (2, .int 14), (3, .int x), (4, .int y), (5, .int z)]) [0, 1, 2, 3, 4, 5] rfl ?_
  obtain ⟨hsz, hsz2, hn2, hn1, hn16, hus, hus2, hpd, hpd2, h17, hfs, hvi, hgl⟩ := id hg
  obtain ⟨h3, hca, h4, he, h5, hr, h6, hw, hso, huq, hct, hctm, hwt, hwtm, hwt0, hpk, hst, hem, hov, hrg, hsv, hrd, hwr, hva⟩ := id hI
  refine v_iload_n (pc' := 1) (i := 2) (j := 2) X dX9_known_0 rfl rfl rfl ?_
  refine v_if_lt (pc' := 4) (tgt := 10) X dX9_known_1 (by decide) rfl (fun hc_1 => absurd hc_1 (by decide)) (fun _ => ?_)
  refine v_iload_n (pc' := 5) (i := 2) (j := 2) X dX9_known_4 rfl rfl rfl ?_
  refine v_bipush (pc' := 7) (v := 29) X dX9_known_5 (by decide) rfl ?_
  refine v_icmp_le (pc' := 10) (tgt := 12) X dX9_known_7 (by decide) rfl (fun _ => ?_) (fun hc_7 => absurd (by decide) hc_7)
  refine v_aload_n (pc' := 13) (i := 0) (j := 0) X dX9_known_12 rfl rfl rfl ?_
  refine v_aload_n (pc' := 14) (i := 1) (j := 1) X dX9_known_13 rfl rfl rfl ?_
  refine v_iload_n (pc' := 15) (i := 2) (j := 2) X dX9_known_14 rfl rfl rfl ?_
  refine v_iload_n (pc' := 16) (i := 3) (j := 3) X dX9_known_15 rfl rfl rfl ?_
  refine v_iload (pc' := 18) (j := 4) X dX9_known_16 rfl rfl ?_
  refine v_iload (pc' := 20) (j := 5) X dX9_known_18 rfl rfl ?_
  refine v_callV (pc' := 23) X (st := []) (c_X9_wrong_14 (M := M) hi (x := x) (y := y) (z := z)) k_X9_wrong w_ml_X9_83 w_im_X9_wrong w_se_X9_X9_wrong (rv_M) (by rw [hR]; exact ⟨Nat.le_of_ble_eq_true rfl, Nat.le_of_ble_eq_true rfl⟩) rfl rfl (Nat.le_of_ble_eq_true rfl) dX9_known_20 rfl (⟨Nat.zero_le _, Nat.zero_le _⟩) ?_
  rintro _ _ ⟨rfl, rfl⟩
  refine v_ifB_eq (pc' := 26) (tgt := 28) X dX9_known_23 (by decide) rfl (fun hc_23 => ?_) (fun hc_23 => ?_)
  -- taken 23
  · refine v_aload_n (pc' := 29) (i := 1) (j := 1) X dX9_known_28 rfl rfl rfl ?_
    refine v_callV (pc' := 32) X (st := []) (c_X8_atomic (M := M) hi (e := e) h4 he) k_X8_atomic w_ml_X9_87 w_im_X8_atomic w_se_X8_X8_atomic (rv_T hi) (by rw [hR]; exact ⟨Nat.le_of_ble_eq_true rfl, Nat.le_of_ble_eq_true rfl⟩) rfl rfl (Nat.le_of_ble_eq_true rfl) dX9_known_29 rfl (⟨Nat.zero_le _, Nat.zero_le _⟩) ?_
    rintro _ _ ⟨rfl, x9, rfl, hx9⟩
    rcases hx9 with ⟨k0, hk0, h0, hf0, rfl⟩ | ⟨hno, rfl⟩
    · have hin : fIn M (tb i) := ⟨k0, by rw [h4, nn_nI (by omega)]; exact hk0, h0⟩
      refine v_if_lt (pc' := 35) (tgt := 39) X dX9_known_32 (by decide) rfl (fun hc_32 => absurd hc_32 (nI_pos (by omega))) (fun _ => ?_)
      refine v_iconst (pc' := 36) (v := 1) X dX9_known_35 (by decide) rfl ?_
      refine v_goto (pc' := 40) X dX9_known_36 (by decide) ?_
      refine v_istore (pc' := 42) (lv' := [(6, .int 1), (0, .ref (ad (0))), (1, .ref (ad (tb i))), (2, .int 14), (3, .int x), (4, .int y), (5, .int z)]) X dX9_known_40 (by decide) rfl rfl ?_
      refine v_iload (pc' := 44) (j := 0) X dX9_known_42 rfl rfl ?_
      refine v_if_eq (pc' := 47) (tgt := 78) X dX9_known_44 (by decide) rfl (fun hc_44 => absurd hc_44 (by decide)) (fun _ => ?_)
      refine v_iload_n (pc' := 48) (i := 2) (j := 3) X dX9_known_47 rfl rfl rfl ?_
      refine v_if_eq (pc' := 51) (tgt := 75) X dX9_known_48 (by decide) rfl (fun hc_48 => absurd hc_48 (by decide)) (fun _ => ?_)
      refine v_iload_n (pc' := 52) (i := 2) (j := 3) X dX9_known_51 rfl rfl rfl ?_
      refine v_bipush (pc' := 54) (v := 18) X dX9_known_52 (by decide) rfl ?_
      refine v_icmp_eq (pc' := 57) (tgt := 75) X dX9_known_54 (by decide) rfl (fun hc_54 => absurd hc_54 (by decide)) (fun _ => ?_)
      refine v_iload_n (pc' := 58) (i := 2) (j := 3) X dX9_known_57 rfl rfl rfl ?_
      refine v_bipush (pc' := 60) (v := 25) X dX9_known_58 (by decide) rfl ?_
      refine v_icmp_eq (pc' := 63) (tgt := 75) X dX9_known_60 (by decide) rfl (fun hc_60 => absurd hc_60 (by decide)) (fun _ => ?_)
      refine v_iload_n (pc' := 64) (i := 2) (j := 3) X dX9_known_63 rfl rfl rfl ?_
      refine v_bipush (pc' := 66) (v := 26) X dX9_known_64 (by decide) rfl ?_
      refine v_icmp_eq (pc' := 69) (tgt := 75) X dX9_known_66 (by decide) rfl (fun hc_66 => absurd hc_66 (by decide)) (fun _ => ?_)
      refine v_iload_n (pc' := 70) (i := 2) (j := 3) X dX9_known_69 rfl rfl rfl ?_
      refine v_bipush (pc' := 72) (v := 27) X dX9_known_70 (by decide) rfl ?_
      refine v_icmp_ne (pc' := 75) (tgt := 78) X dX9_known_72 (by decide) rfl (fun _ => ?_) (fun hc_72 => absurd hc_72 (by decide))
      refine v_iload (pc' := 80) (j := 0) X dX9_known_78 rfl rfl ?_
      refine v_if_ne (pc' := 83) (tgt := 116) X dX9_known_80 (by decide) rfl (fun _ => ?_) (fun hc_80 => absurd hc_80 (by decide))
      refine v_iload_n (pc' := 117) (i := 2) (j := 3) X dX9_known_116 rfl rfl rfl ?_
      refine v_bipush (pc' := 119) (v := 15) X dX9_known_117 (by decide) rfl ?_
      refine v_icmp_le (pc' := 122) (tgt := 128) X dX9_known_119 (by decide) rfl (fun _ => ?_) (fun hc_119 => absurd (by decide) hc_119)
      refine v_aload_n (pc' := 129) (i := 0) (j := 1) X dX9_known_128 rfl rfl rfl ?_
      refine v_aload_n (pc' := 130) (i := 1) (j := 2) X dX9_known_129 rfl rfl rfl ?_
      refine v_iload_n (pc' := 131) (i := 2) (j := 3) X dX9_known_130 rfl rfl rfl ?_
      refine v_iload_n (pc' := 132) (i := 3) (j := 4) X dX9_known_131 rfl rfl rfl ?_
      refine v_iload (pc' := 134) (j := 5) X dX9_known_132 rfl rfl ?_
      refine v_iload (pc' := 136) (j := 6) X dX9_known_134 rfl rfl ?_
      obtain ⟨hx1, hx2⟩ := nrg_not (fun z9 => hc_23 (Or.inl (z9)))
      obtain ⟨hy1, hy2⟩ := nrg_not (fun z9 => hc_23 (Or.inr (Or.inl (z9))))
      have hP : isP (M.2 (tb i + 8) (nn y)) := Classical.not_not.mp (fun z9 => hc_23 (Or.inr (Or.inr (z9))))
      refine v_callV (pc' := 139) X (st := []) (c_X9_plain_14 (M := M) hi hg hts hI (x := x) (y := y) (z := z) hx1 hx2 hy1 hy2 hP) k_X9_plain w_ml_X9_91 w_im_X9_plain w_se_X9_X9_plain (rv_M) (by rw [hR]; exact ⟨Nat.le_of_ble_eq_true rfl, Nat.le_of_ble_eq_true rfl⟩) rfl rfl (Nat.le_of_ble_eq_true rfl) dX9_known_136 rfl (⟨Nat.zero_le _, Nat.zero_le _⟩) ?_
      rintro _ _ ⟨rfl, rfl⟩
      refine v_ireturn X R (Nat.zero_le _) (Nat.zero_le _) dX9_known_139 ?_
      have hF : fKnown M n (tb i) 14 x y z = ((fPlain M n (tb i) 14 x y z).1, (fPlain M n (tb i) 14 x y z).2) := by
        unfold fKnown
        rw [if_neg hc_23, if_pos hin]
        rw [if_neg (by decide)]
        unfold fRest
        rw [if_pos (by decide)]
      rw [hF]
      exact ⟨rfl, rfl⟩
    · have hnin : ¬ fIn M (tb i) := fun z9 => by obtain ⟨q9, y9, y8⟩ := z9; rw [h4, nn_nI (by omega)] at y9; exact hno q9 y9 y8
      refine v_if_lt (pc' := 35) (tgt := 39) X dX9_known_32 (by decide) rfl (fun _ => ?_) (fun hc_32 => absurd (by decide) hc_32)
      refine v_iconst (pc' := 40) (v := 0) X dX9_known_39 (by decide) rfl ?_
      refine v_istore (pc' := 42) (lv' := [(6, .int 0), (0, .ref (ad (0))), (1, .ref (ad (tb i))), (2, .int 14), (3, .int x), (4, .int y), (5, .int z)]) X dX9_known_40 (by decide) rfl rfl ?_
      refine v_iload (pc' := 44) (j := 0) X dX9_known_42 rfl rfl ?_
      refine v_if_eq (pc' := 47) (tgt := 78) X dX9_known_44 (by decide) rfl (fun _ => ?_) (fun hc_44 => absurd (by decide) hc_44)
      refine v_iload (pc' := 80) (j := 0) X dX9_known_78 rfl rfl ?_
      refine v_if_ne (pc' := 83) (tgt := 116) X dX9_known_80 (by decide) rfl (fun hc_80 => absurd (by decide) hc_80) (fun _ => ?_)
      refine v_iload_n (pc' := 84) (i := 2) (j := 3) X dX9_known_83 rfl rfl rfl ?_
      refine v_bipush (pc' := 86) (v := 16) X dX9_known_84 (by decide) rfl ?_
      refine v_icmp_eq (pc' := 89) (tgt := 113) X dX9_known_86 (by decide) rfl (fun hc_86 => absurd hc_86 (by decide)) (fun _ => ?_)
      refine v_iload_n (pc' := 90) (i := 2) (j := 3) X dX9_known_89 rfl rfl rfl ?_
      refine v_bipush (pc' := 92) (v := 17) X dX9_known_90 (by decide) rfl ?_
      refine v_icmp_eq (pc' := 95) (tgt := 113) X dX9_known_92 (by decide) rfl (fun hc_92 => absurd hc_92 (by decide)) (fun _ => ?_)
      refine v_iload_n (pc' := 96) (i := 2) (j := 3) X dX9_known_95 rfl rfl rfl ?_
      refine v_bipush (pc' := 98) (v := 19) X dX9_known_96 (by decide) rfl ?_
      refine v_icmp_eq (pc' := 101) (tgt := 113) X dX9_known_98 (by decide) rfl (fun hc_98 => absurd hc_98 (by decide)) (fun _ => ?_)
      refine v_iload_n (pc' := 102) (i := 2) (j := 3) X dX9_known_101 rfl rfl rfl ?_
      refine v_bipush (pc' := 104) (v := 20) X dX9_known_102 (by decide) rfl ?_
      refine v_icmp_eq (pc' := 107) (tgt := 113) X dX9_known_104 (by decide) rfl (fun hc_104 => absurd hc_104 (by decide)) (fun _ => ?_)
      refine v_iload_n (pc' := 108) (i := 2) (j := 3) X dX9_known_107 rfl rfl rfl ?_
      refine v_bipush (pc' := 110) (v := 23) X dX9_known_108 (by decide) rfl ?_
      refine v_icmp_ne (pc' := 113) (tgt := 116) X dX9_known_110 (by decide) rfl (fun _ => ?_) (fun hc_110 => absurd hc_110 (by decide))
      refine v_iload_n (pc' := 117) (i := 2) (j := 3) X dX9_known_116 rfl rfl rfl ?_
      refine v_bipush (pc' := 119) (v := 15) X dX9_known_117 (by decide) rfl ?_
      refine v_icmp_le (pc' := 122) (tgt := 128) X dX9_known_119 (by decide) rfl (fun _ => ?_) (fun hc_119 => absurd (by decide) hc_119)
      refine v_aload_n (pc' := 129) (i := 0) (j := 1) X dX9_known_128 rfl rfl rfl ?_
      refine v_aload_n (pc' := 130) (i := 1) (j := 2) X dX9_known_129 rfl rfl rfl ?_
      refine v_iload_n (pc' := 131) (i := 2) (j := 3) X dX9_known_130 rfl rfl rfl ?_
      refine v_iload_n (pc' := 132) (i := 3) (j := 4) X dX9_known_131 rfl rfl rfl ?_
      refine v_iload (pc' := 134) (j := 5) X dX9_known_132 rfl rfl ?_
      refine v_iload (pc' := 136) (j := 6) X dX9_known_134 rfl rfl ?_
      obtain ⟨hx1, hx2⟩ := nrg_not (fun z9 => hc_23 (Or.inl (z9)))
      obtain ⟨hy1, hy2⟩ := nrg_not (fun z9 => hc_23 (Or.inr (Or.inl (z9))))
      have hP : isP (M.2 (tb i + 8) (nn y)) := Classical.not_not.mp (fun z9 => hc_23 (Or.inr (Or.inr (z9))))
      refine v_callV (pc' := 139) X (st := []) (c_X9_plain_14 (M := M) hi hg hts hI (x := x) (y := y) (z := z) hx1 hx2 hy1 hy2 hP) k_X9_plain w_ml_X9_91 w_im_X9_plain w_se_X9_X9_plain (rv_M) (by rw [hR]; exact ⟨Nat.le_of_ble_eq_true rfl, Nat.le_of_ble_eq_true rfl⟩) rfl rfl (Nat.le_of_ble_eq_true rfl) dX9_known_136 rfl (⟨Nat.zero_le _, Nat.zero_le _⟩) ?_
      rintro _ _ ⟨rfl, rfl⟩
      refine v_ireturn X R (Nat.zero_le _) (Nat.zero_le _) dX9_known_139 ?_
      have hF : fKnown M n (tb i) 14 x y z = ((fPlain M n (tb i) 14 x y z).1, (fPlain M n (tb i) 14 x y z).2) := by
        unfold fKnown
        rw [if_neg hc_23, if_neg hnin]
        rw [if_neg (by decide)]
        unfold fRest
        rw [if_pos (by decide)]
      rw [hF]
      exact ⟨rfl, rfl⟩
  -- not taken 23
  · refine v_iconst (pc' := 27) (v := (-1)) X dX9_known_26 (by decide) rfl ?_
    refine v_ireturn X R (Nat.zero_le _) (Nat.zero_le _) dX9_known_27 ?_
    have hF : fKnown M n (tb i) 14 x y z = (M, (-1)) := by
      unfold fKnown
      exact if_pos hc_23
    rw [hF]
    exact ⟨rfl, rfl⟩
set_option maxHeartbeats 4000000 in
set_option maxRecDepth 100000 in
theorem c_X9_known_15 {l : Launch} {D : va_G} {Y : Nat → ClassId} {zz : Nat → Nat} {n sz us pd : Nat} {ad : Nat → Nat} {M : vM} {i ca e r w : Nat} (hi : i < n) (hg : gI M n sz us pd) (hts : ∀ i, i < n → ∃ ca e r w, tI M us (tb i) ca e r w) (hI : tI M us (tb i) ca e r w) (hst1 : M.1 (tb i) 0 = 1) {x y z : Int32} : Ct l D Y zz yX9_known cX9_known 7 (some FieldType.int) 7 164 [.ref (ad (0)), .ref (ad (tb i)), .int 15, .int x, .int y, .int z] (wM Y n ad M) 0 0 (fun r w => r = some (.int (fKnown M n (tb i) 15 x y z).2) ∧ w = wM Y n ad (fKnown M n (tb i) 15 x y z).1) := by
  refine v_entry (by decide +kernel) (Nat.le_of_ble_eq_true rfl) ?_
  intro K X R hR hnm hl hD hY hz
  subst hl hD hY hz
  refine v_sub (lv' := [(0, .ref (ad (0))), (1, .ref (ad (tb i))), (2, .int 15), (3, .int x), (4, .int y), (5, .int z)]) [0, 1, 2, 3, 4, 5] rfl ?_
  obtain ⟨hsz, hsz2, hn2, hn1, hn16, hus, hus2, hpd, hpd2, h17, hfs, hvi, hgl⟩ := id hg
  obtain ⟨h3, hca, h4, he, h5, hr, h6, hw, hso, huq, hct, hctm, hwt, hwtm, hwt0, hpk, hst, hem, hov, hrg, hsv, hrd, hwr, hva⟩ := id hI
  refine v_iload_n (pc' := 1) (i := 2) (j := 2) X dX9_known_0 rfl rfl rfl ?_
  refine v_if_lt (pc' := 4) (tgt := 10) X dX9_known_1 (by decide) rfl (fun hc_1 => absurd hc_1 (by decide)) (fun _ => ?_)
  refine v_iload_n (pc' := 5) (i := 2) (j := 2) X dX9_known_4 rfl rfl rfl ?_
  refine v_bipush (pc' := 7) (v := 29) X dX9_known_5 (by decide) rfl ?_
  refine v_icmp_le (pc' := 10) (tgt := 12) X dX9_known_7 (by decide) rfl (fun _ => ?_) (fun hc_7 => absurd (by decide) hc_7)
  refine v_aload_n (pc' := 13) (i := 0) (j := 0) X dX9_known_12 rfl rfl rfl ?_
  refine v_aload_n (pc' := 14) (i := 1) (j := 1) X dX9_known_13 rfl rfl rfl ?_
  refine v_iload_n (pc' := 15) (i := 2) (j := 2) X dX9_known_14 rfl rfl rfl ?_
  refine v_iload_n (pc' := 16) (i := 3) (j := 3) X dX9_known_15 rfl rfl rfl ?_
  refine v_iload (pc' := 18) (j := 4) X dX9_known_16 rfl rfl ?_
  refine v_iload (pc' := 20) (j := 5) X dX9_known_18 rfl rfl ?_
  refine v_callV (pc' := 23) X (st := []) (c_X9_wrong_15 (M := M) hi (x := x) (y := y) (z := z)) k_X9_wrong w_ml_X9_83 w_im_X9_wrong w_se_X9_X9_wrong (rv_M) (by rw [hR]; exact ⟨Nat.le_of_ble_eq_true rfl, Nat.le_of_ble_eq_true rfl⟩) rfl rfl (Nat.le_of_ble_eq_true rfl) dX9_known_20 rfl (⟨Nat.zero_le _, Nat.zero_le _⟩) ?_
  rintro _ _ ⟨rfl, rfl⟩
  refine v_ifB_eq (pc' := 26) (tgt := 28) X dX9_known_23 (by decide) rfl (fun hc_23 => ?_) (fun hc_23 => ?_)
  -- taken 23
  · refine v_aload_n (pc' := 29) (i := 1) (j := 1) X dX9_known_28 rfl rfl rfl ?_
    refine v_callV (pc' := 32) X (st := []) (c_X8_atomic (M := M) hi (e := e) h4 he) k_X8_atomic w_ml_X9_87 w_im_X8_atomic w_se_X8_X8_atomic (rv_T hi) (by rw [hR]; exact ⟨Nat.le_of_ble_eq_true rfl, Nat.le_of_ble_eq_true rfl⟩) rfl rfl (Nat.le_of_ble_eq_true rfl) dX9_known_29 rfl (⟨Nat.zero_le _, Nat.zero_le _⟩) ?_
    rintro _ _ ⟨rfl, x9, rfl, hx9⟩
    rcases hx9 with ⟨k0, hk0, h0, hf0, rfl⟩ | ⟨hno, rfl⟩
    · have hin : fIn M (tb i) := ⟨k0, by rw [h4, nn_nI (by omega)]; exact hk0, h0⟩
      refine v_if_lt (pc' := 35) (tgt := 39) X dX9_known_32 (by decide) rfl (fun hc_32 => absurd hc_32 (nI_pos (by omega))) (fun _ => ?_)
      refine v_iconst (pc' := 36) (v := 1) X dX9_known_35 (by decide) rfl ?_
      refine v_goto (pc' := 40) X dX9_known_36 (by decide) ?_
      refine v_istore (pc' := 42) (lv' := [(6, .int 1), (0, .ref (ad (0))), (1, .ref (ad (tb i))), (2, .int 15), (3, .int x), (4, .int y), (5, .int z)]) X dX9_known_40 (by decide) rfl rfl ?_
      refine v_iload (pc' := 44) (j := 0) X dX9_known_42 rfl rfl ?_
      refine v_if_eq (pc' := 47) (tgt := 78) X dX9_known_44 (by decide) rfl (fun hc_44 => absurd hc_44 (by decide)) (fun _ => ?_)
      refine v_iload_n (pc' := 48) (i := 2) (j := 3) X dX9_known_47 rfl rfl rfl ?_
      refine v_if_eq (pc' := 51) (tgt := 75) X dX9_known_48 (by decide) rfl (fun hc_48 => absurd hc_48 (by decide)) (fun _ => ?_)
      refine v_iload_n (pc' := 52) (i := 2) (j := 3) X dX9_known_51 rfl rfl rfl ?_
      refine v_bipush (pc' := 54) (v := 18) X dX9_known_52 (by decide) rfl ?_
      refine v_icmp_eq (pc' := 57) (tgt := 75) X dX9_known_54 (by decide) rfl (fun hc_54 => absurd hc_54 (by decide)) (fun _ => ?_)
      refine v_iload_n (pc' := 58) (i := 2) (j := 3) X dX9_known_57 rfl rfl rfl ?_
      refine v_bipush (pc' := 60) (v := 25) X dX9_known_58 (by decide) rfl ?_
      refine v_icmp_eq (pc' := 63) (tgt := 75) X dX9_known_60 (by decide) rfl (fun hc_60 => absurd hc_60 (by decide)) (fun _ => ?_)
      refine v_iload_n (pc' := 64) (i := 2) (j := 3) X dX9_known_63 rfl rfl rfl ?_
      refine v_bipush (pc' := 66) (v := 26) X dX9_known_64 (by decide) rfl ?_
      refine v_icmp_eq (pc' := 69) (tgt := 75) X dX9_known_66 (by decide) rfl (fun hc_66 => absurd hc_66 (by decide)) (fun _ => ?_)
      refine v_iload_n (pc' := 70) (i := 2) (j := 3) X dX9_known_69 rfl rfl rfl ?_
      refine v_bipush (pc' := 72) (v := 27) X dX9_known_70 (by decide) rfl ?_
      refine v_icmp_ne (pc' := 75) (tgt := 78) X dX9_known_72 (by decide) rfl (fun _ => ?_) (fun hc_72 => absurd hc_72 (by decide))
      refine v_iload (pc' := 80) (j := 0) X dX9_known_78 rfl rfl ?_
      refine v_if_ne (pc' := 83) (tgt := 116) X dX9_known_80 (by decide) rfl (fun _ => ?_) (fun hc_80 => absurd hc_80 (by decide))
      refine v_iload_n (pc' := 117) (i := 2) (j := 3) X dX9_known_116 rfl rfl rfl ?_
      refine v_bipush (pc' := 119) (v := 15) X dX9_known_117 (by decide) rfl ?_
      refine v_icmp_le (pc' := 122) (tgt := 128) X dX9_known_119 (by decide) rfl (fun _ => ?_) (fun hc_119 => absurd (by decide) hc_119)
      refine v_aload_n (pc' := 129) (i := 0) (j := 1) X dX9_known_128 rfl rfl rfl ?_
      refine v_aload_n (pc' := 130) (i := 1) (j := 2) X dX9_known_129 rfl rfl rfl ?_
      refine v_iload_n (pc' := 131) (i := 2) (j := 3) X dX9_known_130 rfl rfl rfl ?_
      refine v_iload_n (pc' := 132) (i := 3) (j := 4) X dX9_known_131 rfl rfl rfl ?_
      refine v_iload (pc' := 134) (j := 5) X dX9_known_132 rfl rfl ?_
      refine v_iload (pc' := 136) (j := 6) X dX9_known_134 rfl rfl ?_
      obtain ⟨hx1, hx2⟩ := nrg_not (fun z9 => hc_23 (Or.inl (z9)))
      obtain ⟨hy1, hy2⟩ := nrg_not (fun z9 => hc_23 (Or.inr (z9)))
      refine v_callV (pc' := 139) X (st := []) (c_X9_plain_15 (M := M) hi hg hts hI (x := x) (y := y) (z := z) hx1 hx2 hy1 hy2) k_X9_plain w_ml_X9_91 w_im_X9_plain w_se_X9_X9_plain (rv_M) (by rw [hR]; exact ⟨Nat.le_of_ble_eq_true rfl, Nat.le_of_ble_eq_true rfl⟩) rfl rfl (Nat.le_of_ble_eq_true rfl) dX9_known_136 rfl (⟨Nat.zero_le _, Nat.zero_le _⟩) ?_
      rintro _ _ ⟨rfl, rfl⟩
      refine v_ireturn X R (Nat.zero_le _) (Nat.zero_le _) dX9_known_139 ?_
      have hF : fKnown M n (tb i) 15 x y z = ((fPlain M n (tb i) 15 x y z).1, (fPlain M n (tb i) 15 x y z).2) := by
        unfold fKnown
        rw [if_neg hc_23, if_pos hin]
        rw [if_neg (by decide)]
        unfold fRest
        rw [if_pos (by decide)]
      rw [hF]
      exact ⟨rfl, rfl⟩
    · have hnin : ¬ fIn M (tb i) := fun z9 => by obtain ⟨q9, y9, y8⟩ := z9; rw [h4, nn_nI (by omega)] at y9; exact hno q9 y9 y8
      refine v_if_lt (pc' := 35) (tgt := 39) X dX9_known_32 (by decide) rfl (fun _ => ?_) (fun hc_32 => absurd (by decide) hc_32)
      refine v_iconst (pc' := 40) (v := 0) X dX9_known_39 (by decide) rfl ?_
      refine v_istore (pc' := 42) (lv' := [(6, .int 0), (0, .ref (ad (0))), (1, .ref (ad (tb i))), (2, .int 15), (3, .int x), (4, .int y), (5, .int z)]) X dX9_known_40 (by decide) rfl rfl ?_
      refine v_iload (pc' := 44) (j := 0) X dX9_known_42 rfl rfl ?_
      refine v_if_eq (pc' := 47) (tgt := 78) X dX9_known_44 (by decide) rfl (fun _ => ?_) (fun hc_44 => absurd (by decide) hc_44)
      refine v_iload (pc' := 80) (j := 0) X dX9_known_78 rfl rfl ?_
      refine v_if_ne (pc' := 83) (tgt := 116) X dX9_known_80 (by decide) rfl (fun hc_80 => absurd (by decide) hc_80) (fun _ => ?_)
      refine v_iload_n (pc' := 84) (i := 2) (j := 3) X dX9_known_83 rfl rfl rfl ?_
      refine v_bipush (pc' := 86) (v := 16) X dX9_known_84 (by decide) rfl ?_
      refine v_icmp_eq (pc' := 89) (tgt := 113) X dX9_known_86 (by decide) rfl (fun hc_86 => absurd hc_86 (by decide)) (fun _ => ?_)
      refine v_iload_n (pc' := 90) (i := 2) (j := 3) X dX9_known_89 rfl rfl rfl ?_
      refine v_bipush (pc' := 92) (v := 17) X dX9_known_90 (by decide) rfl ?_
      refine v_icmp_eq (pc' := 95) (tgt := 113) X dX9_known_92 (by decide) rfl (fun hc_92 => absurd hc_92 (by decide)) (fun _ => ?_)
      refine v_iload_n (pc' := 96) (i := 2) (j := 3) X dX9_known_95 rfl rfl rfl ?_
      refine v_bipush (pc' := 98) (v := 19) X dX9_known_96 (by decide) rfl ?_
      refine v_icmp_eq (pc' := 101) (tgt := 113) X dX9_known_98 (by decide) rfl (fun hc_98 => absurd hc_98 (by decide)) (fun _ => ?_)
      refine v_iload_n (pc' := 102) (i := 2) (j := 3) X dX9_known_101 rfl rfl rfl ?_
      refine v_bipush (pc' := 104) (v := 20) X dX9_known_102 (by decide) rfl ?_
      refine v_icmp_eq (pc' := 107) (tgt := 113) X dX9_known_104 (by decide) rfl (fun hc_104 => absurd hc_104 (by decide)) (fun _ => ?_)
      refine v_iload_n (pc' := 108) (i := 2) (j := 3) X dX9_known_107 rfl rfl rfl ?_
      refine v_bipush (pc' := 110) (v := 23) X dX9_known_108 (by decide) rfl ?_
      refine v_icmp_ne (pc' := 113) (tgt := 116) X dX9_known_110 (by decide) rfl (fun _ => ?_) (fun hc_110 => absurd hc_110 (by decide))
      refine v_iload_n (pc' := 117) (i := 2) (j := 3) X dX9_known_116 rfl rfl rfl ?_
      refine v_bipush (pc' := 119) (v := 15) X dX9_known_117 (by decide) rfl ?_
      refine v_icmp_le (pc' := 122) (tgt := 128) X dX9_known_119 (by decide) rfl (fun _ => ?_) (fun hc_119 => absurd (by decide) hc_119)
      refine v_aload_n (pc' := 129) (i := 0) (j := 1) X dX9_known_128 rfl rfl rfl ?_
      refine v_aload_n (pc' := 130) (i := 1) (j := 2) X dX9_known_129 rfl rfl rfl ?_
      refine v_iload_n (pc' := 131) (i := 2) (j := 3) X dX9_known_130 rfl rfl rfl ?_
      refine v_iload_n (pc' := 132) (i := 3) (j := 4) X dX9_known_131 rfl rfl rfl ?_
      refine v_iload (pc' := 134) (j := 5) X dX9_known_132 rfl rfl ?_
      refine v_iload (pc' := 136) (j := 6) X dX9_known_134 rfl rfl ?_
      obtain ⟨hx1, hx2⟩ := nrg_not (fun z9 => hc_23 (Or.inl (z9)))
      obtain ⟨hy1, hy2⟩ := nrg_not (fun z9 => hc_23 (Or.inr (z9)))
      refine v_callV (pc' := 139) X (st := []) (c_X9_plain_15 (M := M) hi hg hts hI (x := x) (y := y) (z := z) hx1 hx2 hy1 hy2) k_X9_plain w_ml_X9_91 w_im_X9_plain w_se_X9_X9_plain (rv_M) (by rw [hR]; exact ⟨Nat.le_of_ble_eq_true rfl, Nat.le_of_ble_eq_true rfl⟩) rfl rfl (Nat.le_of_ble_eq_true rfl) dX9_known_136 rfl (⟨Nat.zero_le _, Nat.zero_le _⟩) ?_
      rintro _ _ ⟨rfl, rfl⟩
      refine v_ireturn X R (Nat.zero_le _) (Nat.zero_le _) dX9_known_139 ?_
      have hF : fKnown M n (tb i) 15 x y z = ((fPlain M n (tb i) 15 x y z).1, (fPlain M n (tb i) 15 x y z).2) := by
        unfold fKnown
        rw [if_neg hc_23, if_neg hnin]
        rw [if_neg (by decide)]
        unfold fRest
        rw [if_pos (by decide)]
      rw [hF]
      exact ⟨rfl, rfl⟩
  -- not taken 23
  · refine v_iconst (pc' := 27) (v := (-1)) X dX9_known_26 (by decide) rfl ?_
    refine v_ireturn X R (Nat.zero_le _) (Nat.zero_le _) dX9_known_27 ?_
    have hF : fKnown M n (tb i) 15 x y z = (M, (-1)) := by
      unfold fKnown
      exact if_pos hc_23
    rw [hF]
    exact ⟨rfl, rfl⟩
set_option maxHeartbeats 4000000 in
set_option maxRecDepth 100000 in
theorem c_X9_known_16 {l : Launch} {D : va_G} {Y : Nat → ClassId} {zz : Nat → Nat} {n sz us pd : Nat} {ad : Nat → Nat} {M : vM} {i ca e r w : Nat} (hi : i < n) (hg : gI M n sz us pd) (hts : ∀ i, i < n → ∃ ca e r w, tI M us (tb i) ca e r w) (hI : tI M us (tb i) ca e r w) (hst1 : M.1 (tb i) 0 = 1) {x y z : Int32} : Ct l D Y zz yX9_known cX9_known 7 (some FieldType.int) 5 114 [.ref (ad (0)), .ref (ad (tb i)), .int 16, .int x, .int y, .int z] (wM Y n ad M) 0 0 (fun r w => r = some (.int (fKnown M n (tb i) 16 x y z).2) ∧ w = wM Y n ad (fKnown M n (tb i) 16 x y z).1) := by
  refine v_entry (by decide +kernel) (Nat.le_of_ble_eq_true rfl) ?_
  intro K X R hR hnm hl hD hY hz
  subst hl hD hY hz
  refine v_sub (lv' := [(0, .ref (ad (0))), (1, .ref (ad (tb i))), (2, .int 16), (3, .int x), (4, .int y), (5, .int z)]) [0, 1, 2, 3, 4, 5] rfl ?_
  obtain ⟨hsz, hsz2, hn2, hn1, hn16, hus, hus2, hpd, hpd2, h17, hfs, hvi, hgl⟩ := id hg
  obtain ⟨h3, hca, h4, he, h5, hr, h6, hw, hso, huq, hct, hctm, hwt, hwtm, hwt0, hpk, hst, hem, hov, hrg, hsv, hrd, hwr, hva⟩ := id hI
  refine v_iload_n (pc' := 1) (i := 2) (j := 2) X dX9_known_0 rfl rfl rfl ?_
  refine v_if_lt (pc' := 4) (tgt := 10) X dX9_known_1 (by decide) rfl (fun hc_1 => absurd hc_1 (by decide)) (fun _ => ?_)
  refine v_iload_n (pc' := 5) (i := 2) (j := 2) X dX9_known_4 rfl rfl rfl ?_
  refine v_bipush (pc' := 7) (v := 29) X dX9_known_5 (by decide) rfl ?_
  refine v_icmp_le (pc' := 10) (tgt := 12) X dX9_known_7 (by decide) rfl (fun _ => ?_) (fun hc_7 => absurd (by decide) hc_7)
  refine v_aload_n (pc' := 13) (i := 0) (j := 0) X dX9_known_12 rfl rfl rfl ?_
  refine v_aload_n (pc' := 14) (i := 1) (j := 1) X dX9_known_13 rfl rfl rfl ?_
  refine v_iload_n (pc' := 15) (i := 2) (j := 2) X dX9_known_14 rfl rfl rfl ?_
  refine v_iload_n (pc' := 16) (i := 3) (j := 3) X dX9_known_15 rfl rfl rfl ?_
  refine v_iload (pc' := 18) (j := 4) X dX9_known_16 rfl rfl ?_
  refine v_iload (pc' := 20) (j := 5) X dX9_known_18 rfl rfl ?_
  refine v_callV (pc' := 23) X (st := []) (c_X9_wrong_16 (M := M) hi (x := x) (y := y) (z := z)) k_X9_wrong w_ml_X9_83 w_im_X9_wrong w_se_X9_X9_wrong (rv_M) (by rw [hR]; exact ⟨Nat.le_of_ble_eq_true rfl, Nat.le_of_ble_eq_true rfl⟩) rfl rfl (Nat.le_of_ble_eq_true rfl) dX9_known_20 rfl (⟨Nat.zero_le _, Nat.zero_le _⟩) ?_
  rintro _ _ ⟨rfl, rfl⟩
  refine v_ifB_eq (pc' := 26) (tgt := 28) X dX9_known_23 (by decide) rfl (fun hc_23 => ?_) (fun hc_23 => ?_)
  -- taken 23
  · refine v_aload_n (pc' := 29) (i := 1) (j := 1) X dX9_known_28 rfl rfl rfl ?_
    refine v_callV (pc' := 32) X (st := []) (c_X8_atomic (M := M) hi (e := e) h4 he) k_X8_atomic w_ml_X9_87 w_im_X8_atomic w_se_X8_X8_atomic (rv_T hi) (by rw [hR]; exact ⟨Nat.le_of_ble_eq_true rfl, Nat.le_of_ble_eq_true rfl⟩) rfl rfl (Nat.le_of_ble_eq_true rfl) dX9_known_29 rfl (⟨Nat.zero_le _, Nat.zero_le _⟩) ?_
    rintro _ _ ⟨rfl, x9, rfl, hx9⟩
    rcases hx9 with ⟨k0, hk0, h0, hf0, rfl⟩ | ⟨hno, rfl⟩
    · have hin : fIn M (tb i) := ⟨k0, by rw [h4, nn_nI (by omega)]; exact hk0, h0⟩
      refine v_if_lt (pc' := 35) (tgt := 39) X dX9_known_32 (by decide) rfl (fun hc_32 => absurd hc_32 (nI_pos (by omega))) (fun _ => ?_)
      refine v_iconst (pc' := 36) (v := 1) X dX9_known_35 (by decide) rfl ?_
      refine v_goto (pc' := 40) X dX9_known_36 (by decide) ?_
      refine v_istore (pc' := 42) (lv' := [(6, .int 1), (0, .ref (ad (0))), (1, .ref (ad (tb i))), (2, .int 16), (3, .int x), (4, .int y), (5, .int z)]) X dX9_known_40 (by decide) rfl rfl ?_
      refine v_iload (pc' := 44) (j := 0) X dX9_known_42 rfl rfl ?_
      refine v_if_eq (pc' := 47) (tgt := 78) X dX9_known_44 (by decide) rfl (fun hc_44 => absurd hc_44 (by decide)) (fun _ => ?_)
      refine v_iload_n (pc' := 48) (i := 2) (j := 3) X dX9_known_47 rfl rfl rfl ?_
      refine v_if_eq (pc' := 51) (tgt := 75) X dX9_known_48 (by decide) rfl (fun hc_48 => absurd hc_48 (by decide)) (fun _ => ?_)
      refine v_iload_n (pc' := 52) (i := 2) (j := 3) X dX9_known_51 rfl rfl rfl ?_
      refine v_bipush (pc' := 54) (v := 18) X dX9_known_52 (by decide) rfl ?_
      refine v_icmp_eq (pc' := 57) (tgt := 75) X dX9_known_54 (by decide) rfl (fun hc_54 => absurd hc_54 (by decide)) (fun _ => ?_)
      refine v_iload_n (pc' := 58) (i := 2) (j := 3) X dX9_known_57 rfl rfl rfl ?_
      refine v_bipush (pc' := 60) (v := 25) X dX9_known_58 (by decide) rfl ?_
      refine v_icmp_eq (pc' := 63) (tgt := 75) X dX9_known_60 (by decide) rfl (fun hc_60 => absurd hc_60 (by decide)) (fun _ => ?_)
      refine v_iload_n (pc' := 64) (i := 2) (j := 3) X dX9_known_63 rfl rfl rfl ?_
      refine v_bipush (pc' := 66) (v := 26) X dX9_known_64 (by decide) rfl ?_
      refine v_icmp_eq (pc' := 69) (tgt := 75) X dX9_known_66 (by decide) rfl (fun hc_66 => absurd hc_66 (by decide)) (fun _ => ?_)
      refine v_iload_n (pc' := 70) (i := 2) (j := 3) X dX9_known_69 rfl rfl rfl ?_
      refine v_bipush (pc' := 72) (v := 27) X dX9_known_70 (by decide) rfl ?_
      refine v_icmp_ne (pc' := 75) (tgt := 78) X dX9_known_72 (by decide) rfl (fun _ => ?_) (fun hc_72 => absurd hc_72 (by decide))
      refine v_iload (pc' := 80) (j := 0) X dX9_known_78 rfl rfl ?_
      refine v_if_ne (pc' := 83) (tgt := 116) X dX9_known_80 (by decide) rfl (fun _ => ?_) (fun hc_80 => absurd hc_80 (by decide))
      refine v_iload_n (pc' := 117) (i := 2) (j := 3) X dX9_known_116 rfl rfl rfl ?_
      refine v_bipush (pc' := 119) (v := 15) X dX9_known_117 (by decide) rfl ?_
      refine v_icmp_le (pc' := 122) (tgt := 128) X dX9_known_119 (by decide) rfl (fun hc_119 => absurd hc_119 (by decide)) (fun _ => ?_)
      refine v_iload_n (pc' := 123) (i := 2) (j := 3) X dX9_known_122 rfl rfl rfl ?_
      refine v_bipush (pc' := 125) (v := 29) X dX9_known_123 (by decide) rfl ?_
      refine v_icmp_ne (pc' := 128) (tgt := 140) X dX9_known_125 (by decide) rfl (fun _ => ?_) (fun hc_125 => absurd hc_125 (by decide))
      refine v_iload_n (pc' := 141) (i := 2) (j := 3) X dX9_known_140 rfl rfl rfl ?_
      refine v_bipush (pc' := 143) (v := 24) X dX9_known_141 (by decide) rfl ?_
      refine v_icmp_gt (pc' := 146) (tgt := 156) X dX9_known_143 (by decide) rfl (fun hc_143 => absurd hc_143 (by decide)) (fun _ => ?_)
      refine v_aload_n (pc' := 147) (i := 0) (j := 1) X dX9_known_146 rfl rfl rfl ?_
      refine v_aload_n (pc' := 148) (i := 1) (j := 2) X dX9_known_147 rfl rfl rfl ?_
      refine v_iload_n (pc' := 149) (i := 2) (j := 3) X dX9_known_148 rfl rfl rfl ?_
      refine v_iload_n (pc' := 150) (i := 3) (j := 4) X dX9_known_149 rfl rfl rfl ?_
      refine v_iload (pc' := 152) (j := 5) X dX9_known_150 rfl rfl ?_
      obtain ⟨hx1, hx2⟩ := nrg_not (fun z9 => hc_23 (Or.inl (z9)))
      obtain ⟨hy1, hy2⟩ := nrg_not (fun z9 => hc_23 (Or.inr (Or.inl (z9))))
      have hV : isV (M.2 (tb i + 8) (nn y)) := Classical.not_not.mp (fun z9 => hc_23 (Or.inr (Or.inr (z9))))
      refine v_callV (pc' := 155) X (st := []) (c_X9_guarded_16 (M := M) hi hg hts hI (x := x) (y := y) hx1 hx2 hy1 hy2 hk0 h0 hV) k_X9_guarded w_ml_X9_94 w_im_X9_guarded w_se_X9_X9_guarded (rv_M) (by rw [hR]; exact ⟨Nat.le_of_ble_eq_true rfl, Nat.le_of_ble_eq_true rfl⟩) rfl rfl (Nat.le_of_ble_eq_true rfl) dX9_known_152 rfl (⟨Nat.zero_le _, Nat.zero_le _⟩) ?_
      rintro _ _ ⟨rfl, rfl⟩
      refine v_ireturn X R (Nat.zero_le _) (Nat.zero_le _) dX9_known_155 ?_
      have hF : fKnown M n (tb i) 16 x y z = ((fGuard M n (tb i) 16 x y).1, (fGuard M n (tb i) 16 x y).2) := by
        unfold fKnown
        rw [if_neg hc_23, if_pos hin]
        rw [if_neg (by decide)]
        unfold fRest
        rw [if_neg (by decide), if_pos (by decide)]
      rw [hF]
      exact ⟨rfl, rfl⟩
    · have hnin : ¬ fIn M (tb i) := fun z9 => by obtain ⟨q9, y9, y8⟩ := z9; rw [h4, nn_nI (by omega)] at y9; exact hno q9 y9 y8
      refine v_if_lt (pc' := 35) (tgt := 39) X dX9_known_32 (by decide) rfl (fun _ => ?_) (fun hc_32 => absurd (by decide) hc_32)
      refine v_iconst (pc' := 40) (v := 0) X dX9_known_39 (by decide) rfl ?_
      refine v_istore (pc' := 42) (lv' := [(6, .int 0), (0, .ref (ad (0))), (1, .ref (ad (tb i))), (2, .int 16), (3, .int x), (4, .int y), (5, .int z)]) X dX9_known_40 (by decide) rfl rfl ?_
      refine v_iload (pc' := 44) (j := 0) X dX9_known_42 rfl rfl ?_
      refine v_if_eq (pc' := 47) (tgt := 78) X dX9_known_44 (by decide) rfl (fun _ => ?_) (fun hc_44 => absurd (by decide) hc_44)
      refine v_iload (pc' := 80) (j := 0) X dX9_known_78 rfl rfl ?_
      refine v_if_ne (pc' := 83) (tgt := 116) X dX9_known_80 (by decide) rfl (fun hc_80 => absurd (by decide) hc_80) (fun _ => ?_)
      refine v_iload_n (pc' := 84) (i := 2) (j := 3) X dX9_known_83 rfl rfl rfl ?_
      refine v_bipush (pc' := 86) (v := 16) X dX9_known_84 (by decide) rfl ?_
      refine v_icmp_eq (pc' := 89) (tgt := 113) X dX9_known_86 (by decide) rfl (fun _ => ?_) (fun hc_86 => absurd (by decide) hc_86)
      refine v_bipush (pc' := 115) (v := (-4)) X dX9_known_113 (by decide) rfl ?_
      refine v_ireturn X R (Nat.zero_le _) (Nat.zero_le _) dX9_known_115 ?_
      have hF : fKnown M n (tb i) 16 x y z = (M, (-4)) := by
        unfold fKnown
        rw [if_neg hc_23, if_neg hnin]
        exact if_pos (by decide)
      rw [hF]
      exact ⟨rfl, rfl⟩
  -- not taken 23
  · refine v_iconst (pc' := 27) (v := (-1)) X dX9_known_26 (by decide) rfl ?_
    refine v_ireturn X R (Nat.zero_le _) (Nat.zero_le _) dX9_known_27 ?_
    have hF : fKnown M n (tb i) 16 x y z = (M, (-1)) := by
      unfold fKnown
      exact if_pos hc_23
    rw [hF]
    exact ⟨rfl, rfl⟩
set_option maxHeartbeats 4000000 in
set_option maxRecDepth 100000 in
theorem c_X9_known_17 {l : Launch} {D : va_G} {Y : Nat → ClassId} {zz : Nat → Nat} {n sz us pd : Nat} {ad : Nat → Nat} {M : vM} {i ca e r w : Nat} (hi : i < n) (hg : gI M n sz us pd) (hts : ∀ i, i < n → ∃ ca e r w, tI M us (tb i) ca e r w) (hI : tI M us (tb i) ca e r w) (hst1 : M.1 (tb i) 0 = 1) {x y z : Int32} : Ct l D Y zz yX9_known cX9_known 7 (some FieldType.int) 2 48 [.ref (ad (0)), .ref (ad (tb i)), .int 17, .int x, .int y, .int z] (wM Y n ad M) 0 0 (fun r w => r = some (.int (fKnown M n (tb i) 17 x y z).2) ∧ w = wM Y n ad (fKnown M n (tb i) 17 x y z).1) := by
  refine v_entry (by decide +kernel) (Nat.le_of_ble_eq_true rfl) ?_
  intro K X R hR hnm hl hD hY hz
  subst hl hD hY hz
  refine v_sub (lv' := [(0, .ref (ad (0))), (1, .ref (ad (tb i))), (2, .int 17), (3, .int x), (4, .int y), (5, .int z)]) [0, 1, 2, 3, 4, 5] rfl ?_
  obtain ⟨hsz, hsz2, hn2, hn1, hn16, hus, hus2, hpd, hpd2, h17, hfs, hvi, hgl⟩ := id hg
  obtain ⟨h3, hca, h4, he, h5, hr, h6, hw, hso, huq, hct, hctm, hwt, hwtm, hwt0, hpk, hst, hem, hov, hrg, hsv, hrd, hwr, hva⟩ := id hI
  refine v_iload_n (pc' := 1) (i := 2) (j := 2) X dX9_known_0 rfl rfl rfl ?_
  refine v_if_lt (pc' := 4) (tgt := 10) X dX9_known_1 (by decide) rfl (fun hc_1 => absurd hc_1 (by decide)) (fun _ => ?_)
  refine v_iload_n (pc' := 5) (i := 2) (j := 2) X dX9_known_4 rfl rfl rfl ?_
  refine v_bipush (pc' := 7) (v := 29) X dX9_known_5 (by decide) rfl ?_
  refine v_icmp_le (pc' := 10) (tgt := 12) X dX9_known_7 (by decide) rfl (fun _ => ?_) (fun hc_7 => absurd (by decide) hc_7)
  refine v_aload_n (pc' := 13) (i := 0) (j := 0) X dX9_known_12 rfl rfl rfl ?_
  refine v_aload_n (pc' := 14) (i := 1) (j := 1) X dX9_known_13 rfl rfl rfl ?_
  refine v_iload_n (pc' := 15) (i := 2) (j := 2) X dX9_known_14 rfl rfl rfl ?_
  refine v_iload_n (pc' := 16) (i := 3) (j := 3) X dX9_known_15 rfl rfl rfl ?_
  refine v_iload (pc' := 18) (j := 4) X dX9_known_16 rfl rfl ?_
  refine v_iload (pc' := 20) (j := 5) X dX9_known_18 rfl rfl ?_
  refine v_callV (pc' := 23) X (st := []) (c_X9_wrong_17 (M := M) hi (x := x) (y := y) (z := z)) k_X9_wrong w_ml_X9_83 w_im_X9_wrong w_se_X9_X9_wrong (rv_M) (by rw [hR]; exact ⟨Nat.le_of_ble_eq_true rfl, Nat.le_of_ble_eq_true rfl⟩) rfl rfl (Nat.le_of_ble_eq_true rfl) dX9_known_20 rfl (⟨Nat.zero_le _, Nat.zero_le _⟩) ?_
  rintro _ _ ⟨rfl, rfl⟩
  refine v_ifB_eq (pc' := 26) (tgt := 28) X dX9_known_23 (by decide) rfl (fun hc_23 => ?_) (fun hc_23 => ?_)
  -- taken 23
  · refine v_aload_n (pc' := 29) (i := 1) (j := 1) X dX9_known_28 rfl rfl rfl ?_
    refine v_callV (pc' := 32) X (st := []) (c_X8_atomic (M := M) hi (e := e) h4 he) k_X8_atomic w_ml_X9_87 w_im_X8_atomic w_se_X8_X8_atomic (rv_T hi) (by rw [hR]; exact ⟨Nat.le_of_ble_eq_true rfl, Nat.le_of_ble_eq_true rfl⟩) rfl rfl (Nat.le_of_ble_eq_true rfl) dX9_known_29 rfl (⟨Nat.zero_le _, Nat.zero_le _⟩) ?_
    rintro _ _ ⟨rfl, x9, rfl, hx9⟩
    rcases hx9 with ⟨k0, hk0, h0, hf0, rfl⟩ | ⟨hno, rfl⟩
    · have hin : fIn M (tb i) := ⟨k0, by rw [h4, nn_nI (by omega)]; exact hk0, h0⟩
      refine v_if_lt (pc' := 35) (tgt := 39) X dX9_known_32 (by decide) rfl (fun hc_32 => absurd hc_32 (nI_pos (by omega))) (fun _ => ?_)
      refine v_iconst (pc' := 36) (v := 1) X dX9_known_35 (by decide) rfl ?_
      refine v_goto (pc' := 40) X dX9_known_36 (by decide) ?_
      refine v_istore (pc' := 42) (lv' := [(6, .int 1), (0, .ref (ad (0))), (1, .ref (ad (tb i))), (2, .int 17), (3, .int x), (4, .int y), (5, .int z)]) X dX9_known_40 (by decide) rfl rfl ?_
      refine v_iload (pc' := 44) (j := 0) X dX9_known_42 rfl rfl ?_
      refine v_if_eq (pc' := 47) (tgt := 78) X dX9_known_44 (by decide) rfl (fun hc_44 => absurd hc_44 (by decide)) (fun _ => ?_)
      refine v_iload_n (pc' := 48) (i := 2) (j := 3) X dX9_known_47 rfl rfl rfl ?_
      refine v_if_eq (pc' := 51) (tgt := 75) X dX9_known_48 (by decide) rfl (fun hc_48 => absurd hc_48 (by decide)) (fun _ => ?_)
      refine v_iload_n (pc' := 52) (i := 2) (j := 3) X dX9_known_51 rfl rfl rfl ?_
      refine v_bipush (pc' := 54) (v := 18) X dX9_known_52 (by decide) rfl ?_
      refine v_icmp_eq (pc' := 57) (tgt := 75) X dX9_known_54 (by decide) rfl (fun hc_54 => absurd hc_54 (by decide)) (fun _ => ?_)
      refine v_iload_n (pc' := 58) (i := 2) (j := 3) X dX9_known_57 rfl rfl rfl ?_
      refine v_bipush (pc' := 60) (v := 25) X dX9_known_58 (by decide) rfl ?_
      refine v_icmp_eq (pc' := 63) (tgt := 75) X dX9_known_60 (by decide) rfl (fun hc_60 => absurd hc_60 (by decide)) (fun _ => ?_)
      refine v_iload_n (pc' := 64) (i := 2) (j := 3) X dX9_known_63 rfl rfl rfl ?_
      refine v_bipush (pc' := 66) (v := 26) X dX9_known_64 (by decide) rfl ?_
      refine v_icmp_eq (pc' := 69) (tgt := 75) X dX9_known_66 (by decide) rfl (fun hc_66 => absurd hc_66 (by decide)) (fun _ => ?_)
      refine v_iload_n (pc' := 70) (i := 2) (j := 3) X dX9_known_69 rfl rfl rfl ?_
      refine v_bipush (pc' := 72) (v := 27) X dX9_known_70 (by decide) rfl ?_
      refine v_icmp_ne (pc' := 75) (tgt := 78) X dX9_known_72 (by decide) rfl (fun _ => ?_) (fun hc_72 => absurd hc_72 (by decide))
      refine v_iload (pc' := 80) (j := 0) X dX9_known_78 rfl rfl ?_
      refine v_if_ne (pc' := 83) (tgt := 116) X dX9_known_80 (by decide) rfl (fun _ => ?_) (fun hc_80 => absurd hc_80 (by decide))
      refine v_iload_n (pc' := 117) (i := 2) (j := 3) X dX9_known_116 rfl rfl rfl ?_
      refine v_bipush (pc' := 119) (v := 15) X dX9_known_117 (by decide) rfl ?_
      refine v_icmp_le (pc' := 122) (tgt := 128) X dX9_known_119 (by decide) rfl (fun hc_119 => absurd hc_119 (by decide)) (fun _ => ?_)
      refine v_iload_n (pc' := 123) (i := 2) (j := 3) X dX9_known_122 rfl rfl rfl ?_
      refine v_bipush (pc' := 125) (v := 29) X dX9_known_123 (by decide) rfl ?_
      refine v_icmp_ne (pc' := 128) (tgt := 140) X dX9_known_125 (by decide) rfl (fun _ => ?_) (fun hc_125 => absurd hc_125 (by decide))
      refine v_iload_n (pc' := 141) (i := 2) (j := 3) X dX9_known_140 rfl rfl rfl ?_
      refine v_bipush (pc' := 143) (v := 24) X dX9_known_141 (by decide) rfl ?_
      refine v_icmp_gt (pc' := 146) (tgt := 156) X dX9_known_143 (by decide) rfl (fun hc_143 => absurd hc_143 (by decide)) (fun _ => ?_)
      refine v_aload_n (pc' := 147) (i := 0) (j := 1) X dX9_known_146 rfl rfl rfl ?_
      refine v_aload_n (pc' := 148) (i := 1) (j := 2) X dX9_known_147 rfl rfl rfl ?_
      refine v_iload_n (pc' := 149) (i := 2) (j := 3) X dX9_known_148 rfl rfl rfl ?_
      refine v_iload_n (pc' := 150) (i := 3) (j := 4) X dX9_known_149 rfl rfl rfl ?_
      refine v_iload (pc' := 152) (j := 5) X dX9_known_150 rfl rfl ?_
      obtain ⟨hx1, hx2⟩ := nrg_not (fun z9 => hc_23 (Or.inl (z9)))
      obtain ⟨hy1, hy2⟩ := nrg_not (fun z9 => hc_23 (Or.inr (Or.inl (z9))))
      refine v_callV (pc' := 155) X (st := []) (c_X9_guarded_17 (M := M) hi hg hts hI (x := x) (y := y) hx1 hx2 hy1 hy2 hk0 h0) k_X9_guarded w_ml_X9_94 w_im_X9_guarded w_se_X9_X9_guarded (rv_M) (by rw [hR]; exact ⟨Nat.le_of_ble_eq_true rfl, Nat.le_of_ble_eq_true rfl⟩) rfl rfl (Nat.le_of_ble_eq_true rfl) dX9_known_152 rfl (⟨Nat.zero_le _, Nat.zero_le _⟩) ?_
      rintro _ _ ⟨rfl, rfl⟩
      refine v_ireturn X R (Nat.zero_le _) (Nat.zero_le _) dX9_known_155 ?_
      have hF : fKnown M n (tb i) 17 x y z = ((fGuard M n (tb i) 17 x y).1, (fGuard M n (tb i) 17 x y).2) := by
        unfold fKnown
        rw [if_neg hc_23, if_pos hin]
        rw [if_neg (by decide)]
        unfold fRest
        rw [if_neg (by decide), if_pos (by decide)]
      rw [hF]
      exact ⟨rfl, rfl⟩
    · have hnin : ¬ fIn M (tb i) := fun z9 => by obtain ⟨q9, y9, y8⟩ := z9; rw [h4, nn_nI (by omega)] at y9; exact hno q9 y9 y8
      refine v_if_lt (pc' := 35) (tgt := 39) X dX9_known_32 (by decide) rfl (fun _ => ?_) (fun hc_32 => absurd (by decide) hc_32)
      refine v_iconst (pc' := 40) (v := 0) X dX9_known_39 (by decide) rfl ?_
      refine v_istore (pc' := 42) (lv' := [(6, .int 0), (0, .ref (ad (0))), (1, .ref (ad (tb i))), (2, .int 17), (3, .int x), (4, .int y), (5, .int z)]) X dX9_known_40 (by decide) rfl rfl ?_
      refine v_iload (pc' := 44) (j := 0) X dX9_known_42 rfl rfl ?_
      refine v_if_eq (pc' := 47) (tgt := 78) X dX9_known_44 (by decide) rfl (fun _ => ?_) (fun hc_44 => absurd (by decide) hc_44)
      refine v_iload (pc' := 80) (j := 0) X dX9_known_78 rfl rfl ?_
      refine v_if_ne (pc' := 83) (tgt := 116) X dX9_known_80 (by decide) rfl (fun hc_80 => absurd (by decide) hc_80) (fun _ => ?_)
      refine v_iload_n (pc' := 84) (i := 2) (j := 3) X dX9_known_83 rfl rfl rfl ?_
      refine v_bipush (pc' := 86) (v := 16) X dX9_known_84 (by decide) rfl ?_
      refine v_icmp_eq (pc' := 89) (tgt := 113) X dX9_known_86 (by decide) rfl (fun hc_86 => absurd hc_86 (by decide)) (fun _ => ?_)
      refine v_iload_n (pc' := 90) (i := 2) (j := 3) X dX9_known_89 rfl rfl rfl ?_
      refine v_bipush (pc' := 92) (v := 17) X dX9_known_90 (by decide) rfl ?_
      refine v_icmp_eq (pc' := 95) (tgt := 113) X dX9_known_92 (by decide) rfl (fun _ => ?_) (fun hc_92 => absurd (by decide) hc_92)
      refine v_bipush (pc' := 115) (v := (-4)) X dX9_known_113 (by decide) rfl ?_
      refine v_ireturn X R (Nat.zero_le _) (Nat.zero_le _) dX9_known_115 ?_
      have hF : fKnown M n (tb i) 17 x y z = (M, (-4)) := by
        unfold fKnown
        rw [if_neg hc_23, if_neg hnin]
        exact if_pos (by decide)
      rw [hF]
      exact ⟨rfl, rfl⟩
  -- not taken 23
  · refine v_iconst (pc' := 27) (v := (-1)) X dX9_known_26 (by decide) rfl ?_
    refine v_ireturn X R (Nat.zero_le _) (Nat.zero_le _) dX9_known_27 ?_
    have hF : fKnown M n (tb i) 17 x y z = (M, (-1)) := by
      unfold fKnown
      exact if_pos hc_23
    rw [hF]
    exact ⟨rfl, rfl⟩
set_option maxHeartbeats 4000000 in
set_option maxRecDepth 100000 in
theorem c_X9_known_18 {l : Launch} {D : va_G} {Y : Nat → ClassId} {zz : Nat → Nat} {n sz us pd : Nat} {ad : Nat → Nat} {M : vM} {i ca e r w : Nat} (hi : i < n) (hg : gI M n sz us pd) (hts : ∀ i, i < n → ∃ ca e r w, tI M us (tb i) ca e r w) (hI : tI M us (tb i) ca e r w) (hst1 : M.1 (tb i) 0 = 1) {x y z : Int32} : Ct l D Y zz yX9_known cX9_known 7 (some FieldType.int) 2 47 [.ref (ad (0)), .ref (ad (tb i)), .int 18, .int x, .int y, .int z] (wM Y n ad M) 0 0 (fun r w => r = some (.int (fKnown M n (tb i) 18 x y z).2) ∧ w = wM Y n ad (fKnown M n (tb i) 18 x y z).1) := by
  refine v_entry (by decide +kernel) (Nat.le_of_ble_eq_true rfl) ?_
  intro K X R hR hnm hl hD hY hz
  subst hl hD hY hz
  refine v_sub (lv' := [(0, .ref (ad (0))), (1, .ref (ad (tb i))), (2, .int 18), (3, .int x), (4, .int y), (5, .int z)]) [0, 1, 2, 3, 4, 5] rfl ?_
  obtain ⟨hsz, hsz2, hn2, hn1, hn16, hus, hus2, hpd, hpd2, h17, hfs, hvi, hgl⟩ := id hg
  obtain ⟨h3, hca, h4, he, h5, hr, h6, hw, hso, huq, hct, hctm, hwt, hwtm, hwt0, hpk, hst, hem, hov, hrg, hsv, hrd, hwr, hva⟩ := id hI
  refine v_iload_n (pc' := 1) (i := 2) (j := 2) X dX9_known_0 rfl rfl rfl ?_
  refine v_if_lt (pc' := 4) (tgt := 10) X dX9_known_1 (by decide) rfl (fun hc_1 => absurd hc_1 (by decide)) (fun _ => ?_)
  refine v_iload_n (pc' := 5) (i := 2) (j := 2) X dX9_known_4 rfl rfl rfl ?_
  refine v_bipush (pc' := 7) (v := 29) X dX9_known_5 (by decide) rfl ?_
  refine v_icmp_le (pc' := 10) (tgt := 12) X dX9_known_7 (by decide) rfl (fun _ => ?_) (fun hc_7 => absurd (by decide) hc_7)
  refine v_aload_n (pc' := 13) (i := 0) (j := 0) X dX9_known_12 rfl rfl rfl ?_
  refine v_aload_n (pc' := 14) (i := 1) (j := 1) X dX9_known_13 rfl rfl rfl ?_
  refine v_iload_n (pc' := 15) (i := 2) (j := 2) X dX9_known_14 rfl rfl rfl ?_
  refine v_iload_n (pc' := 16) (i := 3) (j := 3) X dX9_known_15 rfl rfl rfl ?_
  refine v_iload (pc' := 18) (j := 4) X dX9_known_16 rfl rfl ?_
  refine v_iload (pc' := 20) (j := 5) X dX9_known_18 rfl rfl ?_
  refine v_callV (pc' := 23) X (st := []) (c_X9_wrong_18 (M := M) hi (x := x) (y := y) (z := z)) k_X9_wrong w_ml_X9_83 w_im_X9_wrong w_se_X9_X9_wrong (rv_M) (by rw [hR]; exact ⟨Nat.le_of_ble_eq_true rfl, Nat.le_of_ble_eq_true rfl⟩) rfl rfl (Nat.le_of_ble_eq_true rfl) dX9_known_20 rfl (⟨Nat.zero_le _, Nat.zero_le _⟩) ?_
  rintro _ _ ⟨rfl, rfl⟩
  refine v_ifB_eq (pc' := 26) (tgt := 28) X dX9_known_23 (by decide) rfl (fun hc_23 => ?_) (fun hc_23 => ?_)
  -- taken 23
  · refine v_aload_n (pc' := 29) (i := 1) (j := 1) X dX9_known_28 rfl rfl rfl ?_
    refine v_callV (pc' := 32) X (st := []) (c_X8_atomic (M := M) hi (e := e) h4 he) k_X8_atomic w_ml_X9_87 w_im_X8_atomic w_se_X8_X8_atomic (rv_T hi) (by rw [hR]; exact ⟨Nat.le_of_ble_eq_true rfl, Nat.le_of_ble_eq_true rfl⟩) rfl rfl (Nat.le_of_ble_eq_true rfl) dX9_known_29 rfl (⟨Nat.zero_le _, Nat.zero_le _⟩) ?_
    rintro _ _ ⟨rfl, x9, rfl, hx9⟩
    rcases hx9 with ⟨k0, hk0, h0, hf0, rfl⟩ | ⟨hno, rfl⟩
    · have hin : fIn M (tb i) := ⟨k0, by rw [h4, nn_nI (by omega)]; exact hk0, h0⟩
      refine v_if_lt (pc' := 35) (tgt := 39) X dX9_known_32 (by decide) rfl (fun hc_32 => absurd hc_32 (nI_pos (by omega))) (fun _ => ?_)
      refine v_iconst (pc' := 36) (v := 1) X dX9_known_35 (by decide) rfl ?_
      refine v_goto (pc' := 40) X dX9_known_36 (by decide) ?_
      refine v_istore (pc' := 42) (lv' := [(6, .int 1), (0, .ref (ad (0))), (1, .ref (ad (tb i))), (2, .int 18), (3, .int x), (4, .int y), (5, .int z)]) X dX9_known_40 (by decide) rfl rfl ?_
      refine v_iload (pc' := 44) (j := 0) X dX9_known_42 rfl rfl ?_
      refine v_if_eq (pc' := 47) (tgt := 78) X dX9_known_44 (by decide) rfl (fun hc_44 => absurd hc_44 (by decide)) (fun _ => ?_)
      refine v_iload_n (pc' := 48) (i := 2) (j := 3) X dX9_known_47 rfl rfl rfl ?_
      refine v_if_eq (pc' := 51) (tgt := 75) X dX9_known_48 (by decide) rfl (fun hc_48 => absurd hc_48 (by decide)) (fun _ => ?_)
      refine v_iload_n (pc' := 52) (i := 2) (j := 3) X dX9_known_51 rfl rfl rfl ?_
      refine v_bipush (pc' := 54) (v := 18) X dX9_known_52 (by decide) rfl ?_
      refine v_icmp_eq (pc' := 57) (tgt := 75) X dX9_known_54 (by decide) rfl (fun _ => ?_) (fun hc_54 => absurd (by decide) hc_54)
      refine v_bipush (pc' := 77) (v := (-4)) X dX9_known_75 (by decide) rfl ?_
      refine v_ireturn X R (Nat.zero_le _) (Nat.zero_le _) dX9_known_77 ?_
      have hF : fKnown M n (tb i) 18 x y z = (M, (-4)) := by
        unfold fKnown
        rw [if_neg hc_23, if_pos hin]
        exact if_pos (by decide)
      rw [hF]
      exact ⟨rfl, rfl⟩
    · have hnin : ¬ fIn M (tb i) := fun z9 => by obtain ⟨q9, y9, y8⟩ := z9; rw [h4, nn_nI (by omega)] at y9; exact hno q9 y9 y8
      refine v_if_lt (pc' := 35) (tgt := 39) X dX9_known_32 (by decide) rfl (fun _ => ?_) (fun hc_32 => absurd (by decide) hc_32)
      refine v_iconst (pc' := 40) (v := 0) X dX9_known_39 (by decide) rfl ?_
      refine v_istore (pc' := 42) (lv' := [(6, .int 0), (0, .ref (ad (0))), (1, .ref (ad (tb i))), (2, .int 18), (3, .int x), (4, .int y), (5, .int z)]) X dX9_known_40 (by decide) rfl rfl ?_
      refine v_iload (pc' := 44) (j := 0) X dX9_known_42 rfl rfl ?_
      refine v_if_eq (pc' := 47) (tgt := 78) X dX9_known_44 (by decide) rfl (fun _ => ?_) (fun hc_44 => absurd (by decide) hc_44)
      refine v_iload (pc' := 80) (j := 0) X dX9_known_78 rfl rfl ?_
      refine v_if_ne (pc' := 83) (tgt := 116) X dX9_known_80 (by decide) rfl (fun hc_80 => absurd (by decide) hc_80) (fun _ => ?_)
      refine v_iload_n (pc' := 84) (i := 2) (j := 3) X dX9_known_83 rfl rfl rfl ?_
      refine v_bipush (pc' := 86) (v := 16) X dX9_known_84 (by decide) rfl ?_
      refine v_icmp_eq (pc' := 89) (tgt := 113) X dX9_known_86 (by decide) rfl (fun hc_86 => absurd hc_86 (by decide)) (fun _ => ?_)
      refine v_iload_n (pc' := 90) (i := 2) (j := 3) X dX9_known_89 rfl rfl rfl ?_
      refine v_bipush (pc' := 92) (v := 17) X dX9_known_90 (by decide) rfl ?_
      refine v_icmp_eq (pc' := 95) (tgt := 113) X dX9_known_92 (by decide) rfl (fun hc_92 => absurd hc_92 (by decide)) (fun _ => ?_)
      refine v_iload_n (pc' := 96) (i := 2) (j := 3) X dX9_known_95 rfl rfl rfl ?_
      refine v_bipush (pc' := 98) (v := 19) X dX9_known_96 (by decide) rfl ?_
      refine v_icmp_eq (pc' := 101) (tgt := 113) X dX9_known_98 (by decide) rfl (fun hc_98 => absurd hc_98 (by decide)) (fun _ => ?_)
      refine v_iload_n (pc' := 102) (i := 2) (j := 3) X dX9_known_101 rfl rfl rfl ?_
      refine v_bipush (pc' := 104) (v := 20) X dX9_known_102 (by decide) rfl ?_
      refine v_icmp_eq (pc' := 107) (tgt := 113) X dX9_known_104 (by decide) rfl (fun hc_104 => absurd hc_104 (by decide)) (fun _ => ?_)
      refine v_iload_n (pc' := 108) (i := 2) (j := 3) X dX9_known_107 rfl rfl rfl ?_
      refine v_bipush (pc' := 110) (v := 23) X dX9_known_108 (by decide) rfl ?_
      refine v_icmp_ne (pc' := 113) (tgt := 116) X dX9_known_110 (by decide) rfl (fun _ => ?_) (fun hc_110 => absurd hc_110 (by decide))
      refine v_iload_n (pc' := 117) (i := 2) (j := 3) X dX9_known_116 rfl rfl rfl ?_
      refine v_bipush (pc' := 119) (v := 15) X dX9_known_117 (by decide) rfl ?_
      refine v_icmp_le (pc' := 122) (tgt := 128) X dX9_known_119 (by decide) rfl (fun hc_119 => absurd hc_119 (by decide)) (fun _ => ?_)
      refine v_iload_n (pc' := 123) (i := 2) (j := 3) X dX9_known_122 rfl rfl rfl ?_
      refine v_bipush (pc' := 125) (v := 29) X dX9_known_123 (by decide) rfl ?_
      refine v_icmp_ne (pc' := 128) (tgt := 140) X dX9_known_125 (by decide) rfl (fun _ => ?_) (fun hc_125 => absurd hc_125 (by decide))
      refine v_iload_n (pc' := 141) (i := 2) (j := 3) X dX9_known_140 rfl rfl rfl ?_
      refine v_bipush (pc' := 143) (v := 24) X dX9_known_141 (by decide) rfl ?_
      refine v_icmp_gt (pc' := 146) (tgt := 156) X dX9_known_143 (by decide) rfl (fun hc_143 => absurd hc_143 (by decide)) (fun _ => ?_)
      refine v_aload_n (pc' := 147) (i := 0) (j := 1) X dX9_known_146 rfl rfl rfl ?_
      refine v_aload_n (pc' := 148) (i := 1) (j := 2) X dX9_known_147 rfl rfl rfl ?_
      refine v_iload_n (pc' := 149) (i := 2) (j := 3) X dX9_known_148 rfl rfl rfl ?_
      refine v_iload_n (pc' := 150) (i := 3) (j := 4) X dX9_known_149 rfl rfl rfl ?_
      refine v_iload (pc' := 152) (j := 5) X dX9_known_150 rfl rfl ?_
      refine v_callV (pc' := 155) X (st := []) (c_X9_guarded_18 (M := M) hi hg hts hI (x := x) (y := y)) k_X9_guarded w_ml_X9_94 w_im_X9_guarded w_se_X9_X9_guarded (rv_M) (by rw [hR]; exact ⟨Nat.le_of_ble_eq_true rfl, Nat.le_of_ble_eq_true rfl⟩) rfl rfl (Nat.le_of_ble_eq_true rfl) dX9_known_152 rfl (⟨Nat.zero_le _, Nat.zero_le _⟩) ?_
      rintro _ _ ⟨rfl, rfl⟩
      refine v_ireturn X R (Nat.zero_le _) (Nat.zero_le _) dX9_known_155 ?_
      have hF : fKnown M n (tb i) 18 x y z = ((fGuard M n (tb i) 18 x y).1, (fGuard M n (tb i) 18 x y).2) := by
        unfold fKnown
        rw [if_neg hc_23, if_neg hnin]
        rw [if_neg (by decide)]
        unfold fRest
        rw [if_neg (by decide), if_pos (by decide)]
      rw [hF]
      exact ⟨rfl, rfl⟩
  -- not taken 23
  · refine v_iconst (pc' := 27) (v := (-1)) X dX9_known_26 (by decide) rfl ?_
    refine v_ireturn X R (Nat.zero_le _) (Nat.zero_le _) dX9_known_27 ?_
    have hF : fKnown M n (tb i) 18 x y z = (M, (-1)) := by
      unfold fKnown
      exact if_pos hc_23
    rw [hF]
    exact ⟨rfl, rfl⟩
set_option maxHeartbeats 4000000 in
set_option maxRecDepth 100000 in
theorem c_X9_known_19 {l : Launch} {D : va_G} {Y : Nat → ClassId} {zz : Nat → Nat} {n sz us pd : Nat} {ad : Nat → Nat} {M : vM} {i ca e r w : Nat} (hi : i < n) (hg : gI M n sz us pd) (hts : ∀ i, i < n → ∃ ca e r w, tI M us (tb i) ca e r w) (hI : tI M us (tb i) ca e r w) (hst1 : M.1 (tb i) 0 = 1) {x y z : Int32} : Ct l D Y zz yX9_known cX9_known 7 (some FieldType.int) 4 94 [.ref (ad (0)), .ref (ad (tb i)), .int 19, .int x, .int y, .int z] (wM Y n ad M) 0 0 (fun r w => r = some (.int (fKnown M n (tb i) 19 x y z).2) ∧ w = wM Y n ad (fKnown M n (tb i) 19 x y z).1) := by
  refine v_entry (by decide +kernel) (Nat.le_of_ble_eq_true rfl) ?_
  intro K X R hR hnm hl hD hY hz
  subst hl hD hY hz
  refine v_sub (lv' := [(0, .ref (ad (0))), (1, .ref (ad (tb i))), (2, .int 19), (3, .int x), (4, .int y), (5, .int z)]) [0, 1, 2, 3, 4, 5] rfl ?_
  obtain ⟨hsz, hsz2, hn2, hn1, hn16, hus, hus2, hpd, hpd2, h17, hfs, hvi, hgl⟩ := id hg
  obtain ⟨h3, hca, h4, he, h5, hr, h6, hw, hso, huq, hct, hctm, hwt, hwtm, hwt0, hpk, hst, hem, hov, hrg, hsv, hrd, hwr, hva⟩ := id hI
  refine v_iload_n (pc' := 1) (i := 2) (j := 2) X dX9_known_0 rfl rfl rfl ?_
  refine v_if_lt (pc' := 4) (tgt := 10) X dX9_known_1 (by decide) rfl (fun hc_1 => absurd hc_1 (by decide)) (fun _ => ?_)
  refine v_iload_n (pc' := 5) (i := 2) (j := 2) X dX9_known_4 rfl rfl rfl ?_
  refine v_bipush (pc' := 7) (v := 29) X dX9_known_5 (by decide) rfl ?_
  refine v_icmp_le (pc' := 10) (tgt := 12) X dX9_known_7 (by decide) rfl (fun _ => ?_) (fun hc_7 => absurd (by decide) hc_7)
  refine v_aload_n (pc' := 13) (i := 0) (j := 0) X dX9_known_12 rfl rfl rfl ?_
  refine v_aload_n (pc' := 14) (i := 1) (j := 1) X dX9_known_13 rfl rfl rfl ?_
  refine v_iload_n (pc' := 15) (i := 2) (j := 2) X dX9_known_14 rfl rfl rfl ?_
  refine v_iload_n (pc' := 16) (i := 3) (j := 3) X dX9_known_15 rfl rfl rfl ?_
  refine v_iload (pc' := 18) (j := 4) X dX9_known_16 rfl rfl ?_
  refine v_iload (pc' := 20) (j := 5) X dX9_known_18 rfl rfl ?_
  refine v_callV (pc' := 23) X (st := []) (c_X9_wrong_19 (M := M) hi (x := x) (y := y) (z := z)) k_X9_wrong w_ml_X9_83 w_im_X9_wrong w_se_X9_X9_wrong (rv_M) (by rw [hR]; exact ⟨Nat.le_of_ble_eq_true rfl, Nat.le_of_ble_eq_true rfl⟩) rfl rfl (Nat.le_of_ble_eq_true rfl) dX9_known_20 rfl (⟨Nat.zero_le _, Nat.zero_le _⟩) ?_
  rintro _ _ ⟨rfl, rfl⟩
  refine v_ifB_eq (pc' := 26) (tgt := 28) X dX9_known_23 (by decide) rfl (fun hc_23 => ?_) (fun hc_23 => ?_)
  -- taken 23
  · refine v_aload_n (pc' := 29) (i := 1) (j := 1) X dX9_known_28 rfl rfl rfl ?_
    refine v_callV (pc' := 32) X (st := []) (c_X8_atomic (M := M) hi (e := e) h4 he) k_X8_atomic w_ml_X9_87 w_im_X8_atomic w_se_X8_X8_atomic (rv_T hi) (by rw [hR]; exact ⟨Nat.le_of_ble_eq_true rfl, Nat.le_of_ble_eq_true rfl⟩) rfl rfl (Nat.le_of_ble_eq_true rfl) dX9_known_29 rfl (⟨Nat.zero_le _, Nat.zero_le _⟩) ?_
    rintro _ _ ⟨rfl, x9, rfl, hx9⟩
    rcases hx9 with ⟨k0, hk0, h0, hf0, rfl⟩ | ⟨hno, rfl⟩
    · have hin : fIn M (tb i) := ⟨k0, by rw [h4, nn_nI (by omega)]; exact hk0, h0⟩
      refine v_if_lt (pc' := 35) (tgt := 39) X dX9_known_32 (by decide) rfl (fun hc_32 => absurd hc_32 (nI_pos (by omega))) (fun _ => ?_)
      refine v_iconst (pc' := 36) (v := 1) X dX9_known_35 (by decide) rfl ?_
      refine v_goto (pc' := 40) X dX9_known_36 (by decide) ?_
      refine v_istore (pc' := 42) (lv' := [(6, .int 1), (0, .ref (ad (0))), (1, .ref (ad (tb i))), (2, .int 19), (3, .int x), (4, .int y), (5, .int z)]) X dX9_known_40 (by decide) rfl rfl ?_
      refine v_iload (pc' := 44) (j := 0) X dX9_known_42 rfl rfl ?_
      refine v_if_eq (pc' := 47) (tgt := 78) X dX9_known_44 (by decide) rfl (fun hc_44 => absurd hc_44 (by decide)) (fun _ => ?_)
      refine v_iload_n (pc' := 48) (i := 2) (j := 3) X dX9_known_47 rfl rfl rfl ?_
      refine v_if_eq (pc' := 51) (tgt := 75) X dX9_known_48 (by decide) rfl (fun hc_48 => absurd hc_48 (by decide)) (fun _ => ?_)
      refine v_iload_n (pc' := 52) (i := 2) (j := 3) X dX9_known_51 rfl rfl rfl ?_
      refine v_bipush (pc' := 54) (v := 18) X dX9_known_52 (by decide) rfl ?_
      refine v_icmp_eq (pc' := 57) (tgt := 75) X dX9_known_54 (by decide) rfl (fun hc_54 => absurd hc_54 (by decide)) (fun _ => ?_)
      refine v_iload_n (pc' := 58) (i := 2) (j := 3) X dX9_known_57 rfl rfl rfl ?_
      refine v_bipush (pc' := 60) (v := 25) X dX9_known_58 (by decide) rfl ?_
      refine v_icmp_eq (pc' := 63) (tgt := 75) X dX9_known_60 (by decide) rfl (fun hc_60 => absurd hc_60 (by decide)) (fun _ => ?_)
      refine v_iload_n (pc' := 64) (i := 2) (j := 3) X dX9_known_63 rfl rfl rfl ?_
      refine v_bipush (pc' := 66) (v := 26) X dX9_known_64 (by decide) rfl ?_
      refine v_icmp_eq (pc' := 69) (tgt := 75) X dX9_known_66 (by decide) rfl (fun hc_66 => absurd hc_66 (by decide)) (fun _ => ?_)
      refine v_iload_n (pc' := 70) (i := 2) (j := 3) X dX9_known_69 rfl rfl rfl ?_
      refine v_bipush (pc' := 72) (v := 27) X dX9_known_70 (by decide) rfl ?_
      refine v_icmp_ne (pc' := 75) (tgt := 78) X dX9_known_72 (by decide) rfl (fun _ => ?_) (fun hc_72 => absurd hc_72 (by decide))
      refine v_iload (pc' := 80) (j := 0) X dX9_known_78 rfl rfl ?_
      refine v_if_ne (pc' := 83) (tgt := 116) X dX9_known_80 (by decide) rfl (fun _ => ?_) (fun hc_80 => absurd hc_80 (by decide))
      refine v_iload_n (pc' := 117) (i := 2) (j := 3) X dX9_known_116 rfl rfl rfl ?_
      refine v_bipush (pc' := 119) (v := 15) X dX9_known_117 (by decide) rfl ?_
      refine v_icmp_le (pc' := 122) (tgt := 128) X dX9_known_119 (by decide) rfl (fun hc_119 => absurd hc_119 (by decide)) (fun _ => ?_)
      refine v_iload_n (pc' := 123) (i := 2) (j := 3) X dX9_known_122 rfl rfl rfl ?_
      refine v_bipush (pc' := 125) (v := 29) X dX9_known_123 (by decide) rfl ?_
      refine v_icmp_ne (pc' := 128) (tgt := 140) X dX9_known_125 (by decide) rfl (fun _ => ?_) (fun hc_125 => absurd hc_125 (by decide))
      refine v_iload_n (pc' := 141) (i := 2) (j := 3) X dX9_known_140 rfl rfl rfl ?_
      refine v_bipush (pc' := 143) (v := 24) X dX9_known_141 (by decide) rfl ?_
      refine v_icmp_gt (pc' := 146) (tgt := 156) X dX9_known_143 (by decide) rfl (fun hc_143 => absurd hc_143 (by decide)) (fun _ => ?_)
      refine v_aload_n (pc' := 147) (i := 0) (j := 1) X dX9_known_146 rfl rfl rfl ?_
      refine v_aload_n (pc' := 148) (i := 1) (j := 2) X dX9_known_147 rfl rfl rfl ?_
      refine v_iload_n (pc' := 149) (i := 2) (j := 3) X dX9_known_148 rfl rfl rfl ?_
      refine v_iload_n (pc' := 150) (i := 3) (j := 4) X dX9_known_149 rfl rfl rfl ?_
      refine v_iload (pc' := 152) (j := 5) X dX9_known_150 rfl rfl ?_
      refine v_callV (pc' := 155) X (st := []) (c_X9_guarded_19 (M := M) hi hg hts hI (x := x) (y := y) hk0 h0 hst1 (fun q9 hq9 h9 => by obtain ⟨_, _, _, _, t9⟩ := hts q9 hq9; exact t9.wake h9)) k_X9_guarded w_ml_X9_94 w_im_X9_guarded w_se_X9_X9_guarded (rv_M) (by rw [hR]; exact ⟨Nat.le_of_ble_eq_true rfl, Nat.le_of_ble_eq_true rfl⟩) rfl rfl (Nat.le_of_ble_eq_true rfl) dX9_known_152 rfl (⟨Nat.zero_le _, Nat.zero_le _⟩) ?_
      rintro _ _ ⟨rfl, rfl⟩
      refine v_ireturn X R (Nat.zero_le _) (Nat.zero_le _) dX9_known_155 ?_
      have hF : fKnown M n (tb i) 19 x y z = ((fGuard M n (tb i) 19 x y).1, (fGuard M n (tb i) 19 x y).2) := by
        unfold fKnown
        rw [if_neg hc_23, if_pos hin]
        rw [if_neg (by decide)]
        unfold fRest
        rw [if_neg (by decide), if_pos (by decide)]
      rw [hF]
      exact ⟨rfl, rfl⟩
    · have hnin : ¬ fIn M (tb i) := fun z9 => by obtain ⟨q9, y9, y8⟩ := z9; rw [h4, nn_nI (by omega)] at y9; exact hno q9 y9 y8
      refine v_if_lt (pc' := 35) (tgt := 39) X dX9_known_32 (by decide) rfl (fun _ => ?_) (fun hc_32 => absurd (by decide) hc_32)
      refine v_iconst (pc' := 40) (v := 0) X dX9_known_39 (by decide) rfl ?_
      refine v_istore (pc' := 42) (lv' := [(6, .int 0), (0, .ref (ad (0))), (1, .ref (ad (tb i))), (2, .int 19), (3, .int x), (4, .int y), (5, .int z)]) X dX9_known_40 (by decide) rfl rfl ?_
      refine v_iload (pc' := 44) (j := 0) X dX9_known_42 rfl rfl ?_
      refine v_if_eq (pc' := 47) (tgt := 78) X dX9_known_44 (by decide) rfl (fun _ => ?_) (fun hc_44 => absurd (by decide) hc_44)
      refine v_iload (pc' := 80) (j := 0) X dX9_known_78 rfl rfl ?_
      refine v_if_ne (pc' := 83) (tgt := 116) X dX9_known_80 (by decide) rfl (fun hc_80 => absurd (by decide) hc_80) (fun _ => ?_)
      refine v_iload_n (pc' := 84) (i := 2) (j := 3) X dX9_known_83 rfl rfl rfl ?_
      refine v_bipush (pc' := 86) (v := 16) X dX9_known_84 (by decide) rfl ?_
      refine v_icmp_eq (pc' := 89) (tgt := 113) X dX9_known_86 (by decide) rfl (fun hc_86 => absurd hc_86 (by decide)) (fun _ => ?_)
      refine v_iload_n (pc' := 90) (i := 2) (j := 3) X dX9_known_89 rfl rfl rfl ?_
      refine v_bipush (pc' := 92) (v := 17) X dX9_known_90 (by decide) rfl ?_
      refine v_icmp_eq (pc' := 95) (tgt := 113) X dX9_known_92 (by decide) rfl (fun hc_92 => absurd hc_92 (by decide)) (fun _ => ?_)
      refine v_iload_n (pc' := 96) (i := 2) (j := 3) X dX9_known_95 rfl rfl rfl ?_
      refine v_bipush (pc' := 98) (v := 19) X dX9_known_96 (by decide) rfl ?_
      refine v_icmp_eq (pc' := 101) (tgt := 113) X dX9_known_98 (by decide) rfl (fun _ => ?_) (fun hc_98 => absurd (by decide) hc_98)
      refine v_bipush (pc' := 115) (v := (-4)) X dX9_known_113 (by decide) rfl ?_
      refine v_ireturn X R (Nat.zero_le _) (Nat.zero_le _) dX9_known_115 ?_
      have hF : fKnown M n (tb i) 19 x y z = (M, (-4)) := by
        unfold fKnown
        rw [if_neg hc_23, if_neg hnin]
        exact if_pos (by decide)
      rw [hF]
      exact ⟨rfl, rfl⟩
  -- not taken 23
  · refine v_iconst (pc' := 27) (v := (-1)) X dX9_known_26 (by decide) rfl ?_
    refine v_ireturn X R (Nat.zero_le _) (Nat.zero_le _) dX9_known_27 ?_
    have hF : fKnown M n (tb i) 19 x y z = (M, (-1)) := by
      unfold fKnown
      exact if_pos hc_23
    rw [hF]
    exact ⟨rfl, rfl⟩
set_option maxHeartbeats 4000000 in
set_option maxRecDepth 100000 in
theorem c_X9_known_20 {l : Launch} {D : va_G} {Y : Nat → ClassId} {zz : Nat → Nat} {n sz us pd : Nat} {ad : Nat → Nat} {M : vM} {i ca e r w : Nat} (hi : i < n) (hg : gI M n sz us pd) (hts : ∀ i, i < n → ∃ ca e r w, tI M us (tb i) ca e r w) (hI : tI M us (tb i) ca e r w) (hst1 : M.1 (tb i) 0 = 1) {x y z : Int32} : Ct l D Y zz yX9_known cX9_known 7 (some FieldType.int) 2 47 [.ref (ad (0)), .ref (ad (tb i)), .int 20, .int x, .int y, .int z] (wM Y n ad M) 0 0 (fun r w => r = some (.int (fKnown M n (tb i) 20 x y z).2) ∧ w = wM Y n ad (fKnown M n (tb i) 20 x y z).1) := by
  refine v_entry (by decide +kernel) (Nat.le_of_ble_eq_true rfl) ?_
  intro K X R hR hnm hl hD hY hz
  subst hl hD hY hz
  refine v_sub (lv' := [(0, .ref (ad (0))), (1, .ref (ad (tb i))), (2, .int 20), (3, .int x), (4, .int y), (5, .int z)]) [0, 1, 2, 3, 4, 5] rfl ?_
  obtain ⟨hsz, hsz2, hn2, hn1, hn16, hus, hus2, hpd, hpd2, h17, hfs, hvi, hgl⟩ := id hg
  obtain ⟨h3, hca, h4, he, h5, hr, h6, hw, hso, huq, hct, hctm, hwt, hwtm, hwt0, hpk, hst, hem, hov, hrg, hsv, hrd, hwr, hva⟩ := id hI
  refine v_iload_n (pc' := 1) (i := 2) (j := 2) X dX9_known_0 rfl rfl rfl ?_
  refine v_if_lt (pc' := 4) (tgt := 10) X dX9_known_1 (by decide) rfl (fun hc_1 => absurd hc_1 (by decide)) (fun _ => ?_)
  refine v_iload_n (pc' := 5) (i := 2) (j := 2) X dX9_known_4 rfl rfl rfl ?_
  refine v_bipush (pc' := 7) (v := 29) X dX9_known_5 (by decide) rfl ?_
  refine v_icmp_le (pc' := 10) (tgt := 12) X dX9_known_7 (by decide) rfl (fun _ => ?_) (fun hc_7 => absurd (by decide) hc_7)
  refine v_aload_n (pc' := 13) (i := 0) (j := 0) X dX9_known_12 rfl rfl rfl ?_
  refine v_aload_n (pc' := 14) (i := 1) (j := 1) X dX9_known_13 rfl rfl rfl ?_
  refine v_iload_n (pc' := 15) (i := 2) (j := 2) X dX9_known_14 rfl rfl rfl ?_
  refine v_iload_n (pc' := 16) (i := 3) (j := 3) X dX9_known_15 rfl rfl rfl ?_
  refine v_iload (pc' := 18) (j := 4) X dX9_known_16 rfl rfl ?_
  refine v_iload (pc' := 20) (j := 5) X dX9_known_18 rfl rfl ?_
  refine v_callV (pc' := 23) X (st := []) (c_X9_wrong_20 (M := M) hi (x := x) (y := y) (z := z)) k_X9_wrong w_ml_X9_83 w_im_X9_wrong w_se_X9_X9_wrong (rv_M) (by rw [hR]; exact ⟨Nat.le_of_ble_eq_true rfl, Nat.le_of_ble_eq_true rfl⟩) rfl rfl (Nat.le_of_ble_eq_true rfl) dX9_known_20 rfl (⟨Nat.zero_le _, Nat.zero_le _⟩) ?_
  rintro _ _ ⟨rfl, rfl⟩
  refine v_ifB_eq (pc' := 26) (tgt := 28) X dX9_known_23 (by decide) rfl (fun hc_23 => ?_) (fun hc_23 => ?_)
  -- taken 23
  · refine v_aload_n (pc' := 29) (i := 1) (j := 1) X dX9_known_28 rfl rfl rfl ?_
    refine v_callV (pc' := 32) X (st := []) (c_X8_atomic (M := M) hi (e := e) h4 he) k_X8_atomic w_ml_X9_87 w_im_X8_atomic w_se_X8_X8_atomic (rv_T hi) (by rw [hR]; exact ⟨Nat.le_of_ble_eq_true rfl, Nat.le_of_ble_eq_true rfl⟩) rfl rfl (Nat.le_of_ble_eq_true rfl) dX9_known_29 rfl (⟨Nat.zero_le _, Nat.zero_le _⟩) ?_
    rintro _ _ ⟨rfl, x9, rfl, hx9⟩
    rcases hx9 with ⟨k0, hk0, h0, hf0, rfl⟩ | ⟨hno, rfl⟩
    · have hin : fIn M (tb i) := ⟨k0, by rw [h4, nn_nI (by omega)]; exact hk0, h0⟩
      refine v_if_lt (pc' := 35) (tgt := 39) X dX9_known_32 (by decide) rfl (fun hc_32 => absurd hc_32 (nI_pos (by omega))) (fun _ => ?_)
      refine v_iconst (pc' := 36) (v := 1) X dX9_known_35 (by decide) rfl ?_
      refine v_goto (pc' := 40) X dX9_known_36 (by decide) ?_
      refine v_istore (pc' := 42) (lv' := [(6, .int 1), (0, .ref (ad (0))), (1, .ref (ad (tb i))), (2, .int 20), (3, .int x), (4, .int y), (5, .int z)]) X dX9_known_40 (by decide) rfl rfl ?_
      refine v_iload (pc' := 44) (j := 0) X dX9_known_42 rfl rfl ?_
      refine v_if_eq (pc' := 47) (tgt := 78) X dX9_known_44 (by decide) rfl (fun hc_44 => absurd hc_44 (by decide)) (fun _ => ?_)
      refine v_iload_n (pc' := 48) (i := 2) (j := 3) X dX9_known_47 rfl rfl rfl ?_
      refine v_if_eq (pc' := 51) (tgt := 75) X dX9_known_48 (by decide) rfl (fun hc_48 => absurd hc_48 (by decide)) (fun _ => ?_)
      refine v_iload_n (pc' := 52) (i := 2) (j := 3) X dX9_known_51 rfl rfl rfl ?_
      refine v_bipush (pc' := 54) (v := 18) X dX9_known_52 (by decide) rfl ?_
      refine v_icmp_eq (pc' := 57) (tgt := 75) X dX9_known_54 (by decide) rfl (fun hc_54 => absurd hc_54 (by decide)) (fun _ => ?_)
      refine v_iload_n (pc' := 58) (i := 2) (j := 3) X dX9_known_57 rfl rfl rfl ?_
      refine v_bipush (pc' := 60) (v := 25) X dX9_known_58 (by decide) rfl ?_
      refine v_icmp_eq (pc' := 63) (tgt := 75) X dX9_known_60 (by decide) rfl (fun hc_60 => absurd hc_60 (by decide)) (fun _ => ?_)
      refine v_iload_n (pc' := 64) (i := 2) (j := 3) X dX9_known_63 rfl rfl rfl ?_
      refine v_bipush (pc' := 66) (v := 26) X dX9_known_64 (by decide) rfl ?_
      refine v_icmp_eq (pc' := 69) (tgt := 75) X dX9_known_66 (by decide) rfl (fun hc_66 => absurd hc_66 (by decide)) (fun _ => ?_)
      refine v_iload_n (pc' := 70) (i := 2) (j := 3) X dX9_known_69 rfl rfl rfl ?_
      refine v_bipush (pc' := 72) (v := 27) X dX9_known_70 (by decide) rfl ?_
      refine v_icmp_ne (pc' := 75) (tgt := 78) X dX9_known_72 (by decide) rfl (fun _ => ?_) (fun hc_72 => absurd hc_72 (by decide))
      refine v_iload (pc' := 80) (j := 0) X dX9_known_78 rfl rfl ?_
      refine v_if_ne (pc' := 83) (tgt := 116) X dX9_known_80 (by decide) rfl (fun _ => ?_) (fun hc_80 => absurd hc_80 (by decide))
      refine v_iload_n (pc' := 117) (i := 2) (j := 3) X dX9_known_116 rfl rfl rfl ?_
      refine v_bipush (pc' := 119) (v := 15) X dX9_known_117 (by decide) rfl ?_
      refine v_icmp_le (pc' := 122) (tgt := 128) X dX9_known_119 (by decide) rfl (fun hc_119 => absurd hc_119 (by decide)) (fun _ => ?_)
      refine v_iload_n (pc' := 123) (i := 2) (j := 3) X dX9_known_122 rfl rfl rfl ?_
      refine v_bipush (pc' := 125) (v := 29) X dX9_known_123 (by decide) rfl ?_
      refine v_icmp_ne (pc' := 128) (tgt := 140) X dX9_known_125 (by decide) rfl (fun _ => ?_) (fun hc_125 => absurd hc_125 (by decide))
      refine v_iload_n (pc' := 141) (i := 2) (j := 3) X dX9_known_140 rfl rfl rfl ?_
      refine v_bipush (pc' := 143) (v := 24) X dX9_known_141 (by decide) rfl ?_
      refine v_icmp_gt (pc' := 146) (tgt := 156) X dX9_known_143 (by decide) rfl (fun hc_143 => absurd hc_143 (by decide)) (fun _ => ?_)
      refine v_aload_n (pc' := 147) (i := 0) (j := 1) X dX9_known_146 rfl rfl rfl ?_
      refine v_aload_n (pc' := 148) (i := 1) (j := 2) X dX9_known_147 rfl rfl rfl ?_
      refine v_iload_n (pc' := 149) (i := 2) (j := 3) X dX9_known_148 rfl rfl rfl ?_
      refine v_iload_n (pc' := 150) (i := 3) (j := 4) X dX9_known_149 rfl rfl rfl ?_
      refine v_iload (pc' := 152) (j := 5) X dX9_known_150 rfl rfl ?_
      refine v_callV (pc' := 155) X (st := []) (c_X9_guarded_20 (M := M) hi hg hts hI (x := x) (y := y) hk0 h0) k_X9_guarded w_ml_X9_94 w_im_X9_guarded w_se_X9_X9_guarded (rv_M) (by rw [hR]; exact ⟨Nat.le_of_ble_eq_true rfl, Nat.le_of_ble_eq_true rfl⟩) rfl rfl (Nat.le_of_ble_eq_true rfl) dX9_known_152 rfl (⟨Nat.zero_le _, Nat.zero_le _⟩) ?_
      rintro _ _ ⟨rfl, rfl⟩
      refine v_ireturn X R (Nat.zero_le _) (Nat.zero_le _) dX9_known_155 ?_
      have hF : fKnown M n (tb i) 20 x y z = ((fGuard M n (tb i) 20 x y).1, (fGuard M n (tb i) 20 x y).2) := by
        unfold fKnown
        rw [if_neg hc_23, if_pos hin]
        rw [if_neg (by decide)]
        unfold fRest
        rw [if_neg (by decide), if_pos (by decide)]
      rw [hF]
      exact ⟨rfl, rfl⟩
    · have hnin : ¬ fIn M (tb i) := fun z9 => by obtain ⟨q9, y9, y8⟩ := z9; rw [h4, nn_nI (by omega)] at y9; exact hno q9 y9 y8
      refine v_if_lt (pc' := 35) (tgt := 39) X dX9_known_32 (by decide) rfl (fun _ => ?_) (fun hc_32 => absurd (by decide) hc_32)
      refine v_iconst (pc' := 40) (v := 0) X dX9_known_39 (by decide) rfl ?_
      refine v_istore (pc' := 42) (lv' := [(6, .int 0), (0, .ref (ad (0))), (1, .ref (ad (tb i))), (2, .int 20), (3, .int x), (4, .int y), (5, .int z)]) X dX9_known_40 (by decide) rfl rfl ?_
      refine v_iload (pc' := 44) (j := 0) X dX9_known_42 rfl rfl ?_
      refine v_if_eq (pc' := 47) (tgt := 78) X dX9_known_44 (by decide) rfl (fun _ => ?_) (fun hc_44 => absurd (by decide) hc_44)
      refine v_iload (pc' := 80) (j := 0) X dX9_known_78 rfl rfl ?_
      refine v_if_ne (pc' := 83) (tgt := 116) X dX9_known_80 (by decide) rfl (fun hc_80 => absurd (by decide) hc_80) (fun _ => ?_)
      refine v_iload_n (pc' := 84) (i := 2) (j := 3) X dX9_known_83 rfl rfl rfl ?_
      refine v_bipush (pc' := 86) (v := 16) X dX9_known_84 (by decide) rfl ?_
      refine v_icmp_eq (pc' := 89) (tgt := 113) X dX9_known_86 (by decide) rfl (fun hc_86 => absurd hc_86 (by decide)) (fun _ => ?_)
      refine v_iload_n (pc' := 90) (i := 2) (j := 3) X dX9_known_89 rfl rfl rfl ?_
      refine v_bipush (pc' := 92) (v := 17) X dX9_known_90 (by decide) rfl ?_
      refine v_icmp_eq (pc' := 95) (tgt := 113) X dX9_known_92 (by decide) rfl (fun hc_92 => absurd hc_92 (by decide)) (fun _ => ?_)
      refine v_iload_n (pc' := 96) (i := 2) (j := 3) X dX9_known_95 rfl rfl rfl ?_
      refine v_bipush (pc' := 98) (v := 19) X dX9_known_96 (by decide) rfl ?_
      refine v_icmp_eq (pc' := 101) (tgt := 113) X dX9_known_98 (by decide) rfl (fun hc_98 => absurd hc_98 (by decide)) (fun _ => ?_)
      refine v_iload_n (pc' := 102) (i := 2) (j := 3) X dX9_known_101 rfl rfl rfl ?_
      refine v_bipush (pc' := 104) (v := 20) X dX9_known_102 (by decide) rfl ?_
      refine v_icmp_eq (pc' := 107) (tgt := 113) X dX9_known_104 (by decide) rfl (fun _ => ?_) (fun hc_104 => absurd (by decide) hc_104)
      refine v_bipush (pc' := 115) (v := (-4)) X dX9_known_113 (by decide) rfl ?_
      refine v_ireturn X R (Nat.zero_le _) (Nat.zero_le _) dX9_known_115 ?_
      have hF : fKnown M n (tb i) 20 x y z = (M, (-4)) := by
        unfold fKnown
        rw [if_neg hc_23, if_neg hnin]
        exact if_pos (by decide)
      rw [hF]
      exact ⟨rfl, rfl⟩
  -- not taken 23
  · refine v_iconst (pc' := 27) (v := (-1)) X dX9_known_26 (by decide) rfl ?_
    refine v_ireturn X R (Nat.zero_le _) (Nat.zero_le _) dX9_known_27 ?_
    have hF : fKnown M n (tb i) 20 x y z = (M, (-1)) := by
      unfold fKnown
      exact if_pos hc_23
    rw [hF]
    exact ⟨rfl, rfl⟩
set_option maxHeartbeats 4000000 in
set_option maxRecDepth 100000 in
theorem c_X9_known_21 {l : Launch} {D : va_G} {Y : Nat → ClassId} {zz : Nat → Nat} {n sz us pd : Nat} {ad : Nat → Nat} {M : vM} {i ca e r w : Nat} (hi : i < n) (hg : gI M n sz us pd) (hts : ∀ i, i < n → ∃ ca e r w, tI M us (tb i) ca e r w) (hI : tI M us (tb i) ca e r w) (hst1 : M.1 (tb i) 0 = 1) {x y z : Int32} : Ct l D Y zz yX9_known cX9_known 7 (some FieldType.int) 2 47 [.ref (ad (0)), .ref (ad (tb i)), .int 21, .int x, .int y, .int z] (wM Y n ad M) 0 0 (fun r w => r = some (.int (fKnown M n (tb i) 21 x y z).2) ∧ w = wM Y n ad (fKnown M n (tb i) 21 x y z).1) := by
  refine v_entry (by decide +kernel) (Nat.le_of_ble_eq_true rfl) ?_
  intro K X R hR hnm hl hD hY hz
  subst hl hD hY hz
  refine v_sub (lv' := [(0, .ref (ad (0))), (1, .ref (ad (tb i))), (2, .int 21), (3, .int x), (4, .int y), (5, .int z)]) [0, 1, 2, 3, 4, 5] rfl ?_
  obtain ⟨hsz, hsz2, hn2, hn1, hn16, hus, hus2, hpd, hpd2, h17, hfs, hvi, hgl⟩ := id hg
  obtain ⟨h3, hca, h4, he, h5, hr, h6, hw, hso, huq, hct, hctm, hwt, hwtm, hwt0, hpk, hst, hem, hov, hrg, hsv, hrd, hwr, hva⟩ := id hI
  refine v_iload_n (pc' := 1) (i := 2) (j := 2) X dX9_known_0 rfl rfl rfl ?_
  refine v_if_lt (pc' := 4) (tgt := 10) X dX9_known_1 (by decide) rfl (fun hc_1 => absurd hc_1 (by decide)) (fun _ => ?_)
  refine v_iload_n (pc' := 5) (i := 2) (j := 2) X dX9_known_4 rfl rfl rfl ?_
  refine v_bipush (pc' := 7) (v := 29) X dX9_known_5 (by decide) rfl ?_
  refine v_icmp_le (pc' := 10) (tgt := 12) X dX9_known_7 (by decide) rfl (fun _ => ?_) (fun hc_7 => absurd (by decide) hc_7)
  refine v_aload_n (pc' := 13) (i := 0) (j := 0) X dX9_known_12 rfl rfl rfl ?_
  refine v_aload_n (pc' := 14) (i := 1) (j := 1) X dX9_known_13 rfl rfl rfl ?_
  refine v_iload_n (pc' := 15) (i := 2) (j := 2) X dX9_known_14 rfl rfl rfl ?_
  refine v_iload_n (pc' := 16) (i := 3) (j := 3) X dX9_known_15 rfl rfl rfl ?_
  refine v_iload (pc' := 18) (j := 4) X dX9_known_16 rfl rfl ?_
  refine v_iload (pc' := 20) (j := 5) X dX9_known_18 rfl rfl ?_
  refine v_callV (pc' := 23) X (st := []) (c_X9_wrong_21 (M := M) hi (x := x) (y := y) (z := z)) k_X9_wrong w_ml_X9_83 w_im_X9_wrong w_se_X9_X9_wrong (rv_M) (by rw [hR]; exact ⟨Nat.le_of_ble_eq_true rfl, Nat.le_of_ble_eq_true rfl⟩) rfl rfl (Nat.le_of_ble_eq_true rfl) dX9_known_20 rfl (⟨Nat.zero_le _, Nat.zero_le _⟩) ?_
  rintro _ _ ⟨rfl, rfl⟩
  refine v_ifB_eq (pc' := 26) (tgt := 28) X dX9_known_23 (by decide) rfl (fun hc_23 => ?_) (fun hc_23 => ?_)
  -- taken 23
  · refine v_aload_n (pc' := 29) (i := 1) (j := 1) X dX9_known_28 rfl rfl rfl ?_
    refine v_callV (pc' := 32) X (st := []) (c_X8_atomic (M := M) hi (e := e) h4 he) k_X8_atomic w_ml_X9_87 w_im_X8_atomic w_se_X8_X8_atomic (rv_T hi) (by rw [hR]; exact ⟨Nat.le_of_ble_eq_true rfl, Nat.le_of_ble_eq_true rfl⟩) rfl rfl (Nat.le_of_ble_eq_true rfl) dX9_known_29 rfl (⟨Nat.zero_le _, Nat.zero_le _⟩) ?_
    rintro _ _ ⟨rfl, x9, rfl, hx9⟩
    rcases hx9 with ⟨k0, hk0, h0, hf0, rfl⟩ | ⟨hno, rfl⟩
    · have hin : fIn M (tb i) := ⟨k0, by rw [h4, nn_nI (by omega)]; exact hk0, h0⟩
      refine v_if_lt (pc' := 35) (tgt := 39) X dX9_known_32 (by decide) rfl (fun hc_32 => absurd hc_32 (nI_pos (by omega))) (fun _ => ?_)
      refine v_iconst (pc' := 36) (v := 1) X dX9_known_35 (by decide) rfl ?_
      refine v_goto (pc' := 40) X dX9_known_36 (by decide) ?_
      refine v_istore (pc' := 42) (lv' := [(6, .int 1), (0, .ref (ad (0))), (1, .ref (ad (tb i))), (2, .int 21), (3, .int x), (4, .int y), (5, .int z)]) X dX9_known_40 (by decide) rfl rfl ?_
      refine v_iload (pc' := 44) (j := 0) X dX9_known_42 rfl rfl ?_
      refine v_if_eq (pc' := 47) (tgt := 78) X dX9_known_44 (by decide) rfl (fun hc_44 => absurd hc_44 (by decide)) (fun _ => ?_)
      refine v_iload_n (pc' := 48) (i := 2) (j := 3) X dX9_known_47 rfl rfl rfl ?_
      refine v_if_eq (pc' := 51) (tgt := 75) X dX9_known_48 (by decide) rfl (fun hc_48 => absurd hc_48 (by decide)) (fun _ => ?_)
      refine v_iload_n (pc' := 52) (i := 2) (j := 3) X dX9_known_51 rfl rfl rfl ?_
      refine v_bipush (pc' := 54) (v := 18) X dX9_known_52 (by decide) rfl ?_
      refine v_icmp_eq (pc' := 57) (tgt := 75) X dX9_known_54 (by decide) rfl (fun hc_54 => absurd hc_54 (by decide)) (fun _ => ?_)
      refine v_iload_n (pc' := 58) (i := 2) (j := 3) X dX9_known_57 rfl rfl rfl ?_
      refine v_bipush (pc' := 60) (v := 25) X dX9_known_58 (by decide) rfl ?_
      refine v_icmp_eq (pc' := 63) (tgt := 75) X dX9_known_60 (by decide) rfl (fun hc_60 => absurd hc_60 (by decide)) (fun _ => ?_)
      refine v_iload_n (pc' := 64) (i := 2) (j := 3) X dX9_known_63 rfl rfl rfl ?_
      refine v_bipush (pc' := 66) (v := 26) X dX9_known_64 (by decide) rfl ?_
      refine v_icmp_eq (pc' := 69) (tgt := 75) X dX9_known_66 (by decide) rfl (fun hc_66 => absurd hc_66 (by decide)) (fun _ => ?_)
      refine v_iload_n (pc' := 70) (i := 2) (j := 3) X dX9_known_69 rfl rfl rfl ?_
      refine v_bipush (pc' := 72) (v := 27) X dX9_known_70 (by decide) rfl ?_
      refine v_icmp_ne (pc' := 75) (tgt := 78) X dX9_known_72 (by decide) rfl (fun _ => ?_) (fun hc_72 => absurd hc_72 (by decide))
      refine v_iload (pc' := 80) (j := 0) X dX9_known_78 rfl rfl ?_
      refine v_if_ne (pc' := 83) (tgt := 116) X dX9_known_80 (by decide) rfl (fun _ => ?_) (fun hc_80 => absurd hc_80 (by decide))
      refine v_iload_n (pc' := 117) (i := 2) (j := 3) X dX9_known_116 rfl rfl rfl ?_
      refine v_bipush (pc' := 119) (v := 15) X dX9_known_117 (by decide) rfl ?_
      refine v_icmp_le (pc' := 122) (tgt := 128) X dX9_known_119 (by decide) rfl (fun hc_119 => absurd hc_119 (by decide)) (fun _ => ?_)
      refine v_iload_n (pc' := 123) (i := 2) (j := 3) X dX9_known_122 rfl rfl rfl ?_
      refine v_bipush (pc' := 125) (v := 29) X dX9_known_123 (by decide) rfl ?_
      refine v_icmp_ne (pc' := 128) (tgt := 140) X dX9_known_125 (by decide) rfl (fun _ => ?_) (fun hc_125 => absurd hc_125 (by decide))
      refine v_iload_n (pc' := 141) (i := 2) (j := 3) X dX9_known_140 rfl rfl rfl ?_
      refine v_bipush (pc' := 143) (v := 24) X dX9_known_141 (by decide) rfl ?_
      refine v_icmp_gt (pc' := 146) (tgt := 156) X dX9_known_143 (by decide) rfl (fun hc_143 => absurd hc_143 (by decide)) (fun _ => ?_)
      refine v_aload_n (pc' := 147) (i := 0) (j := 1) X dX9_known_146 rfl rfl rfl ?_
      refine v_aload_n (pc' := 148) (i := 1) (j := 2) X dX9_known_147 rfl rfl rfl ?_
      refine v_iload_n (pc' := 149) (i := 2) (j := 3) X dX9_known_148 rfl rfl rfl ?_
      refine v_iload_n (pc' := 150) (i := 3) (j := 4) X dX9_known_149 rfl rfl rfl ?_
      refine v_iload (pc' := 152) (j := 5) X dX9_known_150 rfl rfl ?_
      refine v_callV (pc' := 155) X (st := []) (c_X9_guarded_21 (M := M) hi hg hts hI (x := x) (y := y)) k_X9_guarded w_ml_X9_94 w_im_X9_guarded w_se_X9_X9_guarded (rv_M) (by rw [hR]; exact ⟨Nat.le_of_ble_eq_true rfl, Nat.le_of_ble_eq_true rfl⟩) rfl rfl (Nat.le_of_ble_eq_true rfl) dX9_known_152 rfl (⟨Nat.zero_le _, Nat.zero_le _⟩) ?_
      rintro _ _ ⟨rfl, rfl⟩
      refine v_ireturn X R (Nat.zero_le _) (Nat.zero_le _) dX9_known_155 ?_
      have hF : fKnown M n (tb i) 21 x y z = ((fGuard M n (tb i) 21 x y).1, (fGuard M n (tb i) 21 x y).2) := by
        unfold fKnown
        rw [if_neg hc_23, if_pos hin]
        rw [if_neg (by decide)]
        unfold fRest
        rw [if_neg (by decide), if_pos (by decide)]
      rw [hF]
      exact ⟨rfl, rfl⟩
    · have hnin : ¬ fIn M (tb i) := fun z9 => by obtain ⟨q9, y9, y8⟩ := z9; rw [h4, nn_nI (by omega)] at y9; exact hno q9 y9 y8
      refine v_if_lt (pc' := 35) (tgt := 39) X dX9_known_32 (by decide) rfl (fun _ => ?_) (fun hc_32 => absurd (by decide) hc_32)
      refine v_iconst (pc' := 40) (v := 0) X dX9_known_39 (by decide) rfl ?_
      refine v_istore (pc' := 42) (lv' := [(6, .int 0), (0, .ref (ad (0))), (1, .ref (ad (tb i))), (2, .int 21), (3, .int x), (4, .int y), (5, .int z)]) X dX9_known_40 (by decide) rfl rfl ?_
      refine v_iload (pc' := 44) (j := 0) X dX9_known_42 rfl rfl ?_
      refine v_if_eq (pc' := 47) (tgt := 78) X dX9_known_44 (by decide) rfl (fun _ => ?_) (fun hc_44 => absurd (by decide) hc_44)
      refine v_iload (pc' := 80) (j := 0) X dX9_known_78 rfl rfl ?_
      refine v_if_ne (pc' := 83) (tgt := 116) X dX9_known_80 (by decide) rfl (fun hc_80 => absurd (by decide) hc_80) (fun _ => ?_)
      refine v_iload_n (pc' := 84) (i := 2) (j := 3) X dX9_known_83 rfl rfl rfl ?_
      refine v_bipush (pc' := 86) (v := 16) X dX9_known_84 (by decide) rfl ?_
      refine v_icmp_eq (pc' := 89) (tgt := 113) X dX9_known_86 (by decide) rfl (fun hc_86 => absurd hc_86 (by decide)) (fun _ => ?_)
      refine v_iload_n (pc' := 90) (i := 2) (j := 3) X dX9_known_89 rfl rfl rfl ?_
      refine v_bipush (pc' := 92) (v := 17) X dX9_known_90 (by decide) rfl ?_
      refine v_icmp_eq (pc' := 95) (tgt := 113) X dX9_known_92 (by decide) rfl (fun hc_92 => absurd hc_92 (by decide)) (fun _ => ?_)
      refine v_iload_n (pc' := 96) (i := 2) (j := 3) X dX9_known_95 rfl rfl rfl ?_
      refine v_bipush (pc' := 98) (v := 19) X dX9_known_96 (by decide) rfl ?_
      refine v_icmp_eq (pc' := 101) (tgt := 113) X dX9_known_98 (by decide) rfl (fun hc_98 => absurd hc_98 (by decide)) (fun _ => ?_)
      refine v_iload_n (pc' := 102) (i := 2) (j := 3) X dX9_known_101 rfl rfl rfl ?_
      refine v_bipush (pc' := 104) (v := 20) X dX9_known_102 (by decide) rfl ?_
      refine v_icmp_eq (pc' := 107) (tgt := 113) X dX9_known_104 (by decide) rfl (fun hc_104 => absurd hc_104 (by decide)) (fun _ => ?_)
      refine v_iload_n (pc' := 108) (i := 2) (j := 3) X dX9_known_107 rfl rfl rfl ?_
      refine v_bipush (pc' := 110) (v := 23) X dX9_known_108 (by decide) rfl ?_
      refine v_icmp_ne (pc' := 113) (tgt := 116) X dX9_known_110 (by decide) rfl (fun _ => ?_) (fun hc_110 => absurd hc_110 (by decide))
      refine v_iload_n (pc' := 117) (i := 2) (j := 3) X dX9_known_116 rfl rfl rfl ?_
      refine v_bipush (pc' := 119) (v := 15) X dX9_known_117 (by decide) rfl ?_
      refine v_icmp_le (pc' := 122) (tgt := 128) X dX9_known_119 (by decide) rfl (fun hc_119 => absurd hc_119 (by decide)) (fun _ => ?_)
      refine v_iload_n (pc' := 123) (i := 2) (j := 3) X dX9_known_122 rfl rfl rfl ?_
      refine v_bipush (pc' := 125) (v := 29) X dX9_known_123 (by decide) rfl ?_
      refine v_icmp_ne (pc' := 128) (tgt := 140) X dX9_known_125 (by decide) rfl (fun _ => ?_) (fun hc_125 => absurd hc_125 (by decide))
      refine v_iload_n (pc' := 141) (i := 2) (j := 3) X dX9_known_140 rfl rfl rfl ?_
      refine v_bipush (pc' := 143) (v := 24) X dX9_known_141 (by decide) rfl ?_
      refine v_icmp_gt (pc' := 146) (tgt := 156) X dX9_known_143 (by decide) rfl (fun hc_143 => absurd hc_143 (by decide)) (fun _ => ?_)
      refine v_aload_n (pc' := 147) (i := 0) (j := 1) X dX9_known_146 rfl rfl rfl ?_
      refine v_aload_n (pc' := 148) (i := 1) (j := 2) X dX9_known_147 rfl rfl rfl ?_
      refine v_iload_n (pc' := 149) (i := 2) (j := 3) X dX9_known_148 rfl rfl rfl ?_
      refine v_iload_n (pc' := 150) (i := 3) (j := 4) X dX9_known_149 rfl rfl rfl ?_
      refine v_iload (pc' := 152) (j := 5) X dX9_known_150 rfl rfl ?_
      refine v_callV (pc' := 155) X (st := []) (c_X9_guarded_21 (M := M) hi hg hts hI (x := x) (y := y)) k_X9_guarded w_ml_X9_94 w_im_X9_guarded w_se_X9_X9_guarded (rv_M) (by rw [hR]; exact ⟨Nat.le_of_ble_eq_true rfl, Nat.le_of_ble_eq_true rfl⟩) rfl rfl (Nat.le_of_ble_eq_true rfl) dX9_known_152 rfl (⟨Nat.zero_le _, Nat.zero_le _⟩) ?_
      rintro _ _ ⟨rfl, rfl⟩
      refine v_ireturn X R (Nat.zero_le _) (Nat.zero_le _) dX9_known_155 ?_
      have hF : fKnown M n (tb i) 21 x y z = ((fGuard M n (tb i) 21 x y).1, (fGuard M n (tb i) 21 x y).2) := by
        unfold fKnown
        rw [if_neg hc_23, if_neg hnin]
        rw [if_neg (by decide)]
        unfold fRest
        rw [if_neg (by decide), if_pos (by decide)]
      rw [hF]
      exact ⟨rfl, rfl⟩
  -- not taken 23
  · refine v_iconst (pc' := 27) (v := (-1)) X dX9_known_26 (by decide) rfl ?_
    refine v_ireturn X R (Nat.zero_le _) (Nat.zero_le _) dX9_known_27 ?_
    have hF : fKnown M n (tb i) 21 x y z = (M, (-1)) := by
      unfold fKnown
      exact if_pos hc_23
    rw [hF]
    exact ⟨rfl, rfl⟩
set_option maxHeartbeats 4000000 in
set_option maxRecDepth 100000 in
theorem c_X9_known_22 {l : Launch} {D : va_G} {Y : Nat → ClassId} {zz : Nat → Nat} {n sz us pd : Nat} {ad : Nat → Nat} {M : vM} {i ca e r w : Nat} (hi : i < n) (hg : gI M n sz us pd) (hts : ∀ i, i < n → ∃ ca e r w, tI M us (tb i) ca e r w) (hI : tI M us (tb i) ca e r w) (hst1 : M.1 (tb i) 0 = 1) {x y z : Int32} : Ct l D Y zz yX9_known cX9_known 7 (some FieldType.int) 2 47 [.ref (ad (0)), .ref (ad (tb i)), .int 22, .int x, .int y, .int z] (wM Y n ad M) 0 0 (fun r w => r = some (.int (fKnown M n (tb i) 22 x y z).2) ∧ w = wM Y n ad (fKnown M n (tb i) 22 x y z).1) := by
  refine v_entry (by decide +kernel) (Nat.le_of_ble_eq_true rfl) ?_
  intro K X R hR hnm hl hD hY hz
  subst hl hD hY hz
  refine v_sub (lv' := [(0, .ref (ad (0))), (1, .ref (ad (tb i))), (2, .int 22), (3, .int x), (4, .int y), (5, .int z)]) [0, 1, 2, 3, 4, 5] rfl ?_
  obtain ⟨hsz, hsz2, hn2, hn1, hn16, hus, hus2, hpd, hpd2, h17, hfs, hvi, hgl⟩ := id hg
  obtain ⟨h3, hca, h4, he, h5, hr, h6, hw, hso, huq, hct, hctm, hwt, hwtm, hwt0, hpk, hst, hem, hov, hrg, hsv, hrd, hwr, hva⟩ := id hI
  refine v_iload_n (pc' := 1) (i := 2) (j := 2) X dX9_known_0 rfl rfl rfl ?_
  refine v_if_lt (pc' := 4) (tgt := 10) X dX9_known_1 (by decide) rfl (fun hc_1 => absurd hc_1 (by decide)) (fun _ => ?_)
  refine v_iload_n (pc' := 5) (i := 2) (j := 2) X dX9_known_4 rfl rfl rfl ?_
  refine v_bipush (pc' := 7) (v := 29) X dX9_known_5 (by decide) rfl ?_
  refine v_icmp_le (pc' := 10) (tgt := 12) X dX9_known_7 (by decide) rfl (fun _ => ?_) (fun hc_7 => absurd (by decide) hc_7)
  refine v_aload_n (pc' := 13) (i := 0) (j := 0) X dX9_known_12 rfl rfl rfl ?_
  refine v_aload_n (pc' := 14) (i := 1) (j := 1) X dX9_known_13 rfl rfl rfl ?_
  refine v_iload_n (pc' := 15) (i := 2) (j := 2) X dX9_known_14 rfl rfl rfl ?_
  refine v_iload_n (pc' := 16) (i := 3) (j := 3) X dX9_known_15 rfl rfl rfl ?_
  refine v_iload (pc' := 18) (j := 4) X dX9_known_16 rfl rfl ?_
  refine v_iload (pc' := 20) (j := 5) X dX9_known_18 rfl rfl ?_
  refine v_callV (pc' := 23) X (st := []) (c_X9_wrong_22 (M := M) hi (x := x) (y := y) (z := z)) k_X9_wrong w_ml_X9_83 w_im_X9_wrong w_se_X9_X9_wrong (rv_M) (by rw [hR]; exact ⟨Nat.le_of_ble_eq_true rfl, Nat.le_of_ble_eq_true rfl⟩) rfl rfl (Nat.le_of_ble_eq_true rfl) dX9_known_20 rfl (⟨Nat.zero_le _, Nat.zero_le _⟩) ?_
  rintro _ _ ⟨rfl, rfl⟩
  refine v_ifB_eq (pc' := 26) (tgt := 28) X dX9_known_23 (by decide) rfl (fun hc_23 => ?_) (fun hc_23 => ?_)
  -- taken 23
  · refine v_aload_n (pc' := 29) (i := 1) (j := 1) X dX9_known_28 rfl rfl rfl ?_
    refine v_callV (pc' := 32) X (st := []) (c_X8_atomic (M := M) hi (e := e) h4 he) k_X8_atomic w_ml_X9_87 w_im_X8_atomic w_se_X8_X8_atomic (rv_T hi) (by rw [hR]; exact ⟨Nat.le_of_ble_eq_true rfl, Nat.le_of_ble_eq_true rfl⟩) rfl rfl (Nat.le_of_ble_eq_true rfl) dX9_known_29 rfl (⟨Nat.zero_le _, Nat.zero_le _⟩) ?_
    rintro _ _ ⟨rfl, x9, rfl, hx9⟩
    rcases hx9 with ⟨k0, hk0, h0, hf0, rfl⟩ | ⟨hno, rfl⟩
    · have hin : fIn M (tb i) := ⟨k0, by rw [h4, nn_nI (by omega)]; exact hk0, h0⟩
      refine v_if_lt (pc' := 35) (tgt := 39) X dX9_known_32 (by decide) rfl (fun hc_32 => absurd hc_32 (nI_pos (by omega))) (fun _ => ?_)
      refine v_iconst (pc' := 36) (v := 1) X dX9_known_35 (by decide) rfl ?_
      refine v_goto (pc' := 40) X dX9_known_36 (by decide) ?_
      refine v_istore (pc' := 42) (lv' := [(6, .int 1), (0, .ref (ad (0))), (1, .ref (ad (tb i))), (2, .int 22), (3, .int x), (4, .int y), (5, .int z)]) X dX9_known_40 (by decide) rfl rfl ?_
      refine v_iload (pc' := 44) (j := 0) X dX9_known_42 rfl rfl ?_
      refine v_if_eq (pc' := 47) (tgt := 78) X dX9_known_44 (by decide) rfl (fun hc_44 => absurd hc_44 (by decide)) (fun _ => ?_)
      refine v_iload_n (pc' := 48) (i := 2) (j := 3) X dX9_known_47 rfl rfl rfl ?_
      refine v_if_eq (pc' := 51) (tgt := 75) X dX9_known_48 (by decide) rfl (fun hc_48 => absurd hc_48 (by decide)) (fun _ => ?_)
      refine v_iload_n (pc' := 52) (i := 2) (j := 3) X dX9_known_51 rfl rfl rfl ?_
      refine v_bipush (pc' := 54) (v := 18) X dX9_known_52 (by decide) rfl ?_
      refine v_icmp_eq (pc' := 57) (tgt := 75) X dX9_known_54 (by decide) rfl (fun hc_54 => absurd hc_54 (by decide)) (fun _ => ?_)
      refine v_iload_n (pc' := 58) (i := 2) (j := 3) X dX9_known_57 rfl rfl rfl ?_
      refine v_bipush (pc' := 60) (v := 25) X dX9_known_58 (by decide) rfl ?_
      refine v_icmp_eq (pc' := 63) (tgt := 75) X dX9_known_60 (by decide) rfl (fun hc_60 => absurd hc_60 (by decide)) (fun _ => ?_)
      refine v_iload_n (pc' := 64) (i := 2) (j := 3) X dX9_known_63 rfl rfl rfl ?_
      refine v_bipush (pc' := 66) (v := 26) X dX9_known_64 (by decide) rfl ?_
      refine v_icmp_eq (pc' := 69) (tgt := 75) X dX9_known_66 (by decide) rfl (fun hc_66 => absurd hc_66 (by decide)) (fun _ => ?_)
      refine v_iload_n (pc' := 70) (i := 2) (j := 3) X dX9_known_69 rfl rfl rfl ?_
      refine v_bipush (pc' := 72) (v := 27) X dX9_known_70 (by decide) rfl ?_
      refine v_icmp_ne (pc' := 75) (tgt := 78) X dX9_known_72 (by decide) rfl (fun _ => ?_) (fun hc_72 => absurd hc_72 (by decide))
      refine v_iload (pc' := 80) (j := 0) X dX9_known_78 rfl rfl ?_
      refine v_if_ne (pc' := 83) (tgt := 116) X dX9_known_80 (by decide) rfl (fun _ => ?_) (fun hc_80 => absurd hc_80 (by decide))
      refine v_iload_n (pc' := 117) (i := 2) (j := 3) X dX9_known_116 rfl rfl rfl ?_
      refine v_bipush (pc' := 119) (v := 15) X dX9_known_117 (by decide) rfl ?_
      refine v_icmp_le (pc' := 122) (tgt := 128) X dX9_known_119 (by decide) rfl (fun hc_119 => absurd hc_119 (by decide)) (fun _ => ?_)
      refine v_iload_n (pc' := 123) (i := 2) (j := 3) X dX9_known_122 rfl rfl rfl ?_
      refine v_bipush (pc' := 125) (v := 29) X dX9_known_123 (by decide) rfl ?_
      refine v_icmp_ne (pc' := 128) (tgt := 140) X dX9_known_125 (by decide) rfl (fun _ => ?_) (fun hc_125 => absurd hc_125 (by decide))
      refine v_iload_n (pc' := 141) (i := 2) (j := 3) X dX9_known_140 rfl rfl rfl ?_
      refine v_bipush (pc' := 143) (v := 24) X dX9_known_141 (by decide) rfl ?_
      refine v_icmp_gt (pc' := 146) (tgt := 156) X dX9_known_143 (by decide) rfl (fun hc_143 => absurd hc_143 (by decide)) (fun _ => ?_)
      refine v_aload_n (pc' := 147) (i := 0) (j := 1) X dX9_known_146 rfl rfl rfl ?_
      refine v_aload_n (pc' := 148) (i := 1) (j := 2) X dX9_known_147 rfl rfl rfl ?_
      refine v_iload_n (pc' := 149) (i := 2) (j := 3) X dX9_known_148 rfl rfl rfl ?_
      refine v_iload_n (pc' := 150) (i := 3) (j := 4) X dX9_known_149 rfl rfl rfl ?_
      refine v_iload (pc' := 152) (j := 5) X dX9_known_150 rfl rfl ?_
      refine v_callV (pc' := 155) X (st := []) (c_X9_guarded_22 (M := M) hi hg hts hI (x := x) (y := y)) k_X9_guarded w_ml_X9_94 w_im_X9_guarded w_se_X9_X9_guarded (rv_M) (by rw [hR]; exact ⟨Nat.le_of_ble_eq_true rfl, Nat.le_of_ble_eq_true rfl⟩) rfl rfl (Nat.le_of_ble_eq_true rfl) dX9_known_152 rfl (⟨Nat.zero_le _, Nat.zero_le _⟩) ?_
      rintro _ _ ⟨rfl, rfl⟩
      refine v_ireturn X R (Nat.zero_le _) (Nat.zero_le _) dX9_known_155 ?_
      have hF : fKnown M n (tb i) 22 x y z = ((fGuard M n (tb i) 22 x y).1, (fGuard M n (tb i) 22 x y).2) := by
        unfold fKnown
        rw [if_neg hc_23, if_pos hin]
        rw [if_neg (by decide)]
        unfold fRest
        rw [if_neg (by decide), if_pos (by decide)]
      rw [hF]
      exact ⟨rfl, rfl⟩
    · have hnin : ¬ fIn M (tb i) := fun z9 => by obtain ⟨q9, y9, y8⟩ := z9; rw [h4, nn_nI (by omega)] at y9; exact hno q9 y9 y8
      refine v_if_lt (pc' := 35) (tgt := 39) X dX9_known_32 (by decide) rfl (fun _ => ?_) (fun hc_32 => absurd (by decide) hc_32)
      refine v_iconst (pc' := 40) (v := 0) X dX9_known_39 (by decide) rfl ?_
      refine v_istore (pc' := 42) (lv' := [(6, .int 0), (0, .ref (ad (0))), (1, .ref (ad (tb i))), (2, .int 22), (3, .int x), (4, .int y), (5, .int z)]) X dX9_known_40 (by decide) rfl rfl ?_
      refine v_iload (pc' := 44) (j := 0) X dX9_known_42 rfl rfl ?_
      refine v_if_eq (pc' := 47) (tgt := 78) X dX9_known_44 (by decide) rfl (fun _ => ?_) (fun hc_44 => absurd (by decide) hc_44)
      refine v_iload (pc' := 80) (j := 0) X dX9_known_78 rfl rfl ?_
      refine v_if_ne (pc' := 83) (tgt := 116) X dX9_known_80 (by decide) rfl (fun hc_80 => absurd (by decide) hc_80) (fun _ => ?_)
      refine v_iload_n (pc' := 84) (i := 2) (j := 3) X dX9_known_83 rfl rfl rfl ?_
      refine v_bipush (pc' := 86) (v := 16) X dX9_known_84 (by decide) rfl ?_
      refine v_icmp_eq (pc' := 89) (tgt := 113) X dX9_known_86 (by decide) rfl (fun hc_86 => absurd hc_86 (by decide)) (fun _ => ?_)
      refine v_iload_n (pc' := 90) (i := 2) (j := 3) X dX9_known_89 rfl rfl rfl ?_
      refine v_bipush (pc' := 92) (v := 17) X dX9_known_90 (by decide) rfl ?_
      refine v_icmp_eq (pc' := 95) (tgt := 113) X dX9_known_92 (by decide) rfl (fun hc_92 => absurd hc_92 (by decide)) (fun _ => ?_)
      refine v_iload_n (pc' := 96) (i := 2) (j := 3) X dX9_known_95 rfl rfl rfl ?_
      refine v_bipush (pc' := 98) (v := 19) X dX9_known_96 (by decide) rfl ?_
      refine v_icmp_eq (pc' := 101) (tgt := 113) X dX9_known_98 (by decide) rfl (fun hc_98 => absurd hc_98 (by decide)) (fun _ => ?_)
      refine v_iload_n (pc' := 102) (i := 2) (j := 3) X dX9_known_101 rfl rfl rfl ?_
      refine v_bipush (pc' := 104) (v := 20) X dX9_known_102 (by decide) rfl ?_
      refine v_icmp_eq (pc' := 107) (tgt := 113) X dX9_known_104 (by decide) rfl (fun hc_104 => absurd hc_104 (by decide)) (fun _ => ?_)
      refine v_iload_n (pc' := 108) (i := 2) (j := 3) X dX9_known_107 rfl rfl rfl ?_
      refine v_bipush (pc' := 110) (v := 23) X dX9_known_108 (by decide) rfl ?_
      refine v_icmp_ne (pc' := 113) (tgt := 116) X dX9_known_110 (by decide) rfl (fun _ => ?_) (fun hc_110 => absurd hc_110 (by decide))
      refine v_iload_n (pc' := 117) (i := 2) (j := 3) X dX9_known_116 rfl rfl rfl ?_
      refine v_bipush (pc' := 119) (v := 15) X dX9_known_117 (by decide) rfl ?_
      refine v_icmp_le (pc' := 122) (tgt := 128) X dX9_known_119 (by decide) rfl (fun hc_119 => absurd hc_119 (by decide)) (fun _ => ?_)
      refine v_iload_n (pc' := 123) (i := 2) (j := 3) X dX9_known_122 rfl rfl rfl ?_
      refine v_bipush (pc' := 125) (v := 29) X dX9_known_123 (by decide) rfl ?_
      refine v_icmp_ne (pc' := 128) (tgt := 140) X dX9_known_125 (by decide) rfl (fun _ => ?_) (fun hc_125 => absurd hc_125 (by decide))
      refine v_iload_n (pc' := 141) (i := 2) (j := 3) X dX9_known_140 rfl rfl rfl ?_
      refine v_bipush (pc' := 143) (v := 24) X dX9_known_141 (by decide) rfl ?_
      refine v_icmp_gt (pc' := 146) (tgt := 156) X dX9_known_143 (by decide) rfl (fun hc_143 => absurd hc_143 (by decide)) (fun _ => ?_)
      refine v_aload_n (pc' := 147) (i := 0) (j := 1) X dX9_known_146 rfl rfl rfl ?_
      refine v_aload_n (pc' := 148) (i := 1) (j := 2) X dX9_known_147 rfl rfl rfl ?_
      refine v_iload_n (pc' := 149) (i := 2) (j := 3) X dX9_known_148 rfl rfl rfl ?_
      refine v_iload_n (pc' := 150) (i := 3) (j := 4) X dX9_known_149 rfl rfl rfl ?_
      refine v_iload (pc' := 152) (j := 5) X dX9_known_150 rfl rfl ?_
      refine v_callV (pc' := 155) X (st := []) (c_X9_guarded_22 (M := M) hi hg hts hI (x := x) (y := y)) k_X9_guarded w_ml_X9_94 w_im_X9_guarded w_se_X9_X9_guarded (rv_M) (by rw [hR]; exact ⟨Nat.le_of_ble_eq_true rfl, Nat.le_of_ble_eq_true rfl⟩) rfl rfl (Nat.le_of_ble_eq_true rfl) dX9_known_152 rfl (⟨Nat.zero_le _, Nat.zero_le _⟩) ?_
      rintro _ _ ⟨rfl, rfl⟩
      refine v_ireturn X R (Nat.zero_le _) (Nat.zero_le _) dX9_known_155 ?_
      have hF : fKnown M n (tb i) 22 x y z = ((fGuard M n (tb i) 22 x y).1, (fGuard M n (tb i) 22 x y).2) := by
        unfold fKnown
        rw [if_neg hc_23, if_neg hnin]
        rw [if_neg (by decide)]
        unfold fRest
        rw [if_neg (by decide), if_pos (by decide)]
      rw [hF]
      exact ⟨rfl, rfl⟩
  -- not taken 23
  · refine v_iconst (pc' := 27) (v := (-1)) X dX9_known_26 (by decide) rfl ?_
    refine v_ireturn X R (Nat.zero_le _) (Nat.zero_le _) dX9_known_27 ?_
    have hF : fKnown M n (tb i) 22 x y z = (M, (-1)) := by
      unfold fKnown
      exact if_pos hc_23
    rw [hF]
    exact ⟨rfl, rfl⟩
set_option maxHeartbeats 4000000 in
set_option maxRecDepth 100000 in
theorem c_X9_known_23 {l : Launch} {D : va_G} {Y : Nat → ClassId} {zz : Nat → Nat} {n sz us pd : Nat} {ad : Nat → Nat} {M : vM} {i ca e r w : Nat} (hi : i < n) (hg : gI M n sz us pd) (hts : ∀ i, i < n → ∃ ca e r w, tI M us (tb i) ca e r w) (hI : tI M us (tb i) ca e r w) (hst1 : M.1 (tb i) 0 = 1) {x y z : Int32} : Ct l D Y zz yX9_known cX9_known 7 (some FieldType.int) 5 111 [.ref (ad (0)), .ref (ad (tb i)), .int 23, .int x, .int y, .int z] (wM Y n ad M) 0 0 (fun r w => r = some (.int (fKnown M n (tb i) 23 x y z).2) ∧ w = wM Y n ad (fKnown M n (tb i) 23 x y z).1) := by
  refine v_entry (by decide +kernel) (Nat.le_of_ble_eq_true rfl) ?_
  intro K X R hR hnm hl hD hY hz
  subst hl hD hY hz
  refine v_sub (lv' := [(0, .ref (ad (0))), (1, .ref (ad (tb i))), (2, .int 23), (3, .int x), (4, .int y), (5, .int z)]) [0, 1, 2, 3, 4, 5] rfl ?_
  obtain ⟨hsz, hsz2, hn2, hn1, hn16, hus, hus2, hpd, hpd2, h17, hfs, hvi, hgl⟩ := id hg
  obtain ⟨h3, hca, h4, he, h5, hr, h6, hw, hso, huq, hct, hctm, hwt, hwtm, hwt0, hpk, hst, hem, hov, hrg, hsv, hrd, hwr, hva⟩ := id hI
  refine v_iload_n (pc' := 1) (i := 2) (j := 2) X dX9_known_0 rfl rfl rfl ?_
  refine v_if_lt (pc' := 4) (tgt := 10) X dX9_known_1 (by decide) rfl (fun hc_1 => absurd hc_1 (by decide)) (fun _ => ?_)
  refine v_iload_n (pc' := 5) (i := 2) (j := 2) X dX9_known_4 rfl rfl rfl ?_
  refine v_bipush (pc' := 7) (v := 29) X dX9_known_5 (by decide) rfl ?_
  refine v_icmp_le (pc' := 10) (tgt := 12) X dX9_known_7 (by decide) rfl (fun _ => ?_) (fun hc_7 => absurd (by decide) hc_7)
  refine v_aload_n (pc' := 13) (i := 0) (j := 0) X dX9_known_12 rfl rfl rfl ?_
  refine v_aload_n (pc' := 14) (i := 1) (j := 1) X dX9_known_13 rfl rfl rfl ?_
  refine v_iload_n (pc' := 15) (i := 2) (j := 2) X dX9_known_14 rfl rfl rfl ?_
  refine v_iload_n (pc' := 16) (i := 3) (j := 3) X dX9_known_15 rfl rfl rfl ?_
  refine v_iload (pc' := 18) (j := 4) X dX9_known_16 rfl rfl ?_
  refine v_iload (pc' := 20) (j := 5) X dX9_known_18 rfl rfl ?_
  refine v_callV (pc' := 23) X (st := []) (c_X9_wrong_23 (M := M) hi (x := x) (y := y) (z := z)) k_X9_wrong w_ml_X9_83 w_im_X9_wrong w_se_X9_X9_wrong (rv_M) (by rw [hR]; exact ⟨Nat.le_of_ble_eq_true rfl, Nat.le_of_ble_eq_true rfl⟩) rfl rfl (Nat.le_of_ble_eq_true rfl) dX9_known_20 rfl (⟨Nat.zero_le _, Nat.zero_le _⟩) ?_
  rintro _ _ ⟨rfl, rfl⟩
  refine v_ifB_eq (pc' := 26) (tgt := 28) X dX9_known_23 (by decide) rfl (fun hc_23 => ?_) (fun hc_23 => ?_)
  -- taken 23
  · refine v_aload_n (pc' := 29) (i := 1) (j := 1) X dX9_known_28 rfl rfl rfl ?_
    refine v_callV (pc' := 32) X (st := []) (c_X8_atomic (M := M) hi (e := e) h4 he) k_X8_atomic w_ml_X9_87 w_im_X8_atomic w_se_X8_X8_atomic (rv_T hi) (by rw [hR]; exact ⟨Nat.le_of_ble_eq_true rfl, Nat.le_of_ble_eq_true rfl⟩) rfl rfl (Nat.le_of_ble_eq_true rfl) dX9_known_29 rfl (⟨Nat.zero_le _, Nat.zero_le _⟩) ?_
    rintro _ _ ⟨rfl, x9, rfl, hx9⟩
    rcases hx9 with ⟨k0, hk0, h0, hf0, rfl⟩ | ⟨hno, rfl⟩
    · have hin : fIn M (tb i) := ⟨k0, by rw [h4, nn_nI (by omega)]; exact hk0, h0⟩
      refine v_if_lt (pc' := 35) (tgt := 39) X dX9_known_32 (by decide) rfl (fun hc_32 => absurd hc_32 (nI_pos (by omega))) (fun _ => ?_)
      refine v_iconst (pc' := 36) (v := 1) X dX9_known_35 (by decide) rfl ?_
      refine v_goto (pc' := 40) X dX9_known_36 (by decide) ?_
      refine v_istore (pc' := 42) (lv' := [(6, .int 1), (0, .ref (ad (0))), (1, .ref (ad (tb i))), (2, .int 23), (3, .int x), (4, .int y), (5, .int z)]) X dX9_known_40 (by decide) rfl rfl ?_
      refine v_iload (pc' := 44) (j := 0) X dX9_known_42 rfl rfl ?_
      refine v_if_eq (pc' := 47) (tgt := 78) X dX9_known_44 (by decide) rfl (fun hc_44 => absurd hc_44 (by decide)) (fun _ => ?_)
      refine v_iload_n (pc' := 48) (i := 2) (j := 3) X dX9_known_47 rfl rfl rfl ?_
      refine v_if_eq (pc' := 51) (tgt := 75) X dX9_known_48 (by decide) rfl (fun hc_48 => absurd hc_48 (by decide)) (fun _ => ?_)
      refine v_iload_n (pc' := 52) (i := 2) (j := 3) X dX9_known_51 rfl rfl rfl ?_
      refine v_bipush (pc' := 54) (v := 18) X dX9_known_52 (by decide) rfl ?_
      refine v_icmp_eq (pc' := 57) (tgt := 75) X dX9_known_54 (by decide) rfl (fun hc_54 => absurd hc_54 (by decide)) (fun _ => ?_)
      refine v_iload_n (pc' := 58) (i := 2) (j := 3) X dX9_known_57 rfl rfl rfl ?_
      refine v_bipush (pc' := 60) (v := 25) X dX9_known_58 (by decide) rfl ?_
      refine v_icmp_eq (pc' := 63) (tgt := 75) X dX9_known_60 (by decide) rfl (fun hc_60 => absurd hc_60 (by decide)) (fun _ => ?_)
      refine v_iload_n (pc' := 64) (i := 2) (j := 3) X dX9_known_63 rfl rfl rfl ?_
      refine v_bipush (pc' := 66) (v := 26) X dX9_known_64 (by decide) rfl ?_
      refine v_icmp_eq (pc' := 69) (tgt := 75) X dX9_known_66 (by decide) rfl (fun hc_66 => absurd hc_66 (by decide)) (fun _ => ?_)
      refine v_iload_n (pc' := 70) (i := 2) (j := 3) X dX9_known_69 rfl rfl rfl ?_
      refine v_bipush (pc' := 72) (v := 27) X dX9_known_70 (by decide) rfl ?_
      refine v_icmp_ne (pc' := 75) (tgt := 78) X dX9_known_72 (by decide) rfl (fun _ => ?_) (fun hc_72 => absurd hc_72 (by decide))
      refine v_iload (pc' := 80) (j := 0) X dX9_known_78 rfl rfl ?_
      refine v_if_ne (pc' := 83) (tgt := 116) X dX9_known_80 (by decide) rfl (fun _ => ?_) (fun hc_80 => absurd hc_80 (by decide))
      refine v_iload_n (pc' := 117) (i := 2) (j := 3) X dX9_known_116 rfl rfl rfl ?_
      refine v_bipush (pc' := 119) (v := 15) X dX9_known_117 (by decide) rfl ?_
      refine v_icmp_le (pc' := 122) (tgt := 128) X dX9_known_119 (by decide) rfl (fun hc_119 => absurd hc_119 (by decide)) (fun _ => ?_)
      refine v_iload_n (pc' := 123) (i := 2) (j := 3) X dX9_known_122 rfl rfl rfl ?_
      refine v_bipush (pc' := 125) (v := 29) X dX9_known_123 (by decide) rfl ?_
      refine v_icmp_ne (pc' := 128) (tgt := 140) X dX9_known_125 (by decide) rfl (fun _ => ?_) (fun hc_125 => absurd hc_125 (by decide))
      refine v_iload_n (pc' := 141) (i := 2) (j := 3) X dX9_known_140 rfl rfl rfl ?_
      refine v_bipush (pc' := 143) (v := 24) X dX9_known_141 (by decide) rfl ?_
      refine v_icmp_gt (pc' := 146) (tgt := 156) X dX9_known_143 (by decide) rfl (fun hc_143 => absurd hc_143 (by decide)) (fun _ => ?_)
      refine v_aload_n (pc' := 147) (i := 0) (j := 1) X dX9_known_146 rfl rfl rfl ?_
      refine v_aload_n (pc' := 148) (i := 1) (j := 2) X dX9_known_147 rfl rfl rfl ?_
      refine v_iload_n (pc' := 149) (i := 2) (j := 3) X dX9_known_148 rfl rfl rfl ?_
      refine v_iload_n (pc' := 150) (i := 3) (j := 4) X dX9_known_149 rfl rfl rfl ?_
      refine v_iload (pc' := 152) (j := 5) X dX9_known_150 rfl rfl ?_
      refine v_callV (pc' := 155) X (st := []) (c_X9_guarded_23 (M := M) hi hg hts hI (x := x) (y := y) hk0 h0) k_X9_guarded w_ml_X9_94 w_im_X9_guarded w_se_X9_X9_guarded (rv_M) (by rw [hR]; exact ⟨Nat.le_of_ble_eq_true rfl, Nat.le_of_ble_eq_true rfl⟩) rfl rfl (Nat.le_of_ble_eq_true rfl) dX9_known_152 rfl (⟨Nat.zero_le _, Nat.zero_le _⟩) ?_
      rintro _ _ ⟨rfl, rfl⟩
      refine v_ireturn X R (Nat.zero_le _) (Nat.zero_le _) dX9_known_155 ?_
      have hF : fKnown M n (tb i) 23 x y z = ((fGuard M n (tb i) 23 x y).1, (fGuard M n (tb i) 23 x y).2) := by
        unfold fKnown
        rw [if_neg hc_23, if_pos hin]
        rw [if_neg (by decide)]
        unfold fRest
        rw [if_neg (by decide), if_pos (by decide)]
      rw [hF]
      exact ⟨rfl, rfl⟩
    · have hnin : ¬ fIn M (tb i) := fun z9 => by obtain ⟨q9, y9, y8⟩ := z9; rw [h4, nn_nI (by omega)] at y9; exact hno q9 y9 y8
      refine v_if_lt (pc' := 35) (tgt := 39) X dX9_known_32 (by decide) rfl (fun _ => ?_) (fun hc_32 => absurd (by decide) hc_32)
      refine v_iconst (pc' := 40) (v := 0) X dX9_known_39 (by decide) rfl ?_
      refine v_istore (pc' := 42) (lv' := [(6, .int 0), (0, .ref (ad (0))), (1, .ref (ad (tb i))), (2, .int 23), (3, .int x), (4, .int y), (5, .int z)]) X dX9_known_40 (by decide) rfl rfl ?_
      refine v_iload (pc' := 44) (j := 0) X dX9_known_42 rfl rfl ?_
      refine v_if_eq (pc' := 47) (tgt := 78) X dX9_known_44 (by decide) rfl (fun _ => ?_) (fun hc_44 => absurd (by decide) hc_44)
      refine v_iload (pc' := 80) (j := 0) X dX9_known_78 rfl rfl ?_
      refine v_if_ne (pc' := 83) (tgt := 116) X dX9_known_80 (by decide) rfl (fun hc_80 => absurd (by decide) hc_80) (fun _ => ?_)
      refine v_iload_n (pc' := 84) (i := 2) (j := 3) X dX9_known_83 rfl rfl rfl ?_
      refine v_bipush (pc' := 86) (v := 16) X dX9_known_84 (by decide) rfl ?_
      refine v_icmp_eq (pc' := 89) (tgt := 113) X dX9_known_86 (by decide) rfl (fun hc_86 => absurd hc_86 (by decide)) (fun _ => ?_)
      refine v_iload_n (pc' := 90) (i := 2) (j := 3) X dX9_known_89 rfl rfl rfl ?_
      refine v_bipush (pc' := 92) (v := 17) X dX9_known_90 (by decide) rfl ?_
      refine v_icmp_eq (pc' := 95) (tgt := 113) X dX9_known_92 (by decide) rfl (fun hc_92 => absurd hc_92 (by decide)) (fun _ => ?_)
      refine v_iload_n (pc' := 96) (i := 2) (j := 3) X dX9_known_95 rfl rfl rfl ?_
      refine v_bipush (pc' := 98) (v := 19) X dX9_known_96 (by decide) rfl ?_
      refine v_icmp_eq (pc' := 101) (tgt := 113) X dX9_known_98 (by decide) rfl (fun hc_98 => absurd hc_98 (by decide)) (fun _ => ?_)
      refine v_iload_n (pc' := 102) (i := 2) (j := 3) X dX9_known_101 rfl rfl rfl ?_
      refine v_bipush (pc' := 104) (v := 20) X dX9_known_102 (by decide) rfl ?_
      refine v_icmp_eq (pc' := 107) (tgt := 113) X dX9_known_104 (by decide) rfl (fun hc_104 => absurd hc_104 (by decide)) (fun _ => ?_)
      refine v_iload_n (pc' := 108) (i := 2) (j := 3) X dX9_known_107 rfl rfl rfl ?_
      refine v_bipush (pc' := 110) (v := 23) X dX9_known_108 (by decide) rfl ?_
      refine v_icmp_ne (pc' := 113) (tgt := 116) X dX9_known_110 (by decide) rfl (fun hc_110 => absurd (by decide) hc_110) (fun _ => ?_)
      refine v_bipush (pc' := 115) (v := (-4)) X dX9_known_113 (by decide) rfl ?_
      refine v_ireturn X R (Nat.zero_le _) (Nat.zero_le _) dX9_known_115 ?_
      have hF : fKnown M n (tb i) 23 x y z = (M, (-4)) := by
        unfold fKnown
        rw [if_neg hc_23, if_neg hnin]
        exact if_pos (by decide)
      rw [hF]
      exact ⟨rfl, rfl⟩
  -- not taken 23
  · refine v_iconst (pc' := 27) (v := (-1)) X dX9_known_26 (by decide) rfl ?_
    refine v_ireturn X R (Nat.zero_le _) (Nat.zero_le _) dX9_known_27 ?_
    have hF : fKnown M n (tb i) 23 x y z = (M, (-1)) := by
      unfold fKnown
      exact if_pos hc_23
    rw [hF]
    exact ⟨rfl, rfl⟩
set_option maxHeartbeats 4000000 in
set_option maxRecDepth 100000 in
theorem c_X9_known_24 {l : Launch} {D : va_G} {Y : Nat → ClassId} {zz : Nat → Nat} {n sz us pd : Nat} {ad : Nat → Nat} {M : vM} {i ca e r w : Nat} (hi : i < n) (hg : gI M n sz us pd) (hts : ∀ i, i < n → ∃ ca e r w, tI M us (tb i) ca e r w) (hI : tI M us (tb i) ca e r w) (hst1 : M.1 (tb i) 0 = 1) {x y z : Int32} : Ct l D Y zz yX9_known cX9_known 7 (some FieldType.int) 5 112 [.ref (ad (0)), .ref (ad (tb i)), .int 24, .int x, .int y, .int z] (wM Y n ad M) 0 0 (fun r w => r = some (.int (fKnown M n (tb i) 24 x y z).2) ∧ w = wM Y n ad (fKnown M n (tb i) 24 x y z).1) := by
  refine v_entry (by decide +kernel) (Nat.le_of_ble_eq_true rfl) ?_
  intro K X R hR hnm hl hD hY hz
  subst hl hD hY hz
  refine v_sub (lv' := [(0, .ref (ad (0))), (1, .ref (ad (tb i))), (2, .int 24), (3, .int x), (4, .int y), (5, .int z)]) [0, 1, 2, 3, 4, 5] rfl ?_
  obtain ⟨hsz, hsz2, hn2, hn1, hn16, hus, hus2, hpd, hpd2, h17, hfs, hvi, hgl⟩ := id hg
  obtain ⟨h3, hca, h4, he, h5, hr, h6, hw, hso, huq, hct, hctm, hwt, hwtm, hwt0, hpk, hst, hem, hov, hrg, hsv, hrd, hwr, hva⟩ := id hI
  refine v_iload_n (pc' := 1) (i := 2) (j := 2) X dX9_known_0 rfl rfl rfl ?_
  refine v_if_lt (pc' := 4) (tgt := 10) X dX9_known_1 (by decide) rfl (fun hc_1 => absurd hc_1 (by decide)) (fun _ => ?_)
  refine v_iload_n (pc' := 5) (i := 2) (j := 2) X dX9_known_4 rfl rfl rfl ?_
  refine v_bipush (pc' := 7) (v := 29) X dX9_known_5 (by decide) rfl ?_
  refine v_icmp_le (pc' := 10) (tgt := 12) X dX9_known_7 (by decide) rfl (fun _ => ?_) (fun hc_7 => absurd (by decide) hc_7)
  refine v_aload_n (pc' := 13) (i := 0) (j := 0) X dX9_known_12 rfl rfl rfl ?_
  refine v_aload_n (pc' := 14) (i := 1) (j := 1) X dX9_known_13 rfl rfl rfl ?_
  refine v_iload_n (pc' := 15) (i := 2) (j := 2) X dX9_known_14 rfl rfl rfl ?_
  refine v_iload_n (pc' := 16) (i := 3) (j := 3) X dX9_known_15 rfl rfl rfl ?_
  refine v_iload (pc' := 18) (j := 4) X dX9_known_16 rfl rfl ?_
  refine v_iload (pc' := 20) (j := 5) X dX9_known_18 rfl rfl ?_
  refine v_callV (pc' := 23) X (st := []) (c_X9_wrong_24 (M := M) hi (x := x) (y := y) (z := z)) k_X9_wrong w_ml_X9_83 w_im_X9_wrong w_se_X9_X9_wrong (rv_M) (by rw [hR]; exact ⟨Nat.le_of_ble_eq_true rfl, Nat.le_of_ble_eq_true rfl⟩) rfl rfl (Nat.le_of_ble_eq_true rfl) dX9_known_20 rfl (⟨Nat.zero_le _, Nat.zero_le _⟩) ?_
  rintro _ _ ⟨rfl, rfl⟩
  refine v_ifB_eq (pc' := 26) (tgt := 28) X dX9_known_23 (by decide) rfl (fun hc_23 => ?_) (fun hc_23 => ?_)
  -- taken 23
  · refine v_aload_n (pc' := 29) (i := 1) (j := 1) X dX9_known_28 rfl rfl rfl ?_
    refine v_callV (pc' := 32) X (st := []) (c_X8_atomic (M := M) hi (e := e) h4 he) k_X8_atomic w_ml_X9_87 w_im_X8_atomic w_se_X8_X8_atomic (rv_T hi) (by rw [hR]; exact ⟨Nat.le_of_ble_eq_true rfl, Nat.le_of_ble_eq_true rfl⟩) rfl rfl (Nat.le_of_ble_eq_true rfl) dX9_known_29 rfl (⟨Nat.zero_le _, Nat.zero_le _⟩) ?_
    rintro _ _ ⟨rfl, x9, rfl, hx9⟩
    rcases hx9 with ⟨k0, hk0, h0, hf0, rfl⟩ | ⟨hno, rfl⟩
    · have hin : fIn M (tb i) := ⟨k0, by rw [h4, nn_nI (by omega)]; exact hk0, h0⟩
      refine v_if_lt (pc' := 35) (tgt := 39) X dX9_known_32 (by decide) rfl (fun hc_32 => absurd hc_32 (nI_pos (by omega))) (fun _ => ?_)
      refine v_iconst (pc' := 36) (v := 1) X dX9_known_35 (by decide) rfl ?_
      refine v_goto (pc' := 40) X dX9_known_36 (by decide) ?_
      refine v_istore (pc' := 42) (lv' := [(6, .int 1), (0, .ref (ad (0))), (1, .ref (ad (tb i))), (2, .int 24), (3, .int x), (4, .int y), (5, .int z)]) X dX9_known_40 (by decide) rfl rfl ?_
      refine v_iload (pc' := 44) (j := 0) X dX9_known_42 rfl rfl ?_
      refine v_if_eq (pc' := 47) (tgt := 78) X dX9_known_44 (by decide) rfl (fun hc_44 => absurd hc_44 (by decide)) (fun _ => ?_)
      refine v_iload_n (pc' := 48) (i := 2) (j := 3) X dX9_known_47 rfl rfl rfl ?_
      refine v_if_eq (pc' := 51) (tgt := 75) X dX9_known_48 (by decide) rfl (fun hc_48 => absurd hc_48 (by decide)) (fun _ => ?_)
      refine v_iload_n (pc' := 52) (i := 2) (j := 3) X dX9_known_51 rfl rfl rfl ?_
      refine v_bipush (pc' := 54) (v := 18) X dX9_known_52 (by decide) rfl ?_
      refine v_icmp_eq (pc' := 57) (tgt := 75) X dX9_known_54 (by decide) rfl (fun hc_54 => absurd hc_54 (by decide)) (fun _ => ?_)
      refine v_iload_n (pc' := 58) (i := 2) (j := 3) X dX9_known_57 rfl rfl rfl ?_
      refine v_bipush (pc' := 60) (v := 25) X dX9_known_58 (by decide) rfl ?_
      refine v_icmp_eq (pc' := 63) (tgt := 75) X dX9_known_60 (by decide) rfl (fun hc_60 => absurd hc_60 (by decide)) (fun _ => ?_)
      refine v_iload_n (pc' := 64) (i := 2) (j := 3) X dX9_known_63 rfl rfl rfl ?_
      refine v_bipush (pc' := 66) (v := 26) X dX9_known_64 (by decide) rfl ?_
      refine v_icmp_eq (pc' := 69) (tgt := 75) X dX9_known_66 (by decide) rfl (fun hc_66 => absurd hc_66 (by decide)) (fun _ => ?_)
      refine v_iload_n (pc' := 70) (i := 2) (j := 3) X dX9_known_69 rfl rfl rfl ?_
      refine v_bipush (pc' := 72) (v := 27) X dX9_known_70 (by decide) rfl ?_
      refine v_icmp_ne (pc' := 75) (tgt := 78) X dX9_known_72 (by decide) rfl (fun _ => ?_) (fun hc_72 => absurd hc_72 (by decide))
      refine v_iload (pc' := 80) (j := 0) X dX9_known_78 rfl rfl ?_
      refine v_if_ne (pc' := 83) (tgt := 116) X dX9_known_80 (by decide) rfl (fun _ => ?_) (fun hc_80 => absurd hc_80 (by decide))
      refine v_iload_n (pc' := 117) (i := 2) (j := 3) X dX9_known_116 rfl rfl rfl ?_
      refine v_bipush (pc' := 119) (v := 15) X dX9_known_117 (by decide) rfl ?_
      refine v_icmp_le (pc' := 122) (tgt := 128) X dX9_known_119 (by decide) rfl (fun hc_119 => absurd hc_119 (by decide)) (fun _ => ?_)
      refine v_iload_n (pc' := 123) (i := 2) (j := 3) X dX9_known_122 rfl rfl rfl ?_
      refine v_bipush (pc' := 125) (v := 29) X dX9_known_123 (by decide) rfl ?_
      refine v_icmp_ne (pc' := 128) (tgt := 140) X dX9_known_125 (by decide) rfl (fun _ => ?_) (fun hc_125 => absurd hc_125 (by decide))
      refine v_iload_n (pc' := 141) (i := 2) (j := 3) X dX9_known_140 rfl rfl rfl ?_
      refine v_bipush (pc' := 143) (v := 24) X dX9_known_141 (by decide) rfl ?_
      refine v_icmp_gt (pc' := 146) (tgt := 156) X dX9_known_143 (by decide) rfl (fun hc_143 => absurd hc_143 (by decide)) (fun _ => ?_)
      refine v_aload_n (pc' := 147) (i := 0) (j := 1) X dX9_known_146 rfl rfl rfl ?_
      refine v_aload_n (pc' := 148) (i := 1) (j := 2) X dX9_known_147 rfl rfl rfl ?_
      refine v_iload_n (pc' := 149) (i := 2) (j := 3) X dX9_known_148 rfl rfl rfl ?_
      refine v_iload_n (pc' := 150) (i := 3) (j := 4) X dX9_known_149 rfl rfl rfl ?_
      refine v_iload (pc' := 152) (j := 5) X dX9_known_150 rfl rfl ?_
      obtain ⟨hx1, hx2⟩ := nrg_not (fun z9 => hc_23 (Or.inl (z9)))
      refine v_callV (pc' := 155) X (st := []) (c_X9_guarded_24 (M := M) hi hg hts hI (x := x) (y := y) hx1 hx2) k_X9_guarded w_ml_X9_94 w_im_X9_guarded w_se_X9_X9_guarded (rv_M) (by rw [hR]; exact ⟨Nat.le_of_ble_eq_true rfl, Nat.le_of_ble_eq_true rfl⟩) rfl rfl (Nat.le_of_ble_eq_true rfl) dX9_known_152 rfl (⟨Nat.zero_le _, Nat.zero_le _⟩) ?_
      rintro _ _ ⟨rfl, rfl⟩
      refine v_ireturn X R (Nat.zero_le _) (Nat.zero_le _) dX9_known_155 ?_
      have hF : fKnown M n (tb i) 24 x y z = ((fGuard M n (tb i) 24 x y).1, (fGuard M n (tb i) 24 x y).2) := by
        unfold fKnown
        rw [if_neg hc_23, if_pos hin]
        rw [if_neg (by decide)]
        unfold fRest
        rw [if_neg (by decide), if_pos (by decide)]
      rw [hF]
      exact ⟨rfl, rfl⟩
    · have hnin : ¬ fIn M (tb i) := fun z9 => by obtain ⟨q9, y9, y8⟩ := z9; rw [h4, nn_nI (by omega)] at y9; exact hno q9 y9 y8
      refine v_if_lt (pc' := 35) (tgt := 39) X dX9_known_32 (by decide) rfl (fun _ => ?_) (fun hc_32 => absurd (by decide) hc_32)
      refine v_iconst (pc' := 40) (v := 0) X dX9_known_39 (by decide) rfl ?_
      refine v_istore (pc' := 42) (lv' := [(6, .int 0), (0, .ref (ad (0))), (1, .ref (ad (tb i))), (2, .int 24), (3, .int x), (4, .int y), (5, .int z)]) X dX9_known_40 (by decide) rfl rfl ?_
      refine v_iload (pc' := 44) (j := 0) X dX9_known_42 rfl rfl ?_
      refine v_if_eq (pc' := 47) (tgt := 78) X dX9_known_44 (by decide) rfl (fun _ => ?_) (fun hc_44 => absurd (by decide) hc_44)
      refine v_iload (pc' := 80) (j := 0) X dX9_known_78 rfl rfl ?_
      refine v_if_ne (pc' := 83) (tgt := 116) X dX9_known_80 (by decide) rfl (fun hc_80 => absurd (by decide) hc_80) (fun _ => ?_)
      refine v_iload_n (pc' := 84) (i := 2) (j := 3) X dX9_known_83 rfl rfl rfl ?_
      refine v_bipush (pc' := 86) (v := 16) X dX9_known_84 (by decide) rfl ?_
      refine v_icmp_eq (pc' := 89) (tgt := 113) X dX9_known_86 (by decide) rfl (fun hc_86 => absurd hc_86 (by decide)) (fun _ => ?_)
      refine v_iload_n (pc' := 90) (i := 2) (j := 3) X dX9_known_89 rfl rfl rfl ?_
      refine v_bipush (pc' := 92) (v := 17) X dX9_known_90 (by decide) rfl ?_
      refine v_icmp_eq (pc' := 95) (tgt := 113) X dX9_known_92 (by decide) rfl (fun hc_92 => absurd hc_92 (by decide)) (fun _ => ?_)
      refine v_iload_n (pc' := 96) (i := 2) (j := 3) X dX9_known_95 rfl rfl rfl ?_
      refine v_bipush (pc' := 98) (v := 19) X dX9_known_96 (by decide) rfl ?_
      refine v_icmp_eq (pc' := 101) (tgt := 113) X dX9_known_98 (by decide) rfl (fun hc_98 => absurd hc_98 (by decide)) (fun _ => ?_)
      refine v_iload_n (pc' := 102) (i := 2) (j := 3) X dX9_known_101 rfl rfl rfl ?_
      refine v_bipush (pc' := 104) (v := 20) X dX9_known_102 (by decide) rfl ?_
      refine v_icmp_eq (pc' := 107) (tgt := 113) X dX9_known_104 (by decide) rfl (fun hc_104 => absurd hc_104 (by decide)) (fun _ => ?_)
      refine v_iload_n (pc' := 108) (i := 2) (j := 3) X dX9_known_107 rfl rfl rfl ?_
      refine v_bipush (pc' := 110) (v := 23) X dX9_known_108 (by decide) rfl ?_
      refine v_icmp_ne (pc' := 113) (tgt := 116) X dX9_known_110 (by decide) rfl (fun _ => ?_) (fun hc_110 => absurd hc_110 (by decide))
      refine v_iload_n (pc' := 117) (i := 2) (j := 3) X dX9_known_116 rfl rfl rfl ?_
      refine v_bipush (pc' := 119) (v := 15) X dX9_known_117 (by decide) rfl ?_
      refine v_icmp_le (pc' := 122) (tgt := 128) X dX9_known_119 (by decide) rfl (fun hc_119 => absurd hc_119 (by decide)) (fun _ => ?_)
      refine v_iload_n (pc' := 123) (i := 2) (j := 3) X dX9_known_122 rfl rfl rfl ?_
      refine v_bipush (pc' := 125) (v := 29) X dX9_known_123 (by decide) rfl ?_
      refine v_icmp_ne (pc' := 128) (tgt := 140) X dX9_known_125 (by decide) rfl (fun _ => ?_) (fun hc_125 => absurd hc_125 (by decide))
      refine v_iload_n (pc' := 141) (i := 2) (j := 3) X dX9_known_140 rfl rfl rfl ?_
      refine v_bipush (pc' := 143) (v := 24) X dX9_known_141 (by decide) rfl ?_
      refine v_icmp_gt (pc' := 146) (tgt := 156) X dX9_known_143 (by decide) rfl (fun hc_143 => absurd hc_143 (by decide)) (fun _ => ?_)
      refine v_aload_n (pc' := 147) (i := 0) (j := 1) X dX9_known_146 rfl rfl rfl ?_
      refine v_aload_n (pc' := 148) (i := 1) (j := 2) X dX9_known_147 rfl rfl rfl ?_
      refine v_iload_n (pc' := 149) (i := 2) (j := 3) X dX9_known_148 rfl rfl rfl ?_
      refine v_iload_n (pc' := 150) (i := 3) (j := 4) X dX9_known_149 rfl rfl rfl ?_
      refine v_iload (pc' := 152) (j := 5) X dX9_known_150 rfl rfl ?_
      obtain ⟨hx1, hx2⟩ := nrg_not (fun z9 => hc_23 (Or.inl (z9)))
      refine v_callV (pc' := 155) X (st := []) (c_X9_guarded_24 (M := M) hi hg hts hI (x := x) (y := y) hx1 hx2) k_X9_guarded w_ml_X9_94 w_im_X9_guarded w_se_X9_X9_guarded (rv_M) (by rw [hR]; exact ⟨Nat.le_of_ble_eq_true rfl, Nat.le_of_ble_eq_true rfl⟩) rfl rfl (Nat.le_of_ble_eq_true rfl) dX9_known_152 rfl (⟨Nat.zero_le _, Nat.zero_le _⟩) ?_
      rintro _ _ ⟨rfl, rfl⟩
      refine v_ireturn X R (Nat.zero_le _) (Nat.zero_le _) dX9_known_155 ?_
      have hF : fKnown M n (tb i) 24 x y z = ((fGuard M n (tb i) 24 x y).1, (fGuard M n (tb i) 24 x y).2) := by
        unfold fKnown
        rw [if_neg hc_23, if_neg hnin]
        rw [if_neg (by decide)]
        unfold fRest
        rw [if_neg (by decide), if_pos (by decide)]
      rw [hF]
      exact ⟨rfl, rfl⟩
  -- not taken 23
  · refine v_iconst (pc' := 27) (v := (-1)) X dX9_known_26 (by decide) rfl ?_
    refine v_ireturn X R (Nat.zero_le _) (Nat.zero_le _) dX9_known_27 ?_
    have hF : fKnown M n (tb i) 24 x y z = (M, (-1)) := by
      unfold fKnown
      exact if_pos hc_23
    rw [hF]
    exact ⟨rfl, rfl⟩
set_option maxHeartbeats 4000000 in
set_option maxRecDepth 100000 in
theorem c_X9_known_25 {l : Launch} {D : va_G} {Y : Nat → ClassId} {zz : Nat → Nat} {n sz us pd : Nat} {ad : Nat → Nat} {M : vM} {i ca e r w : Nat} (hi : i < n) (hg : gI M n sz us pd) (hts : ∀ i, i < n → ∃ ca e r w, tI M us (tb i) ca e r w) (hI : tI M us (tb i) ca e r w) (hst1 : M.1 (tb i) 0 = 1) {x y z : Int32} : Ct l D Y zz yX9_known cX9_known 7 (some FieldType.int) 3 58 [.ref (ad (0)), .ref (ad (tb i)), .int 25, .int x, .int y, .int z] (wM Y n ad M) (11 * (nn ((fKnown M n (tb i) 25 x y z).1.1 0 2) - n)) (674 * (nn ((fKnown M n (tb i) 25 x y z).1.1 0 2) - n)) (fun r w => r = some (.int (fKnown M n (tb i) 25 x y z).2) ∧ ∃ (n9 : Nat) (ad9 : Nat → Nat), n9 = nn ((fKnown M n (tb i) 25 x y z).1.1 0 2) ∧ w = wM Y n9 ad9 (fKnown M n (tb i) 25 x y z).1 ∧ ∀ c, c < tb n → ad9 c = ad c) := by
  refine v_entry (by decide +kernel) (Nat.le_of_ble_eq_true rfl) ?_
  intro K X R hR hnm hl hD hY hz
  subst hl hD hY hz
  refine v_sub (lv' := [(0, .ref (ad (0))), (1, .ref (ad (tb i))), (2, .int 25), (3, .int x), (4, .int y), (5, .int z)]) [0, 1, 2, 3, 4, 5] rfl ?_
  obtain ⟨hsz, hsz2, hn2, hn1, hn16, hus, hus2, hpd, hpd2, h17, hfs, hvi, hgl⟩ := id hg
  obtain ⟨h3, hca, h4, he, h5, hr, h6, hw, hso, huq, hct, hctm, hwt, hwtm, hwt0, hpk, hst, hem, hov, hrg, hsv, hrd, hwr, hva⟩ := id hI
  refine v_iload_n (pc' := 1) (i := 2) (j := 2) X dX9_known_0 rfl rfl rfl ?_
  refine v_if_lt (pc' := 4) (tgt := 10) X dX9_known_1 (by decide) rfl (fun hc_1 => absurd hc_1 (by decide)) (fun _ => ?_)
  refine v_iload_n (pc' := 5) (i := 2) (j := 2) X dX9_known_4 rfl rfl rfl ?_
  refine v_bipush (pc' := 7) (v := 29) X dX9_known_5 (by decide) rfl ?_
  refine v_icmp_le (pc' := 10) (tgt := 12) X dX9_known_7 (by decide) rfl (fun _ => ?_) (fun hc_7 => absurd (by decide) hc_7)
  refine v_aload_n (pc' := 13) (i := 0) (j := 0) X dX9_known_12 rfl rfl rfl ?_
  refine v_aload_n (pc' := 14) (i := 1) (j := 1) X dX9_known_13 rfl rfl rfl ?_
  refine v_iload_n (pc' := 15) (i := 2) (j := 2) X dX9_known_14 rfl rfl rfl ?_
  refine v_iload_n (pc' := 16) (i := 3) (j := 3) X dX9_known_15 rfl rfl rfl ?_
  refine v_iload (pc' := 18) (j := 4) X dX9_known_16 rfl rfl ?_
  refine v_iload (pc' := 20) (j := 5) X dX9_known_18 rfl rfl ?_
  refine v_callV (pc' := 23) X (st := []) (c_X9_wrong_25 (M := M) hi (x := x) (y := y) (z := z)) k_X9_wrong w_ml_X9_83 w_im_X9_wrong w_se_X9_X9_wrong (rv_M) (by rw [hR]; exact ⟨Nat.le_of_ble_eq_true rfl, Nat.le_of_ble_eq_true rfl⟩) rfl rfl (Nat.le_of_ble_eq_true rfl) dX9_known_20 rfl (⟨Nat.zero_le _, Nat.zero_le _⟩) ?_
  rintro _ _ ⟨rfl, rfl⟩
  refine v_ifB_eq (pc' := 26) (tgt := 28) X dX9_known_23 (by decide) rfl (fun hc_23 => ?_) (fun hc_23 => ?_)
  -- taken 23
  · refine v_aload_n (pc' := 29) (i := 1) (j := 1) X dX9_known_28 rfl rfl rfl ?_
    refine v_callV (pc' := 32) X (st := []) (c_X8_atomic (M := M) hi (e := e) h4 he) k_X8_atomic w_ml_X9_87 w_im_X8_atomic w_se_X8_X8_atomic (rv_T hi) (by rw [hR]; exact ⟨Nat.le_of_ble_eq_true rfl, Nat.le_of_ble_eq_true rfl⟩) rfl rfl (Nat.le_of_ble_eq_true rfl) dX9_known_29 rfl (⟨Nat.zero_le _, Nat.zero_le _⟩) ?_
    rintro _ _ ⟨rfl, x9, rfl, hx9⟩
    rcases hx9 with ⟨k0, hk0, h0, hf0, rfl⟩ | ⟨hno, rfl⟩
    · have hin : fIn M (tb i) := ⟨k0, by rw [h4, nn_nI (by omega)]; exact hk0, h0⟩
      refine v_if_lt (pc' := 35) (tgt := 39) X dX9_known_32 (by decide) rfl (fun hc_32 => absurd hc_32 (nI_pos (by omega))) (fun _ => ?_)
      refine v_iconst (pc' := 36) (v := 1) X dX9_known_35 (by decide) rfl ?_
      refine v_goto (pc' := 40) X dX9_known_36 (by decide) ?_
      refine v_istore (pc' := 42) (lv' := [(6, .int 1), (0, .ref (ad (0))), (1, .ref (ad (tb i))), (2, .int 25), (3, .int x), (4, .int y), (5, .int z)]) X dX9_known_40 (by decide) rfl rfl ?_
      refine v_iload (pc' := 44) (j := 0) X dX9_known_42 rfl rfl ?_
      refine v_if_eq (pc' := 47) (tgt := 78) X dX9_known_44 (by decide) rfl (fun hc_44 => absurd hc_44 (by decide)) (fun _ => ?_)
      refine v_iload_n (pc' := 48) (i := 2) (j := 3) X dX9_known_47 rfl rfl rfl ?_
      refine v_if_eq (pc' := 51) (tgt := 75) X dX9_known_48 (by decide) rfl (fun hc_48 => absurd hc_48 (by decide)) (fun _ => ?_)
      refine v_iload_n (pc' := 52) (i := 2) (j := 3) X dX9_known_51 rfl rfl rfl ?_
      refine v_bipush (pc' := 54) (v := 18) X dX9_known_52 (by decide) rfl ?_
      refine v_icmp_eq (pc' := 57) (tgt := 75) X dX9_known_54 (by decide) rfl (fun hc_54 => absurd hc_54 (by decide)) (fun _ => ?_)
      refine v_iload_n (pc' := 58) (i := 2) (j := 3) X dX9_known_57 rfl rfl rfl ?_
      refine v_bipush (pc' := 60) (v := 25) X dX9_known_58 (by decide) rfl ?_
      refine v_icmp_eq (pc' := 63) (tgt := 75) X dX9_known_60 (by decide) rfl (fun _ => ?_) (fun hc_60 => absurd (by decide) hc_60)
      refine v_bipush (pc' := 77) (v := (-4)) X dX9_known_75 (by decide) rfl ?_
      refine v_ireturn X R (Nat.zero_le _) (Nat.zero_le _) dX9_known_77 ?_
      have hF : fKnown M n (tb i) 25 x y z = (M, (-4)) := by
        unfold fKnown
        rw [if_neg hc_23, if_pos hin]
        exact if_pos (by decide)
      rw [hF]
      exact ⟨rfl, n, ad, (by rw [show M.1 0 2 = nI n from hn2, nn_nI (by omega)]), rfl, fun _ _ => rfl⟩
    · have hnin : ¬ fIn M (tb i) := fun z9 => by obtain ⟨q9, y9, y8⟩ := z9; rw [h4, nn_nI (by omega)] at y9; exact hno q9 y9 y8
      refine v_if_lt (pc' := 35) (tgt := 39) X dX9_known_32 (by decide) rfl (fun _ => ?_) (fun hc_32 => absurd (by decide) hc_32)
      refine v_iconst (pc' := 40) (v := 0) X dX9_known_39 (by decide) rfl ?_
      refine v_istore (pc' := 42) (lv' := [(6, .int 0), (0, .ref (ad (0))), (1, .ref (ad (tb i))), (2, .int 25), (3, .int x), (4, .int y), (5, .int z)]) X dX9_known_40 (by decide) rfl rfl ?_
      refine v_iload (pc' := 44) (j := 0) X dX9_known_42 rfl rfl ?_
      refine v_if_eq (pc' := 47) (tgt := 78) X dX9_known_44 (by decide) rfl (fun _ => ?_) (fun hc_44 => absurd (by decide) hc_44)
      refine v_iload (pc' := 80) (j := 0) X dX9_known_78 rfl rfl ?_
      refine v_if_ne (pc' := 83) (tgt := 116) X dX9_known_80 (by decide) rfl (fun hc_80 => absurd (by decide) hc_80) (fun _ => ?_)
      refine v_iload_n (pc' := 84) (i := 2) (j := 3) X dX9_known_83 rfl rfl rfl ?_
      refine v_bipush (pc' := 86) (v := 16) X dX9_known_84 (by decide) rfl ?_
      refine v_icmp_eq (pc' := 89) (tgt := 113) X dX9_known_86 (by decide) rfl (fun hc_86 => absurd hc_86 (by decide)) (fun _ => ?_)
      refine v_iload_n (pc' := 90) (i := 2) (j := 3) X dX9_known_89 rfl rfl rfl ?_
      refine v_bipush (pc' := 92) (v := 17) X dX9_known_90 (by decide) rfl ?_
      refine v_icmp_eq (pc' := 95) (tgt := 113) X dX9_known_92 (by decide) rfl (fun hc_92 => absurd hc_92 (by decide)) (fun _ => ?_)
      refine v_iload_n (pc' := 96) (i := 2) (j := 3) X dX9_known_95 rfl rfl rfl ?_
      refine v_bipush (pc' := 98) (v := 19) X dX9_known_96 (by decide) rfl ?_
      refine v_icmp_eq (pc' := 101) (tgt := 113) X dX9_known_98 (by decide) rfl (fun hc_98 => absurd hc_98 (by decide)) (fun _ => ?_)
      refine v_iload_n (pc' := 102) (i := 2) (j := 3) X dX9_known_101 rfl rfl rfl ?_
      refine v_bipush (pc' := 104) (v := 20) X dX9_known_102 (by decide) rfl ?_
      refine v_icmp_eq (pc' := 107) (tgt := 113) X dX9_known_104 (by decide) rfl (fun hc_104 => absurd hc_104 (by decide)) (fun _ => ?_)
      refine v_iload_n (pc' := 108) (i := 2) (j := 3) X dX9_known_107 rfl rfl rfl ?_
      refine v_bipush (pc' := 110) (v := 23) X dX9_known_108 (by decide) rfl ?_
      refine v_icmp_ne (pc' := 113) (tgt := 116) X dX9_known_110 (by decide) rfl (fun _ => ?_) (fun hc_110 => absurd hc_110 (by decide))
      refine v_iload_n (pc' := 117) (i := 2) (j := 3) X dX9_known_116 rfl rfl rfl ?_
      refine v_bipush (pc' := 119) (v := 15) X dX9_known_117 (by decide) rfl ?_
      refine v_icmp_le (pc' := 122) (tgt := 128) X dX9_known_119 (by decide) rfl (fun hc_119 => absurd hc_119 (by decide)) (fun _ => ?_)
      refine v_iload_n (pc' := 123) (i := 2) (j := 3) X dX9_known_122 rfl rfl rfl ?_
      refine v_bipush (pc' := 125) (v := 29) X dX9_known_123 (by decide) rfl ?_
      refine v_icmp_ne (pc' := 128) (tgt := 140) X dX9_known_125 (by decide) rfl (fun _ => ?_) (fun hc_125 => absurd hc_125 (by decide))
      refine v_iload_n (pc' := 141) (i := 2) (j := 3) X dX9_known_140 rfl rfl rfl ?_
      refine v_bipush (pc' := 143) (v := 24) X dX9_known_141 (by decide) rfl ?_
      refine v_icmp_gt (pc' := 146) (tgt := 156) X dX9_known_143 (by decide) rfl (fun _ => ?_) (fun hc_143 => absurd (by decide) hc_143)
      refine v_aload_n (pc' := 157) (i := 0) (j := 1) X dX9_known_156 rfl rfl rfl ?_
      refine v_aload_n (pc' := 158) (i := 1) (j := 2) X dX9_known_157 rfl rfl rfl ?_
      refine v_iload_n (pc' := 159) (i := 2) (j := 3) X dX9_known_158 rfl rfl rfl ?_
      refine v_iload_n (pc' := 160) (i := 3) (j := 4) X dX9_known_159 rfl rfl rfl ?_
      refine v_iload (pc' := 162) (j := 5) X dX9_known_160 rfl rfl ?_
      obtain ⟨hx1, hx2⟩ := nrg_not (fun z9 => hc_23 (z9))
      have hFK : fKnown M n (tb i) 25 x y z = (fFork M n (tb i) x y, 0) := by
        unfold fKnown
        rw [if_neg hc_23, if_neg hnin, if_neg (by decide)]
        rfl
      have hkN : nn ((fKnown M n (tb i) 25 x y z).1.1 0 2) - n = if n = 16 then 0 else 1 := by
        rw [hFK, fFork_n hn2 hn16 (by unfold tb; omega)]
        split <;> omega
      refine v_callV (pc' := 165) X (st := []) (c_X9_outer_25 (M := M) hi hg hts hI (x := x) (y := y) hx1 hx2) k_X9_outer w_ml_X9_98 w_im_X9_outer w_se_X9_X9_outer (rv_M) (by rw [hR]; exact ⟨Nat.le_of_ble_eq_true rfl, Nat.le_of_ble_eq_true rfl⟩) rfl rfl (Nat.le_of_ble_eq_true rfl) dX9_known_162 rfl (by rw [hR]; show 0 + (if n = 16 then 0 else 11) ≤ 11 * (nn ((fKnown M n (tb i) 25 x y z).1.1 0 2) - n) ∧ 0 + (if n = 16 then 0 else 674) ≤ 674 * (nn ((fKnown M n (tb i) 25 x y z).1.1 0 2) - n); rw [hkN]; split <;> omega) ?_
      rintro _ _ ⟨rfl, ad9, rfl, hA⟩
      refine v_ireturn X R (by rw [hkN]; split <;> omega) (by rw [hkN]; split <;> omega) dX9_known_165 ?_
      rw [hFK]
      exact ⟨rfl, if n = 16 then n else n + 1, ad9, (by rw [fFork_n hn2 hn16 (by unfold tb; omega)]), rfl, hA⟩
  -- not taken 23
  · refine v_iconst (pc' := 27) (v := (-1)) X dX9_known_26 (by decide) rfl ?_
    refine v_ireturn X R (Nat.zero_le _) (Nat.zero_le _) dX9_known_27 ?_
    have hF : fKnown M n (tb i) 25 x y z = (M, (-1)) := by
      unfold fKnown
      exact if_pos hc_23
    rw [hF]
    exact ⟨rfl, n, ad, (by rw [show M.1 0 2 = nI n from hn2, nn_nI (by omega)]), rfl, fun _ _ => rfl⟩
set_option maxHeartbeats 4000000 in
set_option maxRecDepth 100000 in
theorem c_X9_known_26 {l : Launch} {D : va_G} {Y : Nat → ClassId} {zz : Nat → Nat} {n sz us pd : Nat} {ad : Nat → Nat} {M : vM} {i ca e r w : Nat} (hi : i < n) (hg : gI M n sz us pd) (hts : ∀ i, i < n → ∃ ca e r w, tI M us (tb i) ca e r w) (hI : tI M us (tb i) ca e r w) (hst1 : M.1 (tb i) 0 = 1) {x y z : Int32} : Ct l D Y zz yX9_known cX9_known 7 (some FieldType.int) 2 48 [.ref (ad (0)), .ref (ad (tb i)), .int 26, .int x, .int y, .int z] (wM Y n ad M) 0 0 (fun r w => r = some (.int (fKnown M n (tb i) 26 x y z).2) ∧ w = wM Y n ad (fKnown M n (tb i) 26 x y z).1) := by
  refine v_entry (by decide +kernel) (Nat.le_of_ble_eq_true rfl) ?_
  intro K X R hR hnm hl hD hY hz
  subst hl hD hY hz
  refine v_sub (lv' := [(0, .ref (ad (0))), (1, .ref (ad (tb i))), (2, .int 26), (3, .int x), (4, .int y), (5, .int z)]) [0, 1, 2, 3, 4, 5] rfl ?_
  obtain ⟨hsz, hsz2, hn2, hn1, hn16, hus, hus2, hpd, hpd2, h17, hfs, hvi, hgl⟩ := id hg
  obtain ⟨h3, hca, h4, he, h5, hr, h6, hw, hso, huq, hct, hctm, hwt, hwtm, hwt0, hpk, hst, hem, hov, hrg, hsv, hrd, hwr, hva⟩ := id hI
  refine v_iload_n (pc' := 1) (i := 2) (j := 2) X dX9_known_0 rfl rfl rfl ?_
  refine v_if_lt (pc' := 4) (tgt := 10) X dX9_known_1 (by decide) rfl (fun hc_1 => absurd hc_1 (by decide)) (fun _ => ?_)
  refine v_iload_n (pc' := 5) (i := 2) (j := 2) X dX9_known_4 rfl rfl rfl ?_
  refine v_bipush (pc' := 7) (v := 29) X dX9_known_5 (by decide) rfl ?_
  refine v_icmp_le (pc' := 10) (tgt := 12) X dX9_known_7 (by decide) rfl (fun _ => ?_) (fun hc_7 => absurd (by decide) hc_7)
  refine v_aload_n (pc' := 13) (i := 0) (j := 0) X dX9_known_12 rfl rfl rfl ?_
  refine v_aload_n (pc' := 14) (i := 1) (j := 1) X dX9_known_13 rfl rfl rfl ?_
  refine v_iload_n (pc' := 15) (i := 2) (j := 2) X dX9_known_14 rfl rfl rfl ?_
  refine v_iload_n (pc' := 16) (i := 3) (j := 3) X dX9_known_15 rfl rfl rfl ?_
  refine v_iload (pc' := 18) (j := 4) X dX9_known_16 rfl rfl ?_
  refine v_iload (pc' := 20) (j := 5) X dX9_known_18 rfl rfl ?_
  refine v_callV (pc' := 23) X (st := []) (c_X9_wrong_26 (M := M) hi (x := x) (y := y) (z := z)) k_X9_wrong w_ml_X9_83 w_im_X9_wrong w_se_X9_X9_wrong (rv_M) (by rw [hR]; exact ⟨Nat.le_of_ble_eq_true rfl, Nat.le_of_ble_eq_true rfl⟩) rfl rfl (Nat.le_of_ble_eq_true rfl) dX9_known_20 rfl (⟨Nat.zero_le _, Nat.zero_le _⟩) ?_
  rintro _ _ ⟨rfl, rfl⟩
  refine v_ifB_eq (pc' := 26) (tgt := 28) X dX9_known_23 (by decide) rfl (fun hc_23 => ?_) (fun hc_23 => ?_)
  -- taken 23
  · refine v_aload_n (pc' := 29) (i := 1) (j := 1) X dX9_known_28 rfl rfl rfl ?_
    refine v_callV (pc' := 32) X (st := []) (c_X8_atomic (M := M) hi (e := e) h4 he) k_X8_atomic w_ml_X9_87 w_im_X8_atomic w_se_X8_X8_atomic (rv_T hi) (by rw [hR]; exact ⟨Nat.le_of_ble_eq_true rfl, Nat.le_of_ble_eq_true rfl⟩) rfl rfl (Nat.le_of_ble_eq_true rfl) dX9_known_29 rfl (⟨Nat.zero_le _, Nat.zero_le _⟩) ?_
    rintro _ _ ⟨rfl, x9, rfl, hx9⟩
    rcases hx9 with ⟨k0, hk0, h0, hf0, rfl⟩ | ⟨hno, rfl⟩
    · have hin : fIn M (tb i) := ⟨k0, by rw [h4, nn_nI (by omega)]; exact hk0, h0⟩
      refine v_if_lt (pc' := 35) (tgt := 39) X dX9_known_32 (by decide) rfl (fun hc_32 => absurd hc_32 (nI_pos (by omega))) (fun _ => ?_)
      refine v_iconst (pc' := 36) (v := 1) X dX9_known_35 (by decide) rfl ?_
      refine v_goto (pc' := 40) X dX9_known_36 (by decide) ?_
      refine v_istore (pc' := 42) (lv' := [(6, .int 1), (0, .ref (ad (0))), (1, .ref (ad (tb i))), (2, .int 26), (3, .int x), (4, .int y), (5, .int z)]) X dX9_known_40 (by decide) rfl rfl ?_
      refine v_iload (pc' := 44) (j := 0) X dX9_known_42 rfl rfl ?_
      refine v_if_eq (pc' := 47) (tgt := 78) X dX9_known_44 (by decide) rfl (fun hc_44 => absurd hc_44 (by decide)) (fun _ => ?_)
      refine v_iload_n (pc' := 48) (i := 2) (j := 3) X dX9_known_47 rfl rfl rfl ?_
      refine v_if_eq (pc' := 51) (tgt := 75) X dX9_known_48 (by decide) rfl (fun hc_48 => absurd hc_48 (by decide)) (fun _ => ?_)
      refine v_iload_n (pc' := 52) (i := 2) (j := 3) X dX9_known_51 rfl rfl rfl ?_
      refine v_bipush (pc' := 54) (v := 18) X dX9_known_52 (by decide) rfl ?_
      refine v_icmp_eq (pc' := 57) (tgt := 75) X dX9_known_54 (by decide) rfl (fun hc_54 => absurd hc_54 (by decide)) (fun _ => ?_)
      refine v_iload_n (pc' := 58) (i := 2) (j := 3) X dX9_known_57 rfl rfl rfl ?_
      refine v_bipush (pc' := 60) (v := 25) X dX9_known_58 (by decide) rfl ?_
      refine v_icmp_eq (pc' := 63) (tgt := 75) X dX9_known_60 (by decide) rfl (fun hc_60 => absurd hc_60 (by decide)) (fun _ => ?_)
      refine v_iload_n (pc' := 64) (i := 2) (j := 3) X dX9_known_63 rfl rfl rfl ?_
      refine v_bipush (pc' := 66) (v := 26) X dX9_known_64 (by decide) rfl ?_
      refine v_icmp_eq (pc' := 69) (tgt := 75) X dX9_known_66 (by decide) rfl (fun _ => ?_) (fun hc_66 => absurd (by decide) hc_66)
      refine v_bipush (pc' := 77) (v := (-4)) X dX9_known_75 (by decide) rfl ?_
      refine v_ireturn X R (Nat.zero_le _) (Nat.zero_le _) dX9_known_77 ?_
      have hF : fKnown M n (tb i) 26 x y z = (M, (-4)) := by
        unfold fKnown
        rw [if_neg hc_23, if_pos hin]
        exact if_pos (by decide)
      rw [hF]
      exact ⟨rfl, rfl⟩
    · have hnin : ¬ fIn M (tb i) := fun z9 => by obtain ⟨q9, y9, y8⟩ := z9; rw [h4, nn_nI (by omega)] at y9; exact hno q9 y9 y8
      refine v_if_lt (pc' := 35) (tgt := 39) X dX9_known_32 (by decide) rfl (fun _ => ?_) (fun hc_32 => absurd (by decide) hc_32)
      refine v_iconst (pc' := 40) (v := 0) X dX9_known_39 (by decide) rfl ?_
      refine v_istore (pc' := 42) (lv' := [(6, .int 0), (0, .ref (ad (0))), (1, .ref (ad (tb i))), (2, .int 26), (3, .int x), (4, .int y), (5, .int z)]) X dX9_known_40 (by decide) rfl rfl ?_
      refine v_iload (pc' := 44) (j := 0) X dX9_known_42 rfl rfl ?_
      refine v_if_eq (pc' := 47) (tgt := 78) X dX9_known_44 (by decide) rfl (fun _ => ?_) (fun hc_44 => absurd (by decide) hc_44)
      refine v_iload (pc' := 80) (j := 0) X dX9_known_78 rfl rfl ?_
      refine v_if_ne (pc' := 83) (tgt := 116) X dX9_known_80 (by decide) rfl (fun hc_80 => absurd (by decide) hc_80) (fun _ => ?_)
      refine v_iload_n (pc' := 84) (i := 2) (j := 3) X dX9_known_83 rfl rfl rfl ?_
      refine v_bipush (pc' := 86) (v := 16) X dX9_known_84 (by decide) rfl ?_
      refine v_icmp_eq (pc' := 89) (tgt := 113) X dX9_known_86 (by decide) rfl (fun hc_86 => absurd hc_86 (by decide)) (fun _ => ?_)
      refine v_iload_n (pc' := 90) (i := 2) (j := 3) X dX9_known_89 rfl rfl rfl ?_
      refine v_bipush (pc' := 92) (v := 17) X dX9_known_90 (by decide) rfl ?_
      refine v_icmp_eq (pc' := 95) (tgt := 113) X dX9_known_92 (by decide) rfl (fun hc_92 => absurd hc_92 (by decide)) (fun _ => ?_)
      refine v_iload_n (pc' := 96) (i := 2) (j := 3) X dX9_known_95 rfl rfl rfl ?_
      refine v_bipush (pc' := 98) (v := 19) X dX9_known_96 (by decide) rfl ?_
      refine v_icmp_eq (pc' := 101) (tgt := 113) X dX9_known_98 (by decide) rfl (fun hc_98 => absurd hc_98 (by decide)) (fun _ => ?_)
      refine v_iload_n (pc' := 102) (i := 2) (j := 3) X dX9_known_101 rfl rfl rfl ?_
      refine v_bipush (pc' := 104) (v := 20) X dX9_known_102 (by decide) rfl ?_
      refine v_icmp_eq (pc' := 107) (tgt := 113) X dX9_known_104 (by decide) rfl (fun hc_104 => absurd hc_104 (by decide)) (fun _ => ?_)
      refine v_iload_n (pc' := 108) (i := 2) (j := 3) X dX9_known_107 rfl rfl rfl ?_
      refine v_bipush (pc' := 110) (v := 23) X dX9_known_108 (by decide) rfl ?_
      refine v_icmp_ne (pc' := 113) (tgt := 116) X dX9_known_110 (by decide) rfl (fun _ => ?_) (fun hc_110 => absurd hc_110 (by decide))
      refine v_iload_n (pc' := 117) (i := 2) (j := 3) X dX9_known_116 rfl rfl rfl ?_
      refine v_bipush (pc' := 119) (v := 15) X dX9_known_117 (by decide) rfl ?_
      refine v_icmp_le (pc' := 122) (tgt := 128) X dX9_known_119 (by decide) rfl (fun hc_119 => absurd hc_119 (by decide)) (fun _ => ?_)
      refine v_iload_n (pc' := 123) (i := 2) (j := 3) X dX9_known_122 rfl rfl rfl ?_
      refine v_bipush (pc' := 125) (v := 29) X dX9_known_123 (by decide) rfl ?_
      refine v_icmp_ne (pc' := 128) (tgt := 140) X dX9_known_125 (by decide) rfl (fun _ => ?_) (fun hc_125 => absurd hc_125 (by decide))
      refine v_iload_n (pc' := 141) (i := 2) (j := 3) X dX9_known_140 rfl rfl rfl ?_
      refine v_bipush (pc' := 143) (v := 24) X dX9_known_141 (by decide) rfl ?_
      refine v_icmp_gt (pc' := 146) (tgt := 156) X dX9_known_143 (by decide) rfl (fun _ => ?_) (fun hc_143 => absurd (by decide) hc_143)
      refine v_aload_n (pc' := 157) (i := 0) (j := 1) X dX9_known_156 rfl rfl rfl ?_
      refine v_aload_n (pc' := 158) (i := 1) (j := 2) X dX9_known_157 rfl rfl rfl ?_
      refine v_iload_n (pc' := 159) (i := 2) (j := 3) X dX9_known_158 rfl rfl rfl ?_
      refine v_iload_n (pc' := 160) (i := 3) (j := 4) X dX9_known_159 rfl rfl rfl ?_
      refine v_iload (pc' := 162) (j := 5) X dX9_known_160 rfl rfl ?_
      obtain ⟨hx1, hx2⟩ := nrg_not (fun z9 => hc_23 (Or.inl (z9)))
      refine v_callV (pc' := 165) X (st := []) (c_X9_outer_26 (M := M) hi hg hts hI (x := x) (y := y) hx1 hx2) k_X9_outer w_ml_X9_98 w_im_X9_outer w_se_X9_X9_outer (rv_M) (by rw [hR]; exact ⟨Nat.le_of_ble_eq_true rfl, Nat.le_of_ble_eq_true rfl⟩) rfl rfl (Nat.le_of_ble_eq_true rfl) dX9_known_162 rfl (⟨Nat.zero_le _, Nat.zero_le _⟩) ?_
      rintro _ _ ⟨rfl, rfl⟩
      refine v_ireturn X R (Nat.zero_le _) (Nat.zero_le _) dX9_known_165 ?_
      have hF : fKnown M n (tb i) 26 x y z = ((fOuter M n (tb i) 26 x y).1, (fOuter M n (tb i) 26 x y).2) := by
        unfold fKnown
        rw [if_neg hc_23, if_neg hnin]
        rw [if_neg (by decide)]
        unfold fRest
        rw [if_neg (by decide), if_neg (by decide)]
      rw [hF]
      exact ⟨rfl, rfl⟩
  -- not taken 23
  · refine v_iconst (pc' := 27) (v := (-1)) X dX9_known_26 (by decide) rfl ?_
    refine v_ireturn X R (Nat.zero_le _) (Nat.zero_le _) dX9_known_27 ?_
    have hF : fKnown M n (tb i) 26 x y z = (M, (-1)) := by
      unfold fKnown
      exact if_pos hc_23
    rw [hF]
    exact ⟨rfl, rfl⟩
set_option maxHeartbeats 4000000 in
set_option maxRecDepth 100000 in
theorem c_X9_known_27 {l : Launch} {D : va_G} {Y : Nat → ClassId} {zz : Nat → Nat} {n sz us pd : Nat} {ad : Nat → Nat} {M : vM} {i ca e r w : Nat} (hi : i < n) (hg : gI M n sz us pd) (hts : ∀ i, i < n → ∃ ca e r w, tI M us (tb i) ca e r w) (hI : tI M us (tb i) ca e r w) (hst1 : M.1 (tb i) 0 = 1) {x y z : Int32} : Ct l D Y zz yX9_known cX9_known 7 (some FieldType.int) 2 47 [.ref (ad (0)), .ref (ad (tb i)), .int 27, .int x, .int y, .int z] (wM Y n ad M) 0 0 (fun r w => r = some (.int (fKnown M n (tb i) 27 x y z).2) ∧ w = wM Y n ad (fKnown M n (tb i) 27 x y z).1) := by
  refine v_entry (by decide +kernel) (Nat.le_of_ble_eq_true rfl) ?_
  intro K X R hR hnm hl hD hY hz
  subst hl hD hY hz
  refine v_sub (lv' := [(0, .ref (ad (0))), (1, .ref (ad (tb i))), (2, .int 27), (3, .int x), (4, .int y), (5, .int z)]) [0, 1, 2, 3, 4, 5] rfl ?_
  obtain ⟨hsz, hsz2, hn2, hn1, hn16, hus, hus2, hpd, hpd2, h17, hfs, hvi, hgl⟩ := id hg
  obtain ⟨h3, hca, h4, he, h5, hr, h6, hw, hso, huq, hct, hctm, hwt, hwtm, hwt0, hpk, hst, hem, hov, hrg, hsv, hrd, hwr, hva⟩ := id hI
  refine v_iload_n (pc' := 1) (i := 2) (j := 2) X dX9_known_0 rfl rfl rfl ?_
  refine v_if_lt (pc' := 4) (tgt := 10) X dX9_known_1 (by decide) rfl (fun hc_1 => absurd hc_1 (by decide)) (fun _ => ?_)
  refine v_iload_n (pc' := 5) (i := 2) (j := 2) X dX9_known_4 rfl rfl rfl ?_
  refine v_bipush (pc' := 7) (v := 29) X dX9_known_5 (by decide) rfl ?_
  refine v_icmp_le (pc' := 10) (tgt := 12) X dX9_known_7 (by decide) rfl (fun _ => ?_) (fun hc_7 => absurd (by decide) hc_7)
  refine v_aload_n (pc' := 13) (i := 0) (j := 0) X dX9_known_12 rfl rfl rfl ?_
  refine v_aload_n (pc' := 14) (i := 1) (j := 1) X dX9_known_13 rfl rfl rfl ?_
  refine v_iload_n (pc' := 15) (i := 2) (j := 2) X dX9_known_14 rfl rfl rfl ?_
  refine v_iload_n (pc' := 16) (i := 3) (j := 3) X dX9_known_15 rfl rfl rfl ?_
  refine v_iload (pc' := 18) (j := 4) X dX9_known_16 rfl rfl ?_
  refine v_iload (pc' := 20) (j := 5) X dX9_known_18 rfl rfl ?_
  refine v_callV (pc' := 23) X (st := []) (c_X9_wrong_27 (M := M) hi (x := x) (y := y) (z := z)) k_X9_wrong w_ml_X9_83 w_im_X9_wrong w_se_X9_X9_wrong (rv_M) (by rw [hR]; exact ⟨Nat.le_of_ble_eq_true rfl, Nat.le_of_ble_eq_true rfl⟩) rfl rfl (Nat.le_of_ble_eq_true rfl) dX9_known_20 rfl (⟨Nat.zero_le _, Nat.zero_le _⟩) ?_
  rintro _ _ ⟨rfl, rfl⟩
  refine v_ifB_eq (pc' := 26) (tgt := 28) X dX9_known_23 (by decide) rfl (fun hc_23 => ?_) (fun hc_23 => ?_)
  -- taken 23
  · refine v_aload_n (pc' := 29) (i := 1) (j := 1) X dX9_known_28 rfl rfl rfl ?_
    refine v_callV (pc' := 32) X (st := []) (c_X8_atomic (M := M) hi (e := e) h4 he) k_X8_atomic w_ml_X9_87 w_im_X8_atomic w_se_X8_X8_atomic (rv_T hi) (by rw [hR]; exact ⟨Nat.le_of_ble_eq_true rfl, Nat.le_of_ble_eq_true rfl⟩) rfl rfl (Nat.le_of_ble_eq_true rfl) dX9_known_29 rfl (⟨Nat.zero_le _, Nat.zero_le _⟩) ?_
    rintro _ _ ⟨rfl, x9, rfl, hx9⟩
    rcases hx9 with ⟨k0, hk0, h0, hf0, rfl⟩ | ⟨hno, rfl⟩
    · have hin : fIn M (tb i) := ⟨k0, by rw [h4, nn_nI (by omega)]; exact hk0, h0⟩
      refine v_if_lt (pc' := 35) (tgt := 39) X dX9_known_32 (by decide) rfl (fun hc_32 => absurd hc_32 (nI_pos (by omega))) (fun _ => ?_)
      refine v_iconst (pc' := 36) (v := 1) X dX9_known_35 (by decide) rfl ?_
      refine v_goto (pc' := 40) X dX9_known_36 (by decide) ?_
      refine v_istore (pc' := 42) (lv' := [(6, .int 1), (0, .ref (ad (0))), (1, .ref (ad (tb i))), (2, .int 27), (3, .int x), (4, .int y), (5, .int z)]) X dX9_known_40 (by decide) rfl rfl ?_
      refine v_iload (pc' := 44) (j := 0) X dX9_known_42 rfl rfl ?_
      refine v_if_eq (pc' := 47) (tgt := 78) X dX9_known_44 (by decide) rfl (fun hc_44 => absurd hc_44 (by decide)) (fun _ => ?_)
      refine v_iload_n (pc' := 48) (i := 2) (j := 3) X dX9_known_47 rfl rfl rfl ?_
      refine v_if_eq (pc' := 51) (tgt := 75) X dX9_known_48 (by decide) rfl (fun hc_48 => absurd hc_48 (by decide)) (fun _ => ?_)
      refine v_iload_n (pc' := 52) (i := 2) (j := 3) X dX9_known_51 rfl rfl rfl ?_
      refine v_bipush (pc' := 54) (v := 18) X dX9_known_52 (by decide) rfl ?_
      refine v_icmp_eq (pc' := 57) (tgt := 75) X dX9_known_54 (by decide) rfl (fun hc_54 => absurd hc_54 (by decide)) (fun _ => ?_)
      refine v_iload_n (pc' := 58) (i := 2) (j := 3) X dX9_known_57 rfl rfl rfl ?_
      refine v_bipush (pc' := 60) (v := 25) X dX9_known_58 (by decide) rfl ?_
      refine v_icmp_eq (pc' := 63) (tgt := 75) X dX9_known_60 (by decide) rfl (fun hc_60 => absurd hc_60 (by decide)) (fun _ => ?_)
      refine v_iload_n (pc' := 64) (i := 2) (j := 3) X dX9_known_63 rfl rfl rfl ?_
      refine v_bipush (pc' := 66) (v := 26) X dX9_known_64 (by decide) rfl ?_
      refine v_icmp_eq (pc' := 69) (tgt := 75) X dX9_known_66 (by decide) rfl (fun hc_66 => absurd hc_66 (by decide)) (fun _ => ?_)
      refine v_iload_n (pc' := 70) (i := 2) (j := 3) X dX9_known_69 rfl rfl rfl ?_
      refine v_bipush (pc' := 72) (v := 27) X dX9_known_70 (by decide) rfl ?_
      refine v_icmp_ne (pc' := 75) (tgt := 78) X dX9_known_72 (by decide) rfl (fun hc_72 => absurd (by decide) hc_72) (fun _ => ?_)
      refine v_bipush (pc' := 77) (v := (-4)) X dX9_known_75 (by decide) rfl ?_
      refine v_ireturn X R (Nat.zero_le _) (Nat.zero_le _) dX9_known_77 ?_
      have hF : fKnown M n (tb i) 27 x y z = (M, (-4)) := by
        unfold fKnown
        rw [if_neg hc_23, if_pos hin]
        exact if_pos (by decide)
      rw [hF]
      exact ⟨rfl, rfl⟩
    · have hnin : ¬ fIn M (tb i) := fun z9 => by obtain ⟨q9, y9, y8⟩ := z9; rw [h4, nn_nI (by omega)] at y9; exact hno q9 y9 y8
      refine v_if_lt (pc' := 35) (tgt := 39) X dX9_known_32 (by decide) rfl (fun _ => ?_) (fun hc_32 => absurd (by decide) hc_32)
      refine v_iconst (pc' := 40) (v := 0) X dX9_known_39 (by decide) rfl ?_
      refine v_istore (pc' := 42) (lv' := [(6, .int 0), (0, .ref (ad (0))), (1, .ref (ad (tb i))), (2, .int 27), (3, .int x), (4, .int y), (5, .int z)]) X dX9_known_40 (by decide) rfl rfl ?_
      refine v_iload (pc' := 44) (j := 0) X dX9_known_42 rfl rfl ?_
      refine v_if_eq (pc' := 47) (tgt := 78) X dX9_known_44 (by decide) rfl (fun _ => ?_) (fun hc_44 => absurd (by decide) hc_44)
      refine v_iload (pc' := 80) (j := 0) X dX9_known_78 rfl rfl ?_
      refine v_if_ne (pc' := 83) (tgt := 116) X dX9_known_80 (by decide) rfl (fun hc_80 => absurd (by decide) hc_80) (fun _ => ?_)
      refine v_iload_n (pc' := 84) (i := 2) (j := 3) X dX9_known_83 rfl rfl rfl ?_
      refine v_bipush (pc' := 86) (v := 16) X dX9_known_84 (by decide) rfl ?_
      refine v_icmp_eq (pc' := 89) (tgt := 113) X dX9_known_86 (by decide) rfl (fun hc_86 => absurd hc_86 (by decide)) (fun _ => ?_)
      refine v_iload_n (pc' := 90) (i := 2) (j := 3) X dX9_known_89 rfl rfl rfl ?_
      refine v_bipush (pc' := 92) (v := 17) X dX9_known_90 (by decide) rfl ?_
      refine v_icmp_eq (pc' := 95) (tgt := 113) X dX9_known_92 (by decide) rfl (fun hc_92 => absurd hc_92 (by decide)) (fun _ => ?_)
      refine v_iload_n (pc' := 96) (i := 2) (j := 3) X dX9_known_95 rfl rfl rfl ?_
      refine v_bipush (pc' := 98) (v := 19) X dX9_known_96 (by decide) rfl ?_
      refine v_icmp_eq (pc' := 101) (tgt := 113) X dX9_known_98 (by decide) rfl (fun hc_98 => absurd hc_98 (by decide)) (fun _ => ?_)
      refine v_iload_n (pc' := 102) (i := 2) (j := 3) X dX9_known_101 rfl rfl rfl ?_
      refine v_bipush (pc' := 104) (v := 20) X dX9_known_102 (by decide) rfl ?_
      refine v_icmp_eq (pc' := 107) (tgt := 113) X dX9_known_104 (by decide) rfl (fun hc_104 => absurd hc_104 (by decide)) (fun _ => ?_)
      refine v_iload_n (pc' := 108) (i := 2) (j := 3) X dX9_known_107 rfl rfl rfl ?_
      refine v_bipush (pc' := 110) (v := 23) X dX9_known_108 (by decide) rfl ?_
      refine v_icmp_ne (pc' := 113) (tgt := 116) X dX9_known_110 (by decide) rfl (fun _ => ?_) (fun hc_110 => absurd hc_110 (by decide))
      refine v_iload_n (pc' := 117) (i := 2) (j := 3) X dX9_known_116 rfl rfl rfl ?_
      refine v_bipush (pc' := 119) (v := 15) X dX9_known_117 (by decide) rfl ?_
      refine v_icmp_le (pc' := 122) (tgt := 128) X dX9_known_119 (by decide) rfl (fun hc_119 => absurd hc_119 (by decide)) (fun _ => ?_)
      refine v_iload_n (pc' := 123) (i := 2) (j := 3) X dX9_known_122 rfl rfl rfl ?_
      refine v_bipush (pc' := 125) (v := 29) X dX9_known_123 (by decide) rfl ?_
      refine v_icmp_ne (pc' := 128) (tgt := 140) X dX9_known_125 (by decide) rfl (fun _ => ?_) (fun hc_125 => absurd hc_125 (by decide))
      refine v_iload_n (pc' := 141) (i := 2) (j := 3) X dX9_known_140 rfl rfl rfl ?_
      refine v_bipush (pc' := 143) (v := 24) X dX9_known_141 (by decide) rfl ?_
      refine v_icmp_gt (pc' := 146) (tgt := 156) X dX9_known_143 (by decide) rfl (fun _ => ?_) (fun hc_143 => absurd (by decide) hc_143)
      refine v_aload_n (pc' := 157) (i := 0) (j := 1) X dX9_known_156 rfl rfl rfl ?_
      refine v_aload_n (pc' := 158) (i := 1) (j := 2) X dX9_known_157 rfl rfl rfl ?_
      refine v_iload_n (pc' := 159) (i := 2) (j := 3) X dX9_known_158 rfl rfl rfl ?_
      refine v_iload_n (pc' := 160) (i := 3) (j := 4) X dX9_known_159 rfl rfl rfl ?_
      refine v_iload (pc' := 162) (j := 5) X dX9_known_160 rfl rfl ?_
      obtain ⟨hx1, hx2⟩ := ngl_not (fun z9 => hc_23 (Or.inl (z9)))
      obtain ⟨hy1, hy2⟩ := nrg_not (fun z9 => hc_23 (Or.inr (z9)))
      refine v_callV (pc' := 165) X (st := []) (c_X9_outer_27 (M := M) hi hg hts hI (x := x) (y := y) hy1 hy2 hx1 hx2) k_X9_outer w_ml_X9_98 w_im_X9_outer w_se_X9_X9_outer (rv_M) (by rw [hR]; exact ⟨Nat.le_of_ble_eq_true rfl, Nat.le_of_ble_eq_true rfl⟩) rfl rfl (Nat.le_of_ble_eq_true rfl) dX9_known_162 rfl (⟨Nat.zero_le _, Nat.zero_le _⟩) ?_
      rintro _ _ ⟨rfl, rfl⟩
      refine v_ireturn X R (Nat.zero_le _) (Nat.zero_le _) dX9_known_165 ?_
      have hF : fKnown M n (tb i) 27 x y z = ((fOuter M n (tb i) 27 x y).1, (fOuter M n (tb i) 27 x y).2) := by
        unfold fKnown
        rw [if_neg hc_23, if_neg hnin]
        rw [if_neg (by decide)]
        unfold fRest
        rw [if_neg (by decide), if_neg (by decide)]
      rw [hF]
      exact ⟨rfl, rfl⟩
  -- not taken 23
  · refine v_iconst (pc' := 27) (v := (-1)) X dX9_known_26 (by decide) rfl ?_
    refine v_ireturn X R (Nat.zero_le _) (Nat.zero_le _) dX9_known_27 ?_
    have hF : fKnown M n (tb i) 27 x y z = (M, (-1)) := by
      unfold fKnown
      exact if_pos hc_23
    rw [hF]
    exact ⟨rfl, rfl⟩
set_option maxHeartbeats 4000000 in
set_option maxRecDepth 100000 in
theorem c_X9_known_28 {l : Launch} {D : va_G} {Y : Nat → ClassId} {zz : Nat → Nat} {n sz us pd : Nat} {ad : Nat → Nat} {M : vM} {i ca e r w : Nat} (hi : i < n) (hg : gI M n sz us pd) (hts : ∀ i, i < n → ∃ ca e r w, tI M us (tb i) ca e r w) (hI : tI M us (tb i) ca e r w) (hst1 : M.1 (tb i) 0 = 1) {x y z : Int32} : Ct l D Y zz yX9_known cX9_known 7 (some FieldType.int) 2 47 [.ref (ad (0)), .ref (ad (tb i)), .int 28, .int x, .int y, .int z] (wM Y n ad M) 0 0 (fun r w => r = some (.int (fKnown M n (tb i) 28 x y z).2) ∧ w = wM Y n ad (fKnown M n (tb i) 28 x y z).1) := by
  refine v_entry (by decide +kernel) (Nat.le_of_ble_eq_true rfl) ?_
  intro K X R hR hnm hl hD hY hz
  subst hl hD hY hz
  refine v_sub (lv' := [(0, .ref (ad (0))), (1, .ref (ad (tb i))), (2, .int 28), (3, .int x), (4, .int y), (5, .int z)]) [0, 1, 2, 3, 4, 5] rfl ?_
  obtain ⟨hsz, hsz2, hn2, hn1, hn16, hus, hus2, hpd, hpd2, h17, hfs, hvi, hgl⟩ := id hg
  obtain ⟨h3, hca, h4, he, h5, hr, h6, hw, hso, huq, hct, hctm, hwt, hwtm, hwt0, hpk, hst, hem, hov, hrg, hsv, hrd, hwr, hva⟩ := id hI
  refine v_iload_n (pc' := 1) (i := 2) (j := 2) X dX9_known_0 rfl rfl rfl ?_
  refine v_if_lt (pc' := 4) (tgt := 10) X dX9_known_1 (by decide) rfl (fun hc_1 => absurd hc_1 (by decide)) (fun _ => ?_)
  refine v_iload_n (pc' := 5) (i := 2) (j := 2) X dX9_known_4 rfl rfl rfl ?_
  refine v_bipush (pc' := 7) (v := 29) X dX9_known_5 (by decide) rfl ?_
  refine v_icmp_le (pc' := 10) (tgt := 12) X dX9_known_7 (by decide) rfl (fun _ => ?_) (fun hc_7 => absurd (by decide) hc_7)
  refine v_aload_n (pc' := 13) (i := 0) (j := 0) X dX9_known_12 rfl rfl rfl ?_
  refine v_aload_n (pc' := 14) (i := 1) (j := 1) X dX9_known_13 rfl rfl rfl ?_
  refine v_iload_n (pc' := 15) (i := 2) (j := 2) X dX9_known_14 rfl rfl rfl ?_
  refine v_iload_n (pc' := 16) (i := 3) (j := 3) X dX9_known_15 rfl rfl rfl ?_
  refine v_iload (pc' := 18) (j := 4) X dX9_known_16 rfl rfl ?_
  refine v_iload (pc' := 20) (j := 5) X dX9_known_18 rfl rfl ?_
  refine v_callV (pc' := 23) X (st := []) (c_X9_wrong_28 (M := M) hi (x := x) (y := y) (z := z)) k_X9_wrong w_ml_X9_83 w_im_X9_wrong w_se_X9_X9_wrong (rv_M) (by rw [hR]; exact ⟨Nat.le_of_ble_eq_true rfl, Nat.le_of_ble_eq_true rfl⟩) rfl rfl (Nat.le_of_ble_eq_true rfl) dX9_known_20 rfl (⟨Nat.zero_le _, Nat.zero_le _⟩) ?_
  rintro _ _ ⟨rfl, rfl⟩
  refine v_ifB_eq (pc' := 26) (tgt := 28) X dX9_known_23 (by decide) rfl (fun hc_23 => ?_) (fun hc_23 => ?_)
  -- taken 23
  · refine v_aload_n (pc' := 29) (i := 1) (j := 1) X dX9_known_28 rfl rfl rfl ?_
    refine v_callV (pc' := 32) X (st := []) (c_X8_atomic (M := M) hi (e := e) h4 he) k_X8_atomic w_ml_X9_87 w_im_X8_atomic w_se_X8_X8_atomic (rv_T hi) (by rw [hR]; exact ⟨Nat.le_of_ble_eq_true rfl, Nat.le_of_ble_eq_true rfl⟩) rfl rfl (Nat.le_of_ble_eq_true rfl) dX9_known_29 rfl (⟨Nat.zero_le _, Nat.zero_le _⟩) ?_
    rintro _ _ ⟨rfl, x9, rfl, hx9⟩
    rcases hx9 with ⟨k0, hk0, h0, hf0, rfl⟩ | ⟨hno, rfl⟩
    · have hin : fIn M (tb i) := ⟨k0, by rw [h4, nn_nI (by omega)]; exact hk0, h0⟩
      refine v_if_lt (pc' := 35) (tgt := 39) X dX9_known_32 (by decide) rfl (fun hc_32 => absurd hc_32 (nI_pos (by omega))) (fun _ => ?_)
      refine v_iconst (pc' := 36) (v := 1) X dX9_known_35 (by decide) rfl ?_
      refine v_goto (pc' := 40) X dX9_known_36 (by decide) ?_
      refine v_istore (pc' := 42) (lv' := [(6, .int 1), (0, .ref (ad (0))), (1, .ref (ad (tb i))), (2, .int 28), (3, .int x), (4, .int y), (5, .int z)]) X dX9_known_40 (by decide) rfl rfl ?_
      refine v_iload (pc' := 44) (j := 0) X dX9_known_42 rfl rfl ?_
      refine v_if_eq (pc' := 47) (tgt := 78) X dX9_known_44 (by decide) rfl (fun hc_44 => absurd hc_44 (by decide)) (fun _ => ?_)
      refine v_iload_n (pc' := 48) (i := 2) (j := 3) X dX9_known_47 rfl rfl rfl ?_
      refine v_if_eq (pc' := 51) (tgt := 75) X dX9_known_48 (by decide) rfl (fun hc_48 => absurd hc_48 (by decide)) (fun _ => ?_)
      refine v_iload_n (pc' := 52) (i := 2) (j := 3) X dX9_known_51 rfl rfl rfl ?_
      refine v_bipush (pc' := 54) (v := 18) X dX9_known_52 (by decide) rfl ?_
      refine v_icmp_eq (pc' := 57) (tgt := 75) X dX9_known_54 (by decide) rfl (fun hc_54 => absurd hc_54 (by decide)) (fun _ => ?_)
      refine v_iload_n (pc' := 58) (i := 2) (j := 3) X dX9_known_57 rfl rfl rfl ?_
      refine v_bipush (pc' := 60) (v := 25) X dX9_known_58 (by decide) rfl ?_
      refine v_icmp_eq (pc' := 63) (tgt := 75) X dX9_known_60 (by decide) rfl (fun hc_60 => absurd hc_60 (by decide)) (fun _ => ?_)
      refine v_iload_n (pc' := 64) (i := 2) (j := 3) X dX9_known_63 rfl rfl rfl ?_
      refine v_bipush (pc' := 66) (v := 26) X dX9_known_64 (by decide) rfl ?_
      refine v_icmp_eq (pc' := 69) (tgt := 75) X dX9_known_66 (by decide) rfl (fun hc_66 => absurd hc_66 (by decide)) (fun _ => ?_)
      refine v_iload_n (pc' := 70) (i := 2) (j := 3) X dX9_known_69 rfl rfl rfl ?_
      refine v_bipush (pc' := 72) (v := 27) X dX9_known_70 (by decide) rfl ?_
      refine v_icmp_ne (pc' := 75) (tgt := 78) X dX9_known_72 (by decide) rfl (fun _ => ?_) (fun hc_72 => absurd hc_72 (by decide))
      refine v_iload (pc' := 80) (j := 0) X dX9_known_78 rfl rfl ?_
      refine v_if_ne (pc' := 83) (tgt := 116) X dX9_known_80 (by decide) rfl (fun _ => ?_) (fun hc_80 => absurd hc_80 (by decide))
      refine v_iload_n (pc' := 117) (i := 2) (j := 3) X dX9_known_116 rfl rfl rfl ?_
      refine v_bipush (pc' := 119) (v := 15) X dX9_known_117 (by decide) rfl ?_
      refine v_icmp_le (pc' := 122) (tgt := 128) X dX9_known_119 (by decide) rfl (fun hc_119 => absurd hc_119 (by decide)) (fun _ => ?_)
      refine v_iload_n (pc' := 123) (i := 2) (j := 3) X dX9_known_122 rfl rfl rfl ?_
      refine v_bipush (pc' := 125) (v := 29) X dX9_known_123 (by decide) rfl ?_
      refine v_icmp_ne (pc' := 128) (tgt := 140) X dX9_known_125 (by decide) rfl (fun _ => ?_) (fun hc_125 => absurd hc_125 (by decide))
      refine v_iload_n (pc' := 141) (i := 2) (j := 3) X dX9_known_140 rfl rfl rfl ?_
      refine v_bipush (pc' := 143) (v := 24) X dX9_known_141 (by decide) rfl ?_
      refine v_icmp_gt (pc' := 146) (tgt := 156) X dX9_known_143 (by decide) rfl (fun _ => ?_) (fun hc_143 => absurd (by decide) hc_143)
      refine v_aload_n (pc' := 157) (i := 0) (j := 1) X dX9_known_156 rfl rfl rfl ?_
      refine v_aload_n (pc' := 158) (i := 1) (j := 2) X dX9_known_157 rfl rfl rfl ?_
      refine v_iload_n (pc' := 159) (i := 2) (j := 3) X dX9_known_158 rfl rfl rfl ?_
      refine v_iload_n (pc' := 160) (i := 3) (j := 4) X dX9_known_159 rfl rfl rfl ?_
      refine v_iload (pc' := 162) (j := 5) X dX9_known_160 rfl rfl ?_
      obtain ⟨hx1, hx2⟩ := nrg_not (fun z9 => hc_23 (Or.inl (z9)))
      obtain ⟨hy1, hy2⟩ := ngl_not (fun z9 => hc_23 (Or.inr (z9)))
      refine v_callV (pc' := 165) X (st := []) (c_X9_outer_28 (M := M) hi hg hts hI (x := x) (y := y) hx1 hx2 hy1 hy2) k_X9_outer w_ml_X9_98 w_im_X9_outer w_se_X9_X9_outer (rv_M) (by rw [hR]; exact ⟨Nat.le_of_ble_eq_true rfl, Nat.le_of_ble_eq_true rfl⟩) rfl rfl (Nat.le_of_ble_eq_true rfl) dX9_known_162 rfl (⟨Nat.zero_le _, Nat.zero_le _⟩) ?_
      rintro _ _ ⟨rfl, rfl⟩
      refine v_ireturn X R (Nat.zero_le _) (Nat.zero_le _) dX9_known_165 ?_
      have hF : fKnown M n (tb i) 28 x y z = ((fOuter M n (tb i) 28 x y).1, (fOuter M n (tb i) 28 x y).2) := by
        unfold fKnown
        rw [if_neg hc_23, if_pos hin]
        rw [if_neg (by decide)]
        unfold fRest
        rw [if_neg (by decide), if_neg (by decide)]
      rw [hF]
      exact ⟨rfl, rfl⟩
    · have hnin : ¬ fIn M (tb i) := fun z9 => by obtain ⟨q9, y9, y8⟩ := z9; rw [h4, nn_nI (by omega)] at y9; exact hno q9 y9 y8
      refine v_if_lt (pc' := 35) (tgt := 39) X dX9_known_32 (by decide) rfl (fun _ => ?_) (fun hc_32 => absurd (by decide) hc_32)
      refine v_iconst (pc' := 40) (v := 0) X dX9_known_39 (by decide) rfl ?_
      refine v_istore (pc' := 42) (lv' := [(6, .int 0), (0, .ref (ad (0))), (1, .ref (ad (tb i))), (2, .int 28), (3, .int x), (4, .int y), (5, .int z)]) X dX9_known_40 (by decide) rfl rfl ?_
      refine v_iload (pc' := 44) (j := 0) X dX9_known_42 rfl rfl ?_
      refine v_if_eq (pc' := 47) (tgt := 78) X dX9_known_44 (by decide) rfl (fun _ => ?_) (fun hc_44 => absurd (by decide) hc_44)
      refine v_iload (pc' := 80) (j := 0) X dX9_known_78 rfl rfl ?_
      refine v_if_ne (pc' := 83) (tgt := 116) X dX9_known_80 (by decide) rfl (fun hc_80 => absurd (by decide) hc_80) (fun _ => ?_)
      refine v_iload_n (pc' := 84) (i := 2) (j := 3) X dX9_known_83 rfl rfl rfl ?_
      refine v_bipush (pc' := 86) (v := 16) X dX9_known_84 (by decide) rfl ?_
      refine v_icmp_eq (pc' := 89) (tgt := 113) X dX9_known_86 (by decide) rfl (fun hc_86 => absurd hc_86 (by decide)) (fun _ => ?_)
      refine v_iload_n (pc' := 90) (i := 2) (j := 3) X dX9_known_89 rfl rfl rfl ?_
      refine v_bipush (pc' := 92) (v := 17) X dX9_known_90 (by decide) rfl ?_
      refine v_icmp_eq (pc' := 95) (tgt := 113) X dX9_known_92 (by decide) rfl (fun hc_92 => absurd hc_92 (by decide)) (fun _ => ?_)
      refine v_iload_n (pc' := 96) (i := 2) (j := 3) X dX9_known_95 rfl rfl rfl ?_
      refine v_bipush (pc' := 98) (v := 19) X dX9_known_96 (by decide) rfl ?_
      refine v_icmp_eq (pc' := 101) (tgt := 113) X dX9_known_98 (by decide) rfl (fun hc_98 => absurd hc_98 (by decide)) (fun _ => ?_)
      refine v_iload_n (pc' := 102) (i := 2) (j := 3) X dX9_known_101 rfl rfl rfl ?_
      refine v_bipush (pc' := 104) (v := 20) X dX9_known_102 (by decide) rfl ?_
      refine v_icmp_eq (pc' := 107) (tgt := 113) X dX9_known_104 (by decide) rfl (fun hc_104 => absurd hc_104 (by decide)) (fun _ => ?_)
      refine v_iload_n (pc' := 108) (i := 2) (j := 3) X dX9_known_107 rfl rfl rfl ?_
      refine v_bipush (pc' := 110) (v := 23) X dX9_known_108 (by decide) rfl ?_
      refine v_icmp_ne (pc' := 113) (tgt := 116) X dX9_known_110 (by decide) rfl (fun _ => ?_) (fun hc_110 => absurd hc_110 (by decide))
      refine v_iload_n (pc' := 117) (i := 2) (j := 3) X dX9_known_116 rfl rfl rfl ?_
      refine v_bipush (pc' := 119) (v := 15) X dX9_known_117 (by decide) rfl ?_
      refine v_icmp_le (pc' := 122) (tgt := 128) X dX9_known_119 (by decide) rfl (fun hc_119 => absurd hc_119 (by decide)) (fun _ => ?_)
      refine v_iload_n (pc' := 123) (i := 2) (j := 3) X dX9_known_122 rfl rfl rfl ?_
      refine v_bipush (pc' := 125) (v := 29) X dX9_known_123 (by decide) rfl ?_
      refine v_icmp_ne (pc' := 128) (tgt := 140) X dX9_known_125 (by decide) rfl (fun _ => ?_) (fun hc_125 => absurd hc_125 (by decide))
      refine v_iload_n (pc' := 141) (i := 2) (j := 3) X dX9_known_140 rfl rfl rfl ?_
      refine v_bipush (pc' := 143) (v := 24) X dX9_known_141 (by decide) rfl ?_
      refine v_icmp_gt (pc' := 146) (tgt := 156) X dX9_known_143 (by decide) rfl (fun _ => ?_) (fun hc_143 => absurd (by decide) hc_143)
      refine v_aload_n (pc' := 157) (i := 0) (j := 1) X dX9_known_156 rfl rfl rfl ?_
      refine v_aload_n (pc' := 158) (i := 1) (j := 2) X dX9_known_157 rfl rfl rfl ?_
      refine v_iload_n (pc' := 159) (i := 2) (j := 3) X dX9_known_158 rfl rfl rfl ?_
      refine v_iload_n (pc' := 160) (i := 3) (j := 4) X dX9_known_159 rfl rfl rfl ?_
      refine v_iload (pc' := 162) (j := 5) X dX9_known_160 rfl rfl ?_
      obtain ⟨hx1, hx2⟩ := nrg_not (fun z9 => hc_23 (Or.inl (z9)))
      obtain ⟨hy1, hy2⟩ := ngl_not (fun z9 => hc_23 (Or.inr (z9)))
      refine v_callV (pc' := 165) X (st := []) (c_X9_outer_28 (M := M) hi hg hts hI (x := x) (y := y) hx1 hx2 hy1 hy2) k_X9_outer w_ml_X9_98 w_im_X9_outer w_se_X9_X9_outer (rv_M) (by rw [hR]; exact ⟨Nat.le_of_ble_eq_true rfl, Nat.le_of_ble_eq_true rfl⟩) rfl rfl (Nat.le_of_ble_eq_true rfl) dX9_known_162 rfl (⟨Nat.zero_le _, Nat.zero_le _⟩) ?_
      rintro _ _ ⟨rfl, rfl⟩
      refine v_ireturn X R (Nat.zero_le _) (Nat.zero_le _) dX9_known_165 ?_
      have hF : fKnown M n (tb i) 28 x y z = ((fOuter M n (tb i) 28 x y).1, (fOuter M n (tb i) 28 x y).2) := by
        unfold fKnown
        rw [if_neg hc_23, if_neg hnin]
        rw [if_neg (by decide)]
        unfold fRest
        rw [if_neg (by decide), if_neg (by decide)]
      rw [hF]
      exact ⟨rfl, rfl⟩
  -- not taken 23
  · refine v_iconst (pc' := 27) (v := (-1)) X dX9_known_26 (by decide) rfl ?_
    refine v_ireturn X R (Nat.zero_le _) (Nat.zero_le _) dX9_known_27 ?_
    have hF : fKnown M n (tb i) 28 x y z = (M, (-1)) := by
      unfold fKnown
      exact if_pos hc_23
    rw [hF]
    exact ⟨rfl, rfl⟩
set_option maxHeartbeats 4000000 in
set_option maxRecDepth 100000 in
theorem c_X9_known_29 {l : Launch} {D : va_G} {Y : Nat → ClassId} {zz : Nat → Nat} {n sz us pd : Nat} {ad : Nat → Nat} {M : vM} {i ca e r w : Nat} (hi : i < n) (hg : gI M n sz us pd) (hts : ∀ i, i < n → ∃ ca e r w, tI M us (tb i) ca e r w) (hI : tI M us (tb i) ca e r w) (hst1 : M.1 (tb i) 0 = 1) {x y z : Int32} : Ct l D Y zz yX9_known cX9_known 7 (some FieldType.int) 2 47 [.ref (ad (0)), .ref (ad (tb i)), .int 29, .int x, .int y, .int z] (wM Y n ad M) 0 0 (fun r w => r = some (.int (fKnown M n (tb i) 29 x y z).2) ∧ w = wM Y n ad (fKnown M n (tb i) 29 x y z).1) := by
  refine v_entry (by decide +kernel) (Nat.le_of_ble_eq_true rfl) ?_
  intro K X R hR hnm hl hD hY hz
  subst hl hD hY hz
  refine v_sub (lv' := [(0, .ref (ad (0))), (1, .ref (ad (tb i))), (2, .int 29), (3, .int x), (4, .int y), (5, .int z)]) [0, 1, 2, 3, 4, 5] rfl ?_
  obtain ⟨hsz, hsz2, hn2, hn1, hn16, hus, hus2, hpd, hpd2, h17, hfs, hvi, hgl⟩ := id hg
  obtain ⟨h3, hca, h4, he, h5, hr, h6, hw, hso, huq, hct, hctm, hwt, hwtm, hwt0, hpk, hst, hem, hov, hrg, hsv, hrd, hwr, hva⟩ := id hI
  refine v_iload_n (pc' := 1) (i := 2) (j := 2) X dX9_known_0 rfl rfl rfl ?_
  refine v_if_lt (pc' := 4) (tgt := 10) X dX9_known_1 (by decide) rfl (fun hc_1 => absurd hc_1 (by decide)) (fun _ => ?_)
  refine v_iload_n (pc' := 5) (i := 2) (j := 2) X dX9_known_4 rfl rfl rfl ?_
  refine v_bipush (pc' := 7) (v := 29) X dX9_known_5 (by decide) rfl ?_
  refine v_icmp_le (pc' := 10) (tgt := 12) X dX9_known_7 (by decide) rfl (fun _ => ?_) (fun hc_7 => absurd (by decide) hc_7)
  refine v_aload_n (pc' := 13) (i := 0) (j := 0) X dX9_known_12 rfl rfl rfl ?_
  refine v_aload_n (pc' := 14) (i := 1) (j := 1) X dX9_known_13 rfl rfl rfl ?_
  refine v_iload_n (pc' := 15) (i := 2) (j := 2) X dX9_known_14 rfl rfl rfl ?_
  refine v_iload_n (pc' := 16) (i := 3) (j := 3) X dX9_known_15 rfl rfl rfl ?_
  refine v_iload (pc' := 18) (j := 4) X dX9_known_16 rfl rfl ?_
  refine v_iload (pc' := 20) (j := 5) X dX9_known_18 rfl rfl ?_
  refine v_callV (pc' := 23) X (st := []) (c_X9_wrong_29 (M := M) hi (x := x) (y := y) (z := z)) k_X9_wrong w_ml_X9_83 w_im_X9_wrong w_se_X9_X9_wrong (rv_M) (by rw [hR]; exact ⟨Nat.le_of_ble_eq_true rfl, Nat.le_of_ble_eq_true rfl⟩) rfl rfl (Nat.le_of_ble_eq_true rfl) dX9_known_20 rfl (⟨Nat.zero_le _, Nat.zero_le _⟩) ?_
  rintro _ _ ⟨rfl, rfl⟩
  refine v_ifB_eq (pc' := 26) (tgt := 28) X dX9_known_23 (by decide) rfl (fun hc_23 => ?_) (fun hc_23 => ?_)
  -- taken 23
  · refine v_aload_n (pc' := 29) (i := 1) (j := 1) X dX9_known_28 rfl rfl rfl ?_
    refine v_callV (pc' := 32) X (st := []) (c_X8_atomic (M := M) hi (e := e) h4 he) k_X8_atomic w_ml_X9_87 w_im_X8_atomic w_se_X8_X8_atomic (rv_T hi) (by rw [hR]; exact ⟨Nat.le_of_ble_eq_true rfl, Nat.le_of_ble_eq_true rfl⟩) rfl rfl (Nat.le_of_ble_eq_true rfl) dX9_known_29 rfl (⟨Nat.zero_le _, Nat.zero_le _⟩) ?_
    rintro _ _ ⟨rfl, x9, rfl, hx9⟩
    rcases hx9 with ⟨k0, hk0, h0, hf0, rfl⟩ | ⟨hno, rfl⟩
    · have hin : fIn M (tb i) := ⟨k0, by rw [h4, nn_nI (by omega)]; exact hk0, h0⟩
      refine v_if_lt (pc' := 35) (tgt := 39) X dX9_known_32 (by decide) rfl (fun hc_32 => absurd hc_32 (nI_pos (by omega))) (fun _ => ?_)
      refine v_iconst (pc' := 36) (v := 1) X dX9_known_35 (by decide) rfl ?_
      refine v_goto (pc' := 40) X dX9_known_36 (by decide) ?_
      refine v_istore (pc' := 42) (lv' := [(6, .int 1), (0, .ref (ad (0))), (1, .ref (ad (tb i))), (2, .int 29), (3, .int x), (4, .int y), (5, .int z)]) X dX9_known_40 (by decide) rfl rfl ?_
      refine v_iload (pc' := 44) (j := 0) X dX9_known_42 rfl rfl ?_
      refine v_if_eq (pc' := 47) (tgt := 78) X dX9_known_44 (by decide) rfl (fun hc_44 => absurd hc_44 (by decide)) (fun _ => ?_)
      refine v_iload_n (pc' := 48) (i := 2) (j := 3) X dX9_known_47 rfl rfl rfl ?_
      refine v_if_eq (pc' := 51) (tgt := 75) X dX9_known_48 (by decide) rfl (fun hc_48 => absurd hc_48 (by decide)) (fun _ => ?_)
      refine v_iload_n (pc' := 52) (i := 2) (j := 3) X dX9_known_51 rfl rfl rfl ?_
      refine v_bipush (pc' := 54) (v := 18) X dX9_known_52 (by decide) rfl ?_
      refine v_icmp_eq (pc' := 57) (tgt := 75) X dX9_known_54 (by decide) rfl (fun hc_54 => absurd hc_54 (by decide)) (fun _ => ?_)
      refine v_iload_n (pc' := 58) (i := 2) (j := 3) X dX9_known_57 rfl rfl rfl ?_
      refine v_bipush (pc' := 60) (v := 25) X dX9_known_58 (by decide) rfl ?_
      refine v_icmp_eq (pc' := 63) (tgt := 75) X dX9_known_60 (by decide) rfl (fun hc_60 => absurd hc_60 (by decide)) (fun _ => ?_)
      refine v_iload_n (pc' := 64) (i := 2) (j := 3) X dX9_known_63 rfl rfl rfl ?_
      refine v_bipush (pc' := 66) (v := 26) X dX9_known_64 (by decide) rfl ?_
      refine v_icmp_eq (pc' := 69) (tgt := 75) X dX9_known_66 (by decide) rfl (fun hc_66 => absurd hc_66 (by decide)) (fun _ => ?_)
      refine v_iload_n (pc' := 70) (i := 2) (j := 3) X dX9_known_69 rfl rfl rfl ?_
      refine v_bipush (pc' := 72) (v := 27) X dX9_known_70 (by decide) rfl ?_
      refine v_icmp_ne (pc' := 75) (tgt := 78) X dX9_known_72 (by decide) rfl (fun _ => ?_) (fun hc_72 => absurd hc_72 (by decide))
      refine v_iload (pc' := 80) (j := 0) X dX9_known_78 rfl rfl ?_
      refine v_if_ne (pc' := 83) (tgt := 116) X dX9_known_80 (by decide) rfl (fun _ => ?_) (fun hc_80 => absurd hc_80 (by decide))
      refine v_iload_n (pc' := 117) (i := 2) (j := 3) X dX9_known_116 rfl rfl rfl ?_
      refine v_bipush (pc' := 119) (v := 15) X dX9_known_117 (by decide) rfl ?_
      refine v_icmp_le (pc' := 122) (tgt := 128) X dX9_known_119 (by decide) rfl (fun hc_119 => absurd hc_119 (by decide)) (fun _ => ?_)
      refine v_iload_n (pc' := 123) (i := 2) (j := 3) X dX9_known_122 rfl rfl rfl ?_
      refine v_bipush (pc' := 125) (v := 29) X dX9_known_123 (by decide) rfl ?_
      refine v_icmp_ne (pc' := 128) (tgt := 140) X dX9_known_125 (by decide) rfl (fun hc_125 => absurd (by decide) hc_125) (fun _ => ?_)
      refine v_aload_n (pc' := 129) (i := 0) (j := 1) X dX9_known_128 rfl rfl rfl ?_
      refine v_aload_n (pc' := 130) (i := 1) (j := 2) X dX9_known_129 rfl rfl rfl ?_
      refine v_iload_n (pc' := 131) (i := 2) (j := 3) X dX9_known_130 rfl rfl rfl ?_
      refine v_iload_n (pc' := 132) (i := 3) (j := 4) X dX9_known_131 rfl rfl rfl ?_
      refine v_iload (pc' := 134) (j := 5) X dX9_known_132 rfl rfl ?_
      refine v_iload (pc' := 136) (j := 6) X dX9_known_134 rfl rfl ?_
      obtain ⟨hx1, hx2⟩ := nrg_not (fun z9 => hc_23 (Or.inl (z9)))
      obtain ⟨hy1, hy2⟩ := nrg_not (fun z9 => hc_23 (Or.inr (z9)))
      refine v_callV (pc' := 139) X (st := []) (c_X9_plain_29 (M := M) hi hg hts hI (x := x) (y := y) (z := z) hx1 hx2 hy1 hy2) k_X9_plain w_ml_X9_91 w_im_X9_plain w_se_X9_X9_plain (rv_M) (by rw [hR]; exact ⟨Nat.le_of_ble_eq_true rfl, Nat.le_of_ble_eq_true rfl⟩) rfl rfl (Nat.le_of_ble_eq_true rfl) dX9_known_136 rfl (⟨Nat.zero_le _, Nat.zero_le _⟩) ?_
      rintro _ _ ⟨rfl, rfl⟩
      refine v_ireturn X R (Nat.zero_le _) (Nat.zero_le _) dX9_known_139 ?_
      have hF : fKnown M n (tb i) 29 x y z = ((fPlain M n (tb i) 29 x y z).1, (fPlain M n (tb i) 29 x y z).2) := by
        unfold fKnown
        rw [if_neg hc_23, if_pos hin]
        rw [if_neg (by decide)]
        unfold fRest
        rw [if_pos (by decide)]
      rw [hF]
      exact ⟨rfl, rfl⟩
    · have hnin : ¬ fIn M (tb i) := fun z9 => by obtain ⟨q9, y9, y8⟩ := z9; rw [h4, nn_nI (by omega)] at y9; exact hno q9 y9 y8
      refine v_if_lt (pc' := 35) (tgt := 39) X dX9_known_32 (by decide) rfl (fun _ => ?_) (fun hc_32 => absurd (by decide) hc_32)
      refine v_iconst (pc' := 40) (v := 0) X dX9_known_39 (by decide) rfl ?_
      refine v_istore (pc' := 42) (lv' := [(6, .int 0), (0, .ref (ad (0))), (1, .ref (ad (tb i))), (2, .int 29), (3, .int x), (4, .int y), (5, .int z)]) X dX9_known_40 (by decide) rfl rfl ?_
      refine v_iload (pc' := 44) (j := 0) X dX9_known_42 rfl rfl ?_
      refine v_if_eq (pc' := 47) (tgt := 78) X dX9_known_44 (by decide) rfl (fun _ => ?_) (fun hc_44 => absurd (by decide) hc_44)
      refine v_iload (pc' := 80) (j := 0) X dX9_known_78 rfl rfl ?_
      refine v_if_ne (pc' := 83) (tgt := 116) X dX9_known_80 (by decide) rfl (fun hc_80 => absurd (by decide) hc_80) (fun _ => ?_)
      refine v_iload_n (pc' := 84) (i := 2) (j := 3) X dX9_known_83 rfl rfl rfl ?_
      refine v_bipush (pc' := 86) (v := 16) X dX9_known_84 (by decide) rfl ?_
      refine v_icmp_eq (pc' := 89) (tgt := 113) X dX9_known_86 (by decide) rfl (fun hc_86 => absurd hc_86 (by decide)) (fun _ => ?_)
      refine v_iload_n (pc' := 90) (i := 2) (j := 3) X dX9_known_89 rfl rfl rfl ?_
      refine v_bipush (pc' := 92) (v := 17) X dX9_known_90 (by decide) rfl ?_
      refine v_icmp_eq (pc' := 95) (tgt := 113) X dX9_known_92 (by decide) rfl (fun hc_92 => absurd hc_92 (by decide)) (fun _ => ?_)
      refine v_iload_n (pc' := 96) (i := 2) (j := 3) X dX9_known_95 rfl rfl rfl ?_
      refine v_bipush (pc' := 98) (v := 19) X dX9_known_96 (by decide) rfl ?_
      refine v_icmp_eq (pc' := 101) (tgt := 113) X dX9_known_98 (by decide) rfl (fun hc_98 => absurd hc_98 (by decide)) (fun _ => ?_)
      refine v_iload_n (pc' := 102) (i := 2) (j := 3) X dX9_known_101 rfl rfl rfl ?_
      refine v_bipush (pc' := 104) (v := 20) X dX9_known_102 (by decide) rfl ?_
      refine v_icmp_eq (pc' := 107) (tgt := 113) X dX9_known_104 (by decide) rfl (fun hc_104 => absurd hc_104 (by decide)) (fun _ => ?_)
      refine v_iload_n (pc' := 108) (i := 2) (j := 3) X dX9_known_107 rfl rfl rfl ?_
      refine v_bipush (pc' := 110) (v := 23) X dX9_known_108 (by decide) rfl ?_
      refine v_icmp_ne (pc' := 113) (tgt := 116) X dX9_known_110 (by decide) rfl (fun _ => ?_) (fun hc_110 => absurd hc_110 (by decide))
      refine v_iload_n (pc' := 117) (i := 2) (j := 3) X dX9_known_116 rfl rfl rfl ?_
      refine v_bipush (pc' := 119) (v := 15) X dX9_known_117 (by decide) rfl ?_
      refine v_icmp_le (pc' := 122) (tgt := 128) X dX9_known_119 (by decide) rfl (fun hc_119 => absurd hc_119 (by decide)) (fun _ => ?_)
      refine v_iload_n (pc' := 123) (i := 2) (j := 3) X dX9_known_122 rfl rfl rfl ?_
      refine v_bipush (pc' := 125) (v := 29) X dX9_known_123 (by decide) rfl ?_
      refine v_icmp_ne (pc' := 128) (tgt := 140) X dX9_known_125 (by decide) rfl (fun hc_125 => absurd (by decide) hc_125) (fun _ => ?_)
      refine v_aload_n (pc' := 129) (i := 0) (j := 1) X dX9_known_128 rfl rfl rfl ?_
      refine v_aload_n (pc' := 130) (i := 1) (j := 2) X dX9_known_129 rfl rfl rfl ?_
      refine v_iload_n (pc' := 131) (i := 2) (j := 3) X dX9_known_130 rfl rfl rfl ?_
      refine v_iload_n (pc' := 132) (i := 3) (j := 4) X dX9_known_131 rfl rfl rfl ?_
      refine v_iload (pc' := 134) (j := 5) X dX9_known_132 rfl rfl ?_
      refine v_iload (pc' := 136) (j := 6) X dX9_known_134 rfl rfl ?_
      obtain ⟨hx1, hx2⟩ := nrg_not (fun z9 => hc_23 (Or.inl (z9)))
      obtain ⟨hy1, hy2⟩ := nrg_not (fun z9 => hc_23 (Or.inr (z9)))
      refine v_callV (pc' := 139) X (st := []) (c_X9_plain_29 (M := M) hi hg hts hI (x := x) (y := y) (z := z) hx1 hx2 hy1 hy2) k_X9_plain w_ml_X9_91 w_im_X9_plain w_se_X9_X9_plain (rv_M) (by rw [hR]; exact ⟨Nat.le_of_ble_eq_true rfl, Nat.le_of_ble_eq_true rfl⟩) rfl rfl (Nat.le_of_ble_eq_true rfl) dX9_known_136 rfl (⟨Nat.zero_le _, Nat.zero_le _⟩) ?_
      rintro _ _ ⟨rfl, rfl⟩
      refine v_ireturn X R (Nat.zero_le _) (Nat.zero_le _) dX9_known_139 ?_
      have hF : fKnown M n (tb i) 29 x y z = ((fPlain M n (tb i) 29 x y z).1, (fPlain M n (tb i) 29 x y z).2) := by
        unfold fKnown
        rw [if_neg hc_23, if_neg hnin]
        rw [if_neg (by decide)]
        unfold fRest
        rw [if_pos (by decide)]
      rw [hF]
      exact ⟨rfl, rfl⟩
  -- not taken 23
  · refine v_iconst (pc' := 27) (v := (-1)) X dX9_known_26 (by decide) rfl ?_
    refine v_ireturn X R (Nat.zero_le _) (Nat.zero_le _) dX9_known_27 ?_
    have hF : fKnown M n (tb i) 29 x y z = (M, (-1)) := by
      unfold fKnown
      exact if_pos hc_23
    rw [hF]
    exact ⟨rfl, rfl⟩
