/-! THE CLASS: THE FACE THAT ASKS -/
set_option maxHeartbeats 4000000 in
set_option maxRecDepth 100000 in
theorem c_X7_thread {l : Launch} {D : va_G} {Y : Nat → ClassId} {zz : Nat → Nat} {n s cp cq us : Nat} {ad : Nat → Nat} {M : vM} {N : vM} (hS : Sm M N n s) (hU : IU N n us) (hst9 : l.stackTraces = false) (hq : n ≤ cq ∧ cq ≤ 2 * n + 10) {k what : Int32}  : Cx l D Y zz yX7_thread cX7_thread 4 (some FieldType.int) 6 90 [.ref (ad (0)), .int k, .int what] (wK Y n s cp cq ad M) 1 6 (fun r w => (fThrd N n k what).1 = 0 ∧ r = some (.int (fThrd N n k what).2) ∧ w = wK Y n s cp cq ad M) (fun E w => w = wK Y n s cp cq ad M ∧ ((E = "java/util/NoSuchElementException" ∧ fThrd N n k what = (1, 0)) ∨ (E = "java/lang/IllegalArgumentException" ∧ fThrd N n k what = (2, 0)))) := by
  refine v_entryX (by decide +kernel) (Nat.le_of_ble_eq_true rfl) ?_
  intro K X R hR hnm hd hl hD hY hz
  subst hl hD hY hz
  refine v_sub (lv' := [(0, .ref (ad (0))), (1, .int k), (2, .int what)]) [0, 1, 2] rfl ?_
  have h52 : M.1 5 2 = nI n := hS.2.2.2.2.2.1.1
  have hn16 := hU.n16
  have hq2 : cq < 2 ^ 31 := by omega
  refine v_iload_n (pc' := 1) (i := 1) (j := 1) X dX7_thread_0 rfl rfl rfl ?_
  refine v_if_lt (pc' := 4) (tgt := 15) X dX7_thread_1 (by decide) rfl (fun hc_1 => ?_) (fun hc_1 => ?_)
  -- taken 1
  · have hb : k < 0 ∨ nI n ≤ k := Or.inl hc_1
    have hF : fThrd N n k what = (1, 0) := if_pos hb
    exact x_throw X R hst9 hd (cls := "java/util/NoSuchElementException") (ik := 71) (ic := 73) (by decide +kernel) w_cl_X7_71 w_in_java_util_NoSuchElementException xw_NS_c xw_NS_g xw_NS_n xw_NS_o dX7_thread_15 dX7_thread_18 dX7_thread_19 dX7_thread_22 (by rw [hR]; exact Nat.le_of_ble_eq_true rfl) (by rw [hR]; exact Nat.le_of_ble_eq_true rfl) (by rw [hR]; exact Nat.le_refl 1) (by rw [hR]; exact Nat.le_refl 6) (Nat.le_refl 1) (Nat.le_refl 6) ⟨rfl, Or.inl ⟨rfl, hF⟩⟩
  -- not taken 1
  · refine v_iload_n (pc' := 5) (i := 1) (j := 1) X dX7_thread_4 rfl rfl rfl ?_
    refine v_aload_n (pc' := 6) (i := 0) (j := 0) X dX7_thread_5 rfl rfl rfl ?_
    refine fk_X7_16 (pc' := 9) X dX7_thread_6 rfl ?_
    refine v_callV (pc' := 12) X (st := [.int k]) (c_size5 (M := M)) k_Jx4a65c_size_8abf5 w_ml_X7_59 w_im_Jx4a65c_size_8abf5 w_se_Jx4a65c_Jx4a65c_size_8abf5 rw_L5 (by rw [hR]; exact ⟨Nat.le_of_ble_eq_true rfl, Nat.le_of_ble_eq_true rfl⟩) rfl rfl (Nat.le_of_ble_eq_true rfl) dX7_thread_9 rfl (⟨Nat.zero_le _, Nat.zero_le _⟩) ?_
    rintro _ _ ⟨rfl, rfl⟩
    rw [h52]
    refine v_icmp_lt (pc' := 15) (tgt := 23) X dX7_thread_12 (by decide) rfl (fun hc_12 => ?_) (fun hc_12 => ?_)
    -- taken 12
    · have hnb : ¬ (k < 0 ∨ nI n ≤ k) := fun z9 => z9.elim hc_1 (Int32.not_le.mpr hc_12)
      obtain ⟨i, hi31, rfl⟩ := nI_of (x := k) (fun z9 => hnb (Or.inl z9))
      have hi : i < n := by
        rcases Nat.lt_or_ge i n with y9 | y9
        · exact y9
        · exact absurd (Or.inr (nI_le y9 hi31)) hnb
      have h16 : i < 16 := by omega
      obtain ⟨ca, e, r, w, hI⟩ := hU.at hi
      have hT := hS.T hi
      have h4 := hI.2.2.1
      have he := hI.2.2.2.1
      obtain ⟨⟨r1, r2, r3, r4, r5, r6, r7, r8, r9, r10, r11, r12, r13, r14, r15, r16, r17⟩, h12, hA, hc1⟩ := hT
      rw [h4, nn_nI (by omega)] at hA
      have hF0 : ∀ what : Int32, fThrd N n (nI i) what = _ := fun what => (if_neg hnb).trans (by rw [nn_nI hi31])
      refine v_aload_n (pc' := 24) (i := 0) (j := 0) X dX7_thread_23 rfl rfl rfl ?_
      refine fk_X7_16 (pc' := 27) X dX7_thread_24 rfl ?_
      refine v_iload_n (pc' := 28) (i := 1) (j := 1) X dX7_thread_27 rfl rfl rfl ?_
      refine v_callV (pc' := 31) X (st := []) (c_get5 (M := M) (k := i) hi hq.1 hq2 h52) k_Jx4a65c_get_915e3 w_ml_X7_77 w_im_Jx4a65c_get_915e3 w_se_Jx4a65c_Jx4a65c_get_915e3 rw_L5 (by rw [hR]; exact ⟨Nat.le_of_ble_eq_true rfl, Nat.le_of_ble_eq_true rfl⟩) rfl rfl (Nat.le_of_ble_eq_true rfl) dX7_thread_28 rfl (⟨Nat.zero_le _, Nat.zero_le _⟩) ?_
      rintro _ _ ⟨rfl, rfl⟩
      refine v_castS (pc' := 34) X w_is_X6 w_cl_X7_50 (rw_X6 hi h16) dX7_thread_31 rfl ?_
      refine v_astore_n (pc' := 35) (i := 3) (lv' := [(3, .ref (ad (tb i))), (0, .ref (ad (0))), (1, .int (nI i)), (2, .int what)]) X dX7_thread_34 rfl (by decide) rfl rfl ?_
      refine v_iload_n (pc' := 36) (i := 2) (j := 3) X dX7_thread_35 rfl rfl rfl ?_
      rcases sw_0_7 what with rfl | rfl | rfl | rfl | rfl | rfl | rfl | rfl | hsw
      · refine v_tableIn (off := 48) (tgt := 84) X dX7_thread_36 (by decide) (by decide) (by decide) (by decide) ?_
        refine v_aload_n (pc' := 85) (i := 3) (j := 0) X dX7_thread_84 rfl rfl rfl ?_
        refine fk_X7_81 (pc' := 88) X hi h16 (v := N.1 (tb i) 0) r1 dX7_thread_85 rfl ?_
        refine x_ireturn X R (Nat.zero_le _) (Nat.zero_le _) dX7_thread_88 ?_
        have hF : fThrd N n (nI i) 0 = (0, N.1 (tb i) 0) := by
          unfold fThrd
          rw [if_neg hnb, nn_nI hi31]
          dsimp only
          rw [if_pos rfl]
        exact ⟨by rw [hF], by rw [hF], rfl⟩
      · refine v_tableIn (off := 53) (tgt := 89) X dX7_thread_36 (by decide) (by decide) (by decide) (by decide) ?_
        refine v_aload_n (pc' := 90) (i := 3) (j := 0) X dX7_thread_89 rfl rfl rfl ?_
        refine fk_X7_88 (pc' := 93) X hi h16 (v := N.1 (tb i) 1) r2 dX7_thread_90 rfl ?_
        refine x_ireturn X R (Nat.zero_le _) (Nat.zero_le _) dX7_thread_93 ?_
        have hF : fThrd N n (nI i) 1 = (0, N.1 (tb i) 1) := by
          unfold fThrd
          rw [if_neg hnb, nn_nI hi31]
          dsimp only
          rw [if_neg (by decide), if_pos rfl]
        exact ⟨by rw [hF], by rw [hF], rfl⟩
      · refine v_tableIn (off := 58) (tgt := 94) X dX7_thread_36 (by decide) (by decide) (by decide) (by decide) ?_
        refine v_aload_n (pc' := 95) (i := 3) (j := 0) X dX7_thread_94 rfl rfl rfl ?_
        refine fk_X7_91 (pc' := 98) X hi h16 (v := N.1 (tb i) 2) r3 dX7_thread_95 rfl ?_
        refine x_ireturn X R (Nat.zero_le _) (Nat.zero_le _) dX7_thread_98 ?_
        have hF : fThrd N n (nI i) 2 = (0, N.1 (tb i) 2) := by
          unfold fThrd
          rw [if_neg hnb, nn_nI hi31]
          dsimp only
          rw [if_neg (by decide), if_neg (by decide), if_pos rfl]
        exact ⟨by rw [hF], by rw [hF], rfl⟩
      · refine v_tableIn (off := 63) (tgt := 99) X dX7_thread_36 (by decide) (by decide) (by decide) (by decide) ?_
        refine v_aload_n (pc' := 100) (i := 3) (j := 0) X dX7_thread_99 rfl rfl rfl ?_
        refine fk_X7_94 (pc' := 103) X hi h16 (v := N.1 (tb i) 3) r4 dX7_thread_100 rfl ?_
        refine x_ireturn X R (Nat.zero_le _) (Nat.zero_le _) dX7_thread_103 ?_
        have hF : fThrd N n (nI i) 3 = (0, N.1 (tb i) 3) := by
          unfold fThrd
          rw [if_neg hnb, nn_nI hi31]
          dsimp only
          rw [if_neg (by decide), if_neg (by decide), if_neg (by decide), if_pos rfl]
        exact ⟨by rw [hF], by rw [hF], rfl⟩
      · refine v_tableIn (off := 68) (tgt := 104) X dX7_thread_36 (by decide) (by decide) (by decide) (by decide) ?_
        refine v_aload_n (pc' := 105) (i := 3) (j := 0) X dX7_thread_104 rfl rfl rfl ?_
        refine fk_X7_97 (pc' := 108) X hi h16 (v := N.1 (tb i) 4) h12 dX7_thread_105 rfl ?_
        refine x_ireturn X R (Nat.zero_le _) (Nat.zero_le _) dX7_thread_108 ?_
        have hF : fThrd N n (nI i) 4 = (0, N.1 (tb i) 4) := by
          unfold fThrd
          rw [if_neg hnb, nn_nI hi31]
          dsimp only
          rw [if_neg (by decide), if_neg (by decide), if_neg (by decide), if_neg (by decide), if_pos rfl]
        exact ⟨by rw [hF], by rw [hF], rfl⟩
      · refine v_tableIn (off := 73) (tgt := 109) X dX7_thread_36 (by decide) (by decide) (by decide) (by decide) ?_
        refine v_aload_n (pc' := 110) (i := 3) (j := 0) X dX7_thread_109 rfl rfl rfl ?_
        refine fk_X7_100 (pc' := 113) X hi h16 dX7_thread_110 rfl ?_
        refine fk_X7_104 (pc' := 116) X hi h16 (v := N.1 (tb i) 5) r5 dX7_thread_113 rfl ?_
        refine x_ireturn X R (Nat.zero_le _) (Nat.zero_le _) dX7_thread_116 ?_
        have hF : fThrd N n (nI i) 5 = (0, N.1 (tb i) 5) := by
          unfold fThrd
          rw [if_neg hnb, nn_nI hi31]
          dsimp only
          rw [if_neg (by decide), if_neg (by decide), if_neg (by decide), if_neg (by decide), if_neg (by decide), if_pos rfl]
        exact ⟨by rw [hF], by rw [hF], rfl⟩
      · refine v_tableIn (off := 81) (tgt := 117) X dX7_thread_36 (by decide) (by decide) (by decide) (by decide) ?_
        refine v_aload_n (pc' := 118) (i := 3) (j := 0) X dX7_thread_117 rfl rfl rfl ?_
        refine fk_X7_100 (pc' := 121) X hi h16 dX7_thread_118 rfl ?_
        refine fk_X7_109 (pc' := 124) X hi h16 (v := N.1 (tb i) 6) r6 dX7_thread_121 rfl ?_
        refine x_ireturn X R (Nat.zero_le _) (Nat.zero_le _) dX7_thread_124 ?_
        have hF : fThrd N n (nI i) 6 = (0, N.1 (tb i) 6) := by
          unfold fThrd
          rw [if_neg hnb, nn_nI hi31]
          dsimp only
          rw [if_neg (by decide), if_neg (by decide), if_neg (by decide), if_neg (by decide), if_neg (by decide), if_neg (by decide), if_pos rfl]
        exact ⟨by rw [hF], by rw [hF], rfl⟩
      · refine v_tableIn (off := 89) (tgt := 125) X dX7_thread_36 (by decide) (by decide) (by decide) (by decide) ?_
        refine v_aload_n (pc' := 126) (i := 3) (j := 0) X dX7_thread_125 rfl rfl rfl ?_
        refine v_callVN (pc' := 129) X (st := []) (c_X6_isInTransaction (M := M) hi h16) k_X6_isInTransaction n_ml_X7_112 w_im_X6_isInTransaction w_se_X6_X6_isInTransaction (rw_X6 hi h16) (by rw [hR]; exact ⟨Nat.le_of_ble_eq_true rfl, Nat.le_of_ble_eq_true rfl⟩) rfl rfl (Nat.le_of_ble_eq_true rfl) dX7_thread_126 rfl (⟨Nat.zero_le _, Nat.zero_le _⟩) ?_
        rintro _ _ ⟨rfl, rfl⟩
        refine v_ifB_eq (pc' := 132) (tgt := 142) X dX7_thread_129 (by decide) rfl (fun hc_129 => ?_) (fun hc_129 => ?_)
        -- taken 129
        · refine v_iconst (pc' := 143) (v := (-1)) X dX7_thread_142 (by decide) rfl ?_
          refine x_ireturn X R (Nat.zero_le _) (Nat.zero_le _) dX7_thread_143 ?_
          have hF : fThrd N n (nI i) 7 = (0, (-1)) := by
            unfold fThrd
            rw [if_neg hnb, nn_nI hi31]
            dsimp only
            rw [if_neg (by decide), if_neg (by decide), if_neg (by decide), if_neg (by decide), if_neg (by decide), if_neg (by decide), if_neg (by decide), if_pos rfl, if_neg (show ¬ fIn N (tb i) from fun z9 => hc_129 ((in_iff hA hI).mpr z9))]
          exact ⟨by rw [hF], by rw [hF], rfl⟩
        -- not taken 129
        · refine v_aload_n (pc' := 133) (i := 3) (j := 0) X dX7_thread_132 rfl rfl rfl ?_
          refine fk_X7_100 (pc' := 136) X hi h16 dX7_thread_133 rfl ?_
          refine fk_X7_116 (pc' := 139) X hi h16 (v := N.1 (tb i) 7) r7 dX7_thread_136 rfl ?_
          refine v_goto (pc' := 143) X dX7_thread_139 (by decide) ?_
          refine x_ireturn X R (Nat.zero_le _) (Nat.zero_le _) dX7_thread_143 ?_
          have hF : fThrd N n (nI i) 7 = (0, N.1 (tb i) 7) := by
            unfold fThrd
            rw [if_neg hnb, nn_nI hi31]
            dsimp only
            rw [if_neg (by decide), if_neg (by decide), if_neg (by decide), if_neg (by decide), if_neg (by decide), if_neg (by decide), if_neg (by decide), if_pos rfl, if_pos (show fIn N (tb i) from (in_iff hA hI).mp hc_129)]
          exact ⟨by rw [hF], by rw [hF], rfl⟩
      · refine v_tableOut (tgt := 144) X dX7_thread_36 hsw (by decide) ?_
        have hF : fThrd N n (nI i) what = (2, 0) := by
          unfold fThrd
          rw [if_neg hnb]
          dsimp only
          rw [if_neg (sw_out (k := 0) hsw (by decide) (by decide)), if_neg (sw_out (k := 1) hsw (by decide) (by decide)), if_neg (sw_out (k := 2) hsw (by decide) (by decide)), if_neg (sw_out (k := 3) hsw (by decide) (by decide)), if_neg (sw_out (k := 4) hsw (by decide) (by decide)), if_neg (sw_out (k := 5) hsw (by decide) (by decide)), if_neg (sw_out (k := 6) hsw (by decide) (by decide)), if_neg (sw_out (k := 7) hsw (by decide) (by decide))]
        exact x_throw X R hst9 hd (cls := "java/lang/IllegalArgumentException") (ik := 74) (ic := 76) (by decide +kernel) w_cl_X7_74 w_in_java_lang_IllegalArgumentException xw_IA_c xw_IA_g xw_IA_n xw_IA_o dX7_thread_144 dX7_thread_147 dX7_thread_148 dX7_thread_151 (by rw [hR]; exact Nat.le_of_ble_eq_true rfl) (by rw [hR]; exact Nat.le_of_ble_eq_true rfl) (by rw [hR]; exact Nat.le_refl 1) (by rw [hR]; exact Nat.le_refl 6) (Nat.le_refl 1) (Nat.le_refl 6) ⟨rfl, Or.inr ⟨rfl, hF⟩⟩
    -- not taken 12
    · have hb : k < 0 ∨ nI n ≤ k := Or.inr (Int32.not_lt.mp hc_12)
      have hF : fThrd N n k what = (1, 0) := if_pos hb
      exact x_throw X R hst9 hd (cls := "java/util/NoSuchElementException") (ik := 71) (ic := 73) (by decide +kernel) w_cl_X7_71 w_in_java_util_NoSuchElementException xw_NS_c xw_NS_g xw_NS_n xw_NS_o dX7_thread_15 dX7_thread_18 dX7_thread_19 dX7_thread_22 (by rw [hR]; exact Nat.le_of_ble_eq_true rfl) (by rw [hR]; exact Nat.le_of_ble_eq_true rfl) (by rw [hR]; exact Nat.le_refl 1) (by rw [hR]; exact Nat.le_refl 6) (Nat.le_refl 1) (Nat.le_refl 6) ⟨rfl, Or.inl ⟨rfl, hF⟩⟩
theorem lt_15 {v : Int32} : 15 < v ↔ 16 ≤ v := by
  rw [Int32.lt_iff_toInt_lt, Int32.le_iff_toInt_le]
  show (15 : Int) < _ ↔ (16 : Int) ≤ _
  omega
theorem lt_7 {v : Int32} : 7 < v ↔ 8 ≤ v := by
  rw [Int32.lt_iff_toInt_lt, Int32.le_iff_toInt_le]
  show (7 : Int) < _ ↔ (8 : Int) ≤ _
  omega
set_option maxHeartbeats 4000000 in
set_option maxRecDepth 100000 in
theorem c_X7_register {l : Launch} {D : va_G} {Y : Nat → ClassId} {zz : Nat → Nat} {n s cp cq us : Nat} {ad : Nat → Nat} {M : vM} {N : vM} (hS : Sm M N n s) (hU : IU N n us) (hst9 : l.stackTraces = false) (hq : n ≤ cq ∧ cq ≤ 2 * n + 10) {k x : Int32}  : Cx l D Y zz yX7_register cX7_register 3 (some FieldType.long) 6 90 [.ref (ad (0)), .int k, .int x] (wK Y n s cp cq ad M) 1 6 (fun r w => (fReg N n k x).1 = 0 ∧ r = some (.long (fReg N n k x).2) ∧ w = wK Y n s cp cq ad M) (fun E w => w = wK Y n s cp cq ad M ∧ (E = "java/util/NoSuchElementException" ∧ fReg N n k x = (1, 0))) := by
  refine v_entryX (by decide +kernel) (Nat.le_of_ble_eq_true rfl) ?_
  intro K X R hR hnm hd hl hD hY hz
  subst hl hD hY hz
  refine v_sub (lv' := [(0, .ref (ad (0))), (1, .int k), (2, .int x)]) [0, 1, 2] rfl ?_
  have h52 : M.1 5 2 = nI n := hS.2.2.2.2.2.1.1
  have hn16 := hU.n16
  have hq2 : cq < 2 ^ 31 := by omega
  refine v_iload_n (pc' := 1) (i := 1) (j := 1) X dX7_register_0 rfl rfl rfl ?_
  refine v_if_lt (pc' := 4) (tgt := 25) X dX7_register_1 (by decide) rfl (fun hc_1 => ?_) (fun hc_1 => ?_)
  -- taken 1
  · have hb : (k < 0 ∨ nI n ≤ k) ∨ nrg x := Or.inl (Or.inl hc_1)
    have hF : fReg N n k x = (1, 0) := if_pos hb
    exact x_throw X R hst9 hd (cls := "java/util/NoSuchElementException") (ik := 71) (ic := 73) (by decide +kernel) w_cl_X7_71 w_in_java_util_NoSuchElementException xw_NS_c xw_NS_g xw_NS_n xw_NS_o dX7_register_25 dX7_register_28 dX7_register_29 dX7_register_32 (by rw [hR]; exact Nat.le_of_ble_eq_true rfl) (by rw [hR]; exact Nat.le_of_ble_eq_true rfl) (by rw [hR]; exact Nat.le_refl 1) (by rw [hR]; exact Nat.le_refl 6) (Nat.le_refl 1) (Nat.le_refl 6) ⟨rfl, rfl, hF⟩
  -- not taken 1
  · refine v_iload_n (pc' := 5) (i := 1) (j := 1) X dX7_register_4 rfl rfl rfl ?_
    refine v_aload_n (pc' := 6) (i := 0) (j := 0) X dX7_register_5 rfl rfl rfl ?_
    refine fk_X7_16 (pc' := 9) X dX7_register_6 rfl ?_
    refine v_callV (pc' := 12) X (st := [.int k]) (c_size5 (M := M)) k_Jx4a65c_size_8abf5 w_ml_X7_59 w_im_Jx4a65c_size_8abf5 w_se_Jx4a65c_Jx4a65c_size_8abf5 rw_L5 (by rw [hR]; exact ⟨Nat.le_of_ble_eq_true rfl, Nat.le_of_ble_eq_true rfl⟩) rfl rfl (Nat.le_of_ble_eq_true rfl) dX7_register_9 rfl (⟨Nat.zero_le _, Nat.zero_le _⟩) ?_
    rintro _ _ ⟨rfl, rfl⟩
    rw [h52]
    refine v_icmp_ge (pc' := 15) (tgt := 25) X dX7_register_12 (by decide) rfl (fun hc_12 => ?_) (fun hc_12 => ?_)
    -- taken 12
    · have hb : (k < 0 ∨ nI n ≤ k) ∨ nrg x := Or.inl (Or.inr hc_12)
      have hF : fReg N n k x = (1, 0) := if_pos hb
      exact x_throw X R hst9 hd (cls := "java/util/NoSuchElementException") (ik := 71) (ic := 73) (by decide +kernel) w_cl_X7_71 w_in_java_util_NoSuchElementException xw_NS_c xw_NS_g xw_NS_n xw_NS_o dX7_register_25 dX7_register_28 dX7_register_29 dX7_register_32 (by rw [hR]; exact Nat.le_of_ble_eq_true rfl) (by rw [hR]; exact Nat.le_of_ble_eq_true rfl) (by rw [hR]; exact Nat.le_refl 1) (by rw [hR]; exact Nat.le_refl 6) (Nat.le_refl 1) (Nat.le_refl 6) ⟨rfl, rfl, hF⟩
    -- not taken 12
    · refine v_iload_n (pc' := 16) (i := 2) (j := 2) X dX7_register_15 rfl rfl rfl ?_
      refine v_if_lt (pc' := 19) (tgt := 25) X dX7_register_16 (by decide) rfl (fun hc_16 => ?_) (fun hc_16 => ?_)
      -- taken 16
      · have hb : (k < 0 ∨ nI n ≤ k) ∨ nrg x := Or.inr (Or.inl hc_16)
        have hF : fReg N n k x = (1, 0) := if_pos hb
        exact x_throw X R hst9 hd (cls := "java/util/NoSuchElementException") (ik := 71) (ic := 73) (by decide +kernel) w_cl_X7_71 w_in_java_util_NoSuchElementException xw_NS_c xw_NS_g xw_NS_n xw_NS_o dX7_register_25 dX7_register_28 dX7_register_29 dX7_register_32 (by rw [hR]; exact Nat.le_of_ble_eq_true rfl) (by rw [hR]; exact Nat.le_of_ble_eq_true rfl) (by rw [hR]; exact Nat.le_refl 1) (by rw [hR]; exact Nat.le_refl 6) (Nat.le_refl 1) (Nat.le_refl 6) ⟨rfl, rfl, hF⟩
      -- not taken 16
      · refine v_iload_n (pc' := 20) (i := 2) (j := 2) X dX7_register_19 rfl rfl rfl ?_
        refine v_bipush (pc' := 22) (v := 16) X dX7_register_20 (by decide) rfl ?_
        refine v_icmp_lt (pc' := 25) (tgt := 33) X dX7_register_22 (by decide) rfl (fun hc_22 => ?_) (fun hc_22 => ?_)
        -- taken 22
        · have hnb : ¬ (k < 0 ∨ nI n ≤ k) := fun z9 => z9.elim hc_1 hc_12
          have hnx : ¬ nrg x := fun z9 => z9.elim hc_16 (fun y => absurd hc_22 (Int32.not_lt.mpr (lt_15.mp y)))
          obtain ⟨i, hi31, rfl⟩ := nI_of (x := k) (fun z9 => hnb (Or.inl z9))
          have hi : i < n := by
            rcases Nat.lt_or_ge i n with y9 | y9
            · exact y9
            · exact absurd (Or.inr (nI_le y9 hi31)) hnb
          have h16 : i < 16 := by omega
          obtain ⟨hx1, hx2⟩ := nrg_not hnx
          obtain ⟨j, hj, rfl⟩ : ∃ j, j < 16 ∧ x = nI j := ⟨nn x, hx2, hx1⟩
          refine v_aload_n (pc' := 34) (i := 0) (j := 0) X dX7_register_33 rfl rfl rfl ?_
          refine fk_X7_16 (pc' := 37) X dX7_register_34 rfl ?_
          refine v_iload_n (pc' := 38) (i := 1) (j := 1) X dX7_register_37 rfl rfl rfl ?_
          refine v_callV (pc' := 41) X (st := []) (c_get5 (M := M) (k := i) hi hq.1 hq2 h52) k_Jx4a65c_get_915e3 w_ml_X7_77 w_im_Jx4a65c_get_915e3 w_se_Jx4a65c_Jx4a65c_get_915e3 rw_L5 (by rw [hR]; exact ⟨Nat.le_of_ble_eq_true rfl, Nat.le_of_ble_eq_true rfl⟩) rfl rfl (Nat.le_of_ble_eq_true rfl) dX7_register_38 rfl (⟨Nat.zero_le _, Nat.zero_le _⟩) ?_
          rintro _ _ ⟨rfl, rfl⟩
          refine v_castS (pc' := 44) X w_is_X6 w_cl_X7_50 (rw_X6 hi h16) dX7_register_41 rfl ?_
          refine fk_X7_119 (pc' := 47) X hi h16 dX7_register_44 rfl ?_
          refine v_iload_n (pc' := 48) (i := 2) (j := 2) X dX7_register_47 rfl rfl rfl ?_
          refine ak_G8 (pc' := 49) X hi h16 (v := N.2 (tb i + 8) j) (j) rfl (by omega) (congrFun (hS.reg hi) j) dX7_register_48 rfl ?_
          refine x_lreturn X R (Nat.zero_le _) (Nat.zero_le _) dX7_register_49 ?_
          have hF : fReg N n (nI i) (nI j) = (0, N.2 (tb i + 8) j) := by
            unfold fReg
            rw [if_neg (fun z9 => z9.elim hnb hnx), nn_nI hi31, nn_nI (by omega)]
          exact ⟨by rw [hF], by rw [hF], rfl⟩
        -- not taken 22
        · have hb : (k < 0 ∨ nI n ≤ k) ∨ nrg x := Or.inr (Or.inr (lt_15.mpr (Int32.not_lt.mp hc_22)))
          have hF : fReg N n k x = (1, 0) := if_pos hb
          exact x_throw X R hst9 hd (cls := "java/util/NoSuchElementException") (ik := 71) (ic := 73) (by decide +kernel) w_cl_X7_71 w_in_java_util_NoSuchElementException xw_NS_c xw_NS_g xw_NS_n xw_NS_o dX7_register_25 dX7_register_28 dX7_register_29 dX7_register_32 (by rw [hR]; exact Nat.le_of_ble_eq_true rfl) (by rw [hR]; exact Nat.le_of_ble_eq_true rfl) (by rw [hR]; exact Nat.le_refl 1) (by rw [hR]; exact Nat.le_refl 6) (Nat.le_refl 1) (Nat.le_refl 6) ⟨rfl, rfl, hF⟩
set_option maxHeartbeats 4000000 in
set_option maxRecDepth 100000 in
theorem c_X7_global {l : Launch} {D : va_G} {Y : Nat → ClassId} {zz : Nat → Nat} {n s cp cq us : Nat} {ad : Nat → Nat} {M : vM} {N : vM} (hS : Sm M N n s) (hU : IU N n us) (hst9 : l.stackTraces = false) (hq : n ≤ cq ∧ cq ≤ 2 * n + 10) {k : Int32}  : Cx l D Y zz yX7_global cX7_global 2 (some FieldType.long) 6 90 [.ref (ad (0)), .int k] (wK Y n s cp cq ad M) 1 6 (fun r w => (fGlob N k).1 = 0 ∧ r = some (.long (fGlob N k).2) ∧ w = wK Y n s cp cq ad M) (fun E w => w = wK Y n s cp cq ad M ∧ ((E = "java/util/NoSuchElementException" ∧ fGlob N k = (1, 0)))) := by
  refine v_entryX (by decide +kernel) (Nat.le_of_ble_eq_true rfl) ?_
  intro K X R hR hnm hd hl hD hY hz
  subst hl hD hY hz
  refine v_sub (lv' := [(0, .ref (ad (0))), (1, .int k)]) [0, 1] rfl ?_
  refine v_iload_n (pc' := 1) (i := 1) (j := 1) X dX7_global_0 rfl rfl rfl ?_
  refine v_if_lt (pc' := 4) (tgt := 10) X dX7_global_1 (by decide) rfl (fun hc_1 => ?_) (fun hc_1 => ?_)
  -- taken 1
  · have hF : fGlob N k = (1, 0) := if_pos (Or.inl hc_1)
    exact x_throw X R hst9 hd (cls := "java/util/NoSuchElementException") (ik := 71) (ic := 73) (by decide +kernel) w_cl_X7_71 w_in_java_util_NoSuchElementException xw_NS_c xw_NS_g xw_NS_n xw_NS_o dX7_global_10 dX7_global_13 dX7_global_14 dX7_global_17 (by rw [hR]; exact Nat.le_of_ble_eq_true rfl) (by rw [hR]; exact Nat.le_of_ble_eq_true rfl) (by rw [hR]; exact Nat.le_refl 1) (by rw [hR]; exact Nat.le_refl 6) (Nat.le_refl 1) (Nat.le_refl 6) ⟨rfl, rfl, hF⟩
  -- not taken 1
  · refine v_iload_n (pc' := 5) (i := 1) (j := 1) X dX7_global_4 rfl rfl rfl ?_
    refine v_bipush (pc' := 7) (v := 8) X dX7_global_5 (by decide) rfl ?_
    refine v_icmp_lt (pc' := 10) (tgt := 18) X dX7_global_7 (by decide) rfl (fun hc_7 => ?_) (fun hc_7 => ?_)
    -- taken 7
    · have hnx : ¬ ngl k := fun z9 => z9.elim hc_1 (fun y => absurd hc_7 (Int32.not_lt.mpr (lt_7.mp y)))
      obtain ⟨hx1, hx2⟩ := ngl_not hnx
      obtain ⟨j, hj, rfl⟩ : ∃ j, j < 8 ∧ k = nI j := ⟨nn k, hx2, hx1⟩
      refine v_aload_n (pc' := 19) (i := 0) (j := 0) X dX7_global_18 rfl rfl rfl ?_
      refine fk_X7_19 (pc' := 22) X dX7_global_19 rfl ?_
      refine v_iload_n (pc' := 23) (i := 1) (j := 1) X dX7_global_22 rfl rfl rfl ?_
      refine ak_K14 (pc' := 24) X (v := N.2 14 j) (j) rfl (by omega) (congrFun hS.gl j) dX7_global_23 rfl ?_
      refine x_lreturn X R (Nat.zero_le _) (Nat.zero_le _) dX7_global_24 ?_
      have hF : fGlob N (nI j) = (0, N.2 14 j) := by
        unfold fGlob
        rw [if_neg hnx, nn_nI (by omega)]
      exact ⟨by rw [hF], by rw [hF], rfl⟩
    -- not taken 7
    · have hF : fGlob N k = (1, 0) := if_pos (Or.inr (lt_7.mpr (Int32.not_lt.mp hc_7)))
      exact x_throw X R hst9 hd (cls := "java/util/NoSuchElementException") (ik := 71) (ic := 73) (by decide +kernel) w_cl_X7_71 w_in_java_util_NoSuchElementException xw_NS_c xw_NS_g xw_NS_n xw_NS_o dX7_global_10 dX7_global_13 dX7_global_14 dX7_global_17 (by rw [hR]; exact Nat.le_of_ble_eq_true rfl) (by rw [hR]; exact Nat.le_of_ble_eq_true rfl) (by rw [hR]; exact Nat.le_refl 1) (by rw [hR]; exact Nat.le_refl 6) (Nat.le_refl 1) (Nat.le_refl 6) ⟨rfl, rfl, hF⟩
set_option maxHeartbeats 4000000 in
set_option maxRecDepth 100000 in
theorem c_X7_place {l : Launch} {D : va_G} {Y : Nat → ClassId} {zz : Nat → Nat} {n s cp cq us : Nat} {ad : Nat → Nat} {M : vM} {N : vM} (hS : Sm M N n s) (hU : IU N n us) (hst9 : l.stackTraces = false) (hq : n ≤ cq ∧ cq ≤ 2 * n + 10) {p what : Int32}  : Cx l D Y zz yX7_place cX7_place 3 (some FieldType.long) 6 90 [.ref (ad (0)), .int p, .int what] (wK Y n s cp cq ad M) 1 6 (fun r w => (fPlace N p what).1 = 0 ∧ r = some (.long (fPlace N p what).2) ∧ w = wK Y n s cp cq ad M) (fun E w => w = wK Y n s cp cq ad M ∧ ((E = "java/util/NoSuchElementException" ∧ fPlace N p what = (1, 0)) ∨ (E = "java/lang/IllegalArgumentException" ∧ fPlace N p what = (2, 0)))) := by
  refine v_entryX (by decide +kernel) (Nat.le_of_ble_eq_true rfl) ?_
  intro K X R hR hnm hd hl hD hY hz
  subst hl hD hY hz
  refine v_sub (lv' := [(0, .ref (ad (0))), (1, .int p), (2, .int what)]) [0, 1, 2] rfl ?_
  have hu := hU.us
  obtain ⟨hu5, hH⟩ := hS.v hU
  have h3 := hU.g3
  refine v_iload_n (pc' := 1) (i := 1) (j := 1) X dX7_place_0 rfl rfl rfl ?_
  refine v_if_lt (pc' := 4) (tgt := 15) X dX7_place_1 (by decide) rfl (fun hc_1 => ?_) (fun hc_1 => ?_)
  -- taken 1
  · have hF : fPlace N p what = (1, 0) := if_pos (by rw [h3]; exact Or.inl hc_1)
    exact x_throw X R hst9 hd (cls := "java/util/NoSuchElementException") (ik := 71) (ic := 73) (by decide +kernel) w_cl_X7_71 w_in_java_util_NoSuchElementException xw_NS_c xw_NS_g xw_NS_n xw_NS_o dX7_place_15 dX7_place_18 dX7_place_19 dX7_place_22 (by rw [hR]; exact Nat.le_of_ble_eq_true rfl) (by rw [hR]; exact Nat.le_of_ble_eq_true rfl) (by rw [hR]; exact Nat.le_refl 1) (by rw [hR]; exact Nat.le_refl 6) (Nat.le_refl 1) (Nat.le_refl 6) ⟨rfl, Or.inl ⟨rfl, hF⟩⟩
  -- not taken 1
  · refine v_iload_n (pc' := 5) (i := 1) (j := 1) X dX7_place_4 rfl rfl rfl ?_
    refine v_aload_n (pc' := 6) (i := 0) (j := 0) X dX7_place_5 rfl rfl rfl ?_
    refine fk_X7_26 (pc' := 9) X dX7_place_6 rfl ?_
    refine fk_X7_122 (pc' := 12) X (v := nI us) hu5 dX7_place_9 rfl ?_
    refine v_icmp_lt (pc' := 15) (tgt := 23) X dX7_place_12 (by decide) rfl (fun hc_12 => ?_) (fun hc_12 => ?_)
    -- taken 12
    · have hnb : ¬ (p < 0 ∨ N.1 0 3 ≤ p) := by rw [h3]; exact fun z9 => z9.elim hc_1 (Int32.not_le.mpr hc_12)
      obtain ⟨j, hj31, rfl⟩ := nI_of (x := p) hc_1
      have hju : j < us := lt_of_nI hc_12 hj31 (by omega)
      obtain ⟨k1, k2, k3⟩ := hH j hju
      refine v_iload_n (pc' := 24) (i := 2) (j := 2) X dX7_place_23 rfl rfl rfl ?_
      rcases sw_0_2 what with rfl | rfl | rfl | hsw
      · refine v_tableIn (off := 28) (tgt := 52) X dX7_place_24 (by decide) (by decide) (by decide) (by decide) ?_
        refine v_aload_n (pc' := 53) (i := 0) (j := 0) X dX7_place_52 rfl rfl rfl ?_
        refine fk_X7_26 (pc' := 56) X dX7_place_53 rfl ?_
        refine fk_X7_125 (pc' := 59) X dX7_place_56 rfl ?_
        refine v_iload_n (pc' := 60) (i := 1) (j := 1) X dX7_place_59 rfl rfl rfl ?_
        refine ak_K17 (pc' := 61) X (v := if N.1 17 j = 0 then (2 : Int32) else 1) (j) rfl (by omega) k1 dX7_place_60 rfl ?_
        refine v_i2l (pc' := 62) X dX7_place_61 rfl rfl ?_
        refine x_lreturn X R (Nat.zero_le _) (Nat.zero_le _) dX7_place_62 ?_
        have hF : fPlace N (nI j) 0 = (0, (if N.1 17 j = 0 then (2 : Int32) else 1).toInt64) := by
          unfold fPlace
          rw [if_neg hnb, if_pos rfl, nn_nI hj31]
          split <;> rfl
        exact ⟨by rw [hF], by rw [hF], rfl⟩
      · refine v_tableIn (off := 39) (tgt := 63) X dX7_place_24 (by decide) (by decide) (by decide) (by decide) ?_
        refine v_aload_n (pc' := 64) (i := 0) (j := 0) X dX7_place_63 rfl rfl rfl ?_
        refine fk_X7_26 (pc' := 67) X dX7_place_64 rfl ?_
        refine fk_X7_129 (pc' := 70) X dX7_place_67 rfl ?_
        refine v_iload_n (pc' := 71) (i := 1) (j := 1) X dX7_place_70 rfl rfl rfl ?_
        refine ak_K15 (pc' := 72) X (v := N.2 15 j) (j) rfl (by omega) k2 dX7_place_71 rfl ?_
        refine x_lreturn X R (Nat.zero_le _) (Nat.zero_le _) dX7_place_72 ?_
        have hF : fPlace N (nI j) 1 = (0, N.2 15 j) := by
          unfold fPlace
          rw [if_neg hnb, if_neg (by decide), if_pos rfl, nn_nI hj31]
        exact ⟨by rw [hF], by rw [hF], rfl⟩
      · refine v_tableIn (off := 49) (tgt := 73) X dX7_place_24 (by decide) (by decide) (by decide) (by decide) ?_
        refine v_aload_n (pc' := 74) (i := 0) (j := 0) X dX7_place_73 rfl rfl rfl ?_
        refine fk_X7_26 (pc' := 77) X dX7_place_74 rfl ?_
        refine fk_X7_132 (pc' := 80) X dX7_place_77 rfl ?_
        refine v_iload_n (pc' := 81) (i := 1) (j := 1) X dX7_place_80 rfl rfl rfl ?_
        refine ak_K16 (pc' := 82) X (v := if N.1 17 j = 0 then (N.1 19 j).toInt64 else N.2 16 j) (j) rfl (by omega) k3 dX7_place_81 rfl ?_
        refine x_lreturn X R (Nat.zero_le _) (Nat.zero_le _) dX7_place_82 ?_
        have hF : fPlace N (nI j) 2 = (0, if N.1 17 j = 0 then (N.1 19 j).toInt64 else N.2 16 j) := by
          unfold fPlace
          rw [if_neg hnb, if_neg (by decide), if_neg (by decide), if_pos rfl, nn_nI hj31]
        exact ⟨by rw [hF], by rw [hF], rfl⟩
      · refine v_tableOut (tgt := 83) X dX7_place_24 hsw (by decide) ?_
        have hF : fPlace N (nI j) what = (2, 0) := by
          unfold fPlace
          rw [if_neg hnb, if_neg (sw_out (k := 0) hsw (by decide) (by decide)), if_neg (sw_out (k := 1) hsw (by decide) (by decide)), if_neg (sw_out (k := 2) hsw (by decide) (by decide))]
        exact x_throw X R hst9 hd (cls := "java/lang/IllegalArgumentException") (ik := 74) (ic := 76) (by decide +kernel) w_cl_X7_74 w_in_java_lang_IllegalArgumentException xw_IA_c xw_IA_g xw_IA_n xw_IA_o dX7_place_83 dX7_place_86 dX7_place_87 dX7_place_90 (by rw [hR]; exact Nat.le_of_ble_eq_true rfl) (by rw [hR]; exact Nat.le_of_ble_eq_true rfl) (by rw [hR]; exact Nat.le_refl 1) (by rw [hR]; exact Nat.le_refl 6) (Nat.le_refl 1) (Nat.le_refl 6) ⟨rfl, Or.inr ⟨rfl, hF⟩⟩
    -- not taken 12
    · have hF : fPlace N p what = (1, 0) := if_pos (by rw [h3]; exact Or.inr (Int32.not_lt.mp hc_12))
      exact x_throw X R hst9 hd (cls := "java/util/NoSuchElementException") (ik := 71) (ic := 73) (by decide +kernel) w_cl_X7_71 w_in_java_util_NoSuchElementException xw_NS_c xw_NS_g xw_NS_n xw_NS_o dX7_place_15 dX7_place_18 dX7_place_19 dX7_place_22 (by rw [hR]; exact Nat.le_of_ble_eq_true rfl) (by rw [hR]; exact Nat.le_of_ble_eq_true rfl) (by rw [hR]; exact Nat.le_refl 1) (by rw [hR]; exact Nat.le_refl 6) (Nat.le_refl 1) (Nat.le_refl 6) ⟨rfl, Or.inl ⟨rfl, hF⟩⟩
set_option maxHeartbeats 4000000 in
set_option maxRecDepth 100000 in
theorem c_X7_output {l : Launch} {D : va_G} {Y : Nat → ClassId} {zz : Nat → Nat} {n s cp cq us : Nat} {ad : Nat → Nat} {M : vM} {N : vM} (hS : Sm M N n s) (hU : IU N n us) (hst9 : l.stackTraces = false) (hq : n ≤ cq ∧ cq ≤ 2 * n + 10) {k : Int32}  : Cx l D Y zz yX7_output cX7_output 2 (some FieldType.int) 6 90 [.ref (ad (0)), .int k] (wK Y n s cp cq ad M) 1 6 (fun r w => (fOutp N k).1 = 0 ∧ r = some (.int (fOutp N k).2) ∧ w = wK Y n s cp cq ad M) (fun E w => w = wK Y n s cp cq ad M ∧ ((E = "java/lang/IndexOutOfBoundsException" ∧ fOutp N k = (1, 0)))) := by
  refine v_entryX (by decide +kernel) (Nat.le_of_ble_eq_true rfl) ?_
  intro K X R hR hnm hd hl hD hY hz
  subst hl hD hY hz
  refine v_sub (lv' := [(0, .ref (ad (0))), (1, .int k)]) [0, 1] rfl ?_
  obtain ⟨pd, od, p1, p2, p3, p4, p5, p6⟩ := hS.2.2.2.1
  refine v_iload_n (pc' := 1) (i := 1) (j := 1) X dX7_output_0 rfl rfl rfl ?_
  refine v_if_lt (pc' := 4) (tgt := 15) X dX7_output_1 (by decide) rfl (fun hc_1 => ?_) (fun hc_1 => ?_)
  -- taken 1
  · have hF : fOutp N k = (1, 0) := if_pos (by rw [p5]; exact Or.inl hc_1)
    exact x_throw X R hst9 hd (cls := "java/lang/IndexOutOfBoundsException") (ik := 138) (ic := 140) (by decide +kernel) w_cl_X7_138 w_in_java_lang_IndexOutOfBoundsException xw_IB_c xw_IB_g xw_IB_n xw_IB_o dX7_output_15 dX7_output_18 dX7_output_19 dX7_output_22 (by rw [hR]; exact Nat.le_of_ble_eq_true rfl) (by rw [hR]; exact Nat.le_of_ble_eq_true rfl) (by rw [hR]; exact Nat.le_refl 1) (by rw [hR]; exact Nat.le_refl 6) (Nat.le_refl 1) (Nat.le_refl 6) ⟨rfl, rfl, hF⟩
  -- not taken 1
  · refine v_iload_n (pc' := 5) (i := 1) (j := 1) X dX7_output_4 rfl rfl rfl ?_
    refine v_aload_n (pc' := 6) (i := 0) (j := 0) X dX7_output_5 rfl rfl rfl ?_
    refine fk_X7_33 (pc' := 9) X dX7_output_6 rfl ?_
    refine fk_X7_135 (pc' := 12) X (v := nI pd) p3 dX7_output_9 rfl ?_
    refine v_icmp_lt (pc' := 15) (tgt := 23) X dX7_output_12 (by decide) rfl (fun hc_12 => ?_) (fun hc_12 => ?_)
    -- taken 12
    · have hnb : ¬ (k < 0 ∨ N.1 0 8 ≤ k) := by rw [p5]; exact fun z9 => z9.elim hc_1 (Int32.not_le.mpr hc_12)
      obtain ⟨j, hj31, rfl⟩ := nI_of (x := k) hc_1
      have hju : j < pd := lt_of_nI hc_12 hj31 (by omega)
      refine v_aload_n (pc' := 24) (i := 0) (j := 0) X dX7_output_23 rfl rfl rfl ?_
      refine fk_X7_33 (pc' := 27) X dX7_output_24 rfl ?_
      refine v_iload_n (pc' := 28) (i := 1) (j := 1) X dX7_output_27 rfl rfl rfl ?_
      refine v_callVN (pc' := 31) X (st := []) (c_X5_numberAt (M := M) p1 p2 p3 p4 (k := j) (by omega)) k_X5_numberAt n_ml_X7_141 w_im_X5_numberAt w_se_X5_X5_numberAt rw_X5 (by rw [hR]; exact ⟨Nat.le_of_ble_eq_true rfl, Nat.le_of_ble_eq_true rfl⟩) rfl rfl (Nat.le_of_ble_eq_true rfl) dX7_output_28 rfl (⟨Nat.zero_le _, Nat.zero_le _⟩) ?_
      rintro _ _ ⟨rfl, rfl⟩
      rw [p6 j hju]
      refine x_ireturn X R (Nat.zero_le _) (Nat.zero_le _) dX7_output_31 ?_
      have hF : fOutp N (nI j) = (0, N.1 21 j) := by
        unfold fOutp
        rw [if_neg hnb, nn_nI hj31]
      exact ⟨by rw [hF], by rw [hF], rfl⟩
    -- not taken 12
    · have hF : fOutp N k = (1, 0) := if_pos (by rw [p5]; exact Or.inr (Int32.not_lt.mp hc_12))
      exact x_throw X R hst9 hd (cls := "java/lang/IndexOutOfBoundsException") (ik := 138) (ic := 140) (by decide +kernel) w_cl_X7_138 w_in_java_lang_IndexOutOfBoundsException xw_IB_c xw_IB_g xw_IB_n xw_IB_o dX7_output_15 dX7_output_18 dX7_output_19 dX7_output_22 (by rw [hR]; exact Nat.le_of_ble_eq_true rfl) (by rw [hR]; exact Nat.le_of_ble_eq_true rfl) (by rw [hR]; exact Nat.le_refl 1) (by rw [hR]; exact Nat.le_refl 6) (Nat.le_refl 1) (Nat.le_refl 6) ⟨rfl, rfl, hF⟩
