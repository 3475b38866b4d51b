/-! READING, RETRYING, THROWING (reference) -/
/-- the number before q, as the machine counts down -/
def kq (q : Nat) : Int32 := nI q - 1
theorem kq_0 : kq 0 = -1 := by decide
theorem kq_s (q : Nat) : kq (q + 1) = nI q := nI_pred q
theorem kq_d (q : Nat) : nI q + Int32.ofInt (-1) = kq q := by
  rw [show Int32.ofInt (-1) = -1 by decide]
  exact (Int32.sub_eq_add_neg _ _).symm
theorem i40_lt {r : Nat} (h : ¬ nI r = 40) (h2 : r ≤ 40) : r < 40 := by
  rcases Nat.lt_or_ge r 40 with q9 | q9
  · exact q9
  · exact absurd (congrArg nI (show r = 40 by omega)) h
theorem i40_eq {r : Nat} (h : nI r = 40) (h2 : r ≤ 40) : r = 40 := eq_of_nI (b := 40) h (by omega) (by omega)
set_option maxHeartbeats 4000000 in
set_option maxRecDepth 100000 in
/-- reading(t, x, v) -/
theorem c_X9_reading {l : Launch} {D : va_G} {Y : Nat → ClassId} {z : Nat → Nat} {n : Nat} {ad : Nat → Nat} {M : vM} {i e k nw r jx : Nat} (hi : i < n) (hne : M.1 (tb i) 4 = nI e) (he : e ≤ 24) (hk : k < e) (h0 : M.1 (tb i + 11) k = 0) (hfirst : ∀ j, j < k → M.1 (tb i + 11) j ≠ 0) (hnw : M.1 (tb i) 6 = nI nw) (hw : nw ≤ 40) (hnr : M.1 (tb i) 5 = nI r) (hr : r ≤ 40) {x : Int32} (hx : x = nI jx) (hjx : jx < 16) {v : Int64} (hpl : plOk v) : Ct l D Y z yX9_reading cX9_reading 6 (some FieldType.int) 3 65 [.ref (ad (0)), .ref (ad (tb i)), .int x, .long v] (wM Y n ad M) 0 0 (fun r w => r = some (.int (fReading M (tb i) jx v).2) ∧ w = wM Y n ad (fReading M (tb i) jx v).1) := by
  refine v_entry (by decide +kernel) (Nat.le_of_ble_eq_true rfl) ?_
  intro K X R hR hnm hl hD hY hz
  subst hl hD hY hz
  refine v_sub (lv' := [(0, .ref (ad (0))), (1, .ref (ad (tb i))), (2, .int x), (3, .long v)]) [0, 1, 2, 3] rfl ?_
  have hpl1 := hpl.1
  refine v_aload_n (pc' := 1) (i := 1) (j := 1) X dX9_reading_0 rfl rfl rfl ?_
  refine fg_X9_172 (pc' := 4) X hi (v := nI nw) hnw dX9_reading_1 rfl ?_
  refine v_iconst (pc' := 5) (v := 1) X dX9_reading_4 (by decide) rfl ?_
  refine v_isub (pc' := 6) X dX9_reading_5 rfl ?_
  refine v_istore (pc' := 8) (lv' := [(5, .int (kq nw)), (0, .ref (ad (0))), (1, .ref (ad (tb i))), (2, .int x), (3, .long v)]) X dX9_reading_6 (by decide) rfl rfl ?_
  have hloop : ∀ (dd_hloop : Nat) (q : Nat), q < dd_hloop → (q ≤ nw) → (lastW (M.2 (tb i + 16)) nw v = lastW (M.2 (tb i + 16)) q v) → V K 6 (wM (kY K) n ad M) 0 0 8 [(5, .int (kq q)), (3, .long v), (2, .int x), (1, .ref (ad (tb i))), (0, .ref (ad (0)))] [] := by
    intro dd_hloop
    induction dd_hloop with
    | zero => intro q hlt_hloop; exact absurd hlt_hloop (Nat.not_lt_zero _)
    | succ dd_hloop ih_hloop =>
      intro q hlt_hloop hq hlw
      cases q with
      | zero =>
        rw [kq_0]
        refine v_iload (pc' := 10) (j := 0) X dX9_reading_8 rfl rfl ?_
        refine v_if_lt (pc' := 13) (tgt := 49) X dX9_reading_10 (by decide) rfl (fun _ => ?_) (fun hc_10 => absurd (by decide) hc_10)
        refine v_aload_n (pc' := 50) (i := 0) (j := 4) X dX9_reading_49 rfl rfl rfl ?_
        refine fg_X9_49 (pc' := 53) X dX9_reading_50 rfl ?_
        refine v_lload_n (pc' := 54) (i := 3) (j := 1) X dX9_reading_53 rfl rfl rfl ?_
        refine v_callS (pc' := 57) X (st := [.ref (ad (19))]) (c_X9_place (n := n) (ad := ad) (M := M) (v := v)) k_X9_place w_ml_X9_137 w_st_X9_place (by rw [hR]; exact ⟨Nat.le_of_ble_eq_true rfl, Nat.le_of_ble_eq_true rfl⟩) rfl rfl (Nat.le_of_ble_eq_true rfl) dX9_reading_54 rfl (⟨Nat.zero_le _, Nat.zero_le _⟩) ?_
        rintro _ _ ⟨rfl, rfl⟩
        refine ag_M19 (pc' := 58) X (v := M.1 19 (pl v)) (pl v) hpl.2 (by omega) rfl dX9_reading_57 rfl ?_
        refine v_aload_n (pc' := 59) (i := 1) (j := 3) X dX9_reading_58 rfl rfl rfl ?_
        refine fg_X9_155 (pc' := 62) X hi (v := M.1 (tb i) 7) rfl dX9_reading_59 rfl ?_
        refine v_icmp_le (pc' := 65) (tgt := 71) X dX9_reading_62 (by decide) rfl (fun hc_62 => ?_) (fun hc_62 => ?_)
        -- taken 62
        · refine v_aload_n (pc' := 72) (i := 1) (j := 3) X dX9_reading_71 rfl rfl rfl ?_
          refine v_lload_n (pc' := 73) (i := 3) (j := 1) X dX9_reading_72 rfl rfl rfl ?_
          refine v_callV (pc' := 76) X (st := []) (c_X8_hasRead (M := M) hi (e := r) hnr hr (v := v)) k_X8_hasRead w_ml_X9_205 w_im_X8_hasRead w_se_X8_X8_hasRead (rv_T hi) (by rw [hR]; exact ⟨Nat.le_of_ble_eq_true rfl, Nat.le_of_ble_eq_true rfl⟩) rfl rfl (Nat.le_of_ble_eq_true rfl) dX9_reading_73 rfl (⟨Nat.zero_le _, Nat.zero_le _⟩) ?_
          rintro _ _ ⟨rfl, x9, rfl, hx9⟩
          rcases hx9 with ⟨rfl, hmem⟩ | ⟨rfl, hmem⟩
          · refine v_if_ne (pc' := 79) (tgt := 111) X dX9_reading_76 (by decide) rfl (fun _ => ?_) (fun hc_76 => absurd hc_76 (by decide))
            refine v_aload_n (pc' := 112) (i := 1) (j := 3) X dX9_reading_111 rfl rfl rfl ?_
            refine fg_X9_105 (pc' := 115) X hi dX9_reading_112 rfl ?_
            refine v_iload_n (pc' := 116) (i := 2) (j := 2) X dX9_reading_115 rfl rfl rfl ?_
            refine v_aload_n (pc' := 117) (i := 0) (j := 4) X dX9_reading_116 rfl rfl rfl ?_
            refine fg_X9_36 (pc' := 120) X dX9_reading_117 rfl ?_
            refine v_lload_n (pc' := 121) (i := 3) (j := 1) X dX9_reading_120 rfl rfl rfl ?_
            refine v_callS (pc' := 124) X (st := [.ref (ad (15)), .int x, .ref (ad (tb i + 8))]) (c_X9_place (n := n) (ad := ad) (M := M) (v := v)) k_X9_place w_ml_X9_137 w_st_X9_place (by rw [hR]; exact ⟨Nat.le_of_ble_eq_true rfl, Nat.le_of_ble_eq_true rfl⟩) rfl rfl (Nat.le_of_ble_eq_true rfl) dX9_reading_121 rfl (⟨Nat.zero_le _, Nat.zero_le _⟩) ?_
            rintro _ _ ⟨rfl, rfl⟩
            refine ag_M15 (pc' := 125) X (v := M.2 15 (pl v)) (pl v) hpl.2 (by omega) rfl dX9_reading_124 rfl ?_
            refine as_T8 (pc' := 126) X hi (jx) hx (by omega) dX9_reading_125 rfl ?_
            refine v_iconst (pc' := 127) (v := 0) X dX9_reading_126 (by decide) rfl ?_
            refine v_ireturn X R (Nat.zero_le _) (Nat.zero_le _) dX9_reading_127 ?_
            have hF : fReading M (tb i) jx v = ((mL M (tb i + 8) jx (M.2 15 (pl v))), 0) := by
              unfold fReading
              rw [hnw, nn_nI (by omega), hlw]
              rw [show lastW (M.2 (tb i + 16)) 0 v = none from rfl]
              show (if M.1 (tb i) 7 < M.1 19 (pl v) then _ else _) = _
              rw [if_neg (Int32.not_lt.mpr hc_62), hnr, nn_nI (by omega)]
              rw [if_pos hmem]
            rw [hF]
            exact ⟨rfl, rfl⟩
          · refine v_if_ne (pc' := 79) (tgt := 111) X dX9_reading_76 (by decide) rfl (fun hc_76 => absurd (by decide) hc_76) (fun _ => ?_)
            refine v_aload_n (pc' := 80) (i := 1) (j := 3) X dX9_reading_79 rfl rfl rfl ?_
            refine fg_X9_149 (pc' := 83) X hi (v := nI r) hnr dX9_reading_80 rfl ?_
            refine v_bipush (pc' := 85) (v := 40) X dX9_reading_83 (by decide) rfl ?_
            refine v_icmp_ne (pc' := 88) (tgt := 91) X dX9_reading_85 (by decide) rfl (fun hc_85 => ?_) (fun hc_85 => ?_)
            -- taken 85
            · have hr40 := i40_lt hc_85 hr
              refine v_aload_n (pc' := 92) (i := 1) (j := 3) X dX9_reading_91 rfl rfl rfl ?_
              refine fg_X9_152 (pc' := 95) X hi dX9_reading_92 rfl ?_
              refine v_aload_n (pc' := 96) (i := 1) (j := 3) X dX9_reading_95 rfl rfl rfl ?_
              refine fg_X9_149 (pc' := 99) X hi (v := nI r) hnr dX9_reading_96 rfl ?_
              refine v_lload_n (pc' := 100) (i := 3) (j := 1) X dX9_reading_99 rfl rfl rfl ?_
              refine as_T15 (pc' := 101) X hi (r) rfl (by omega) dX9_reading_100 rfl ?_
              refine v_aload_n (pc' := 102) (i := 1) (j := 3) X dX9_reading_101 rfl rfl rfl ?_
              refine v_dup (pc' := 103) X dX9_reading_102 rfl rfl ?_
              refine fg_X9_149 (pc' := 106) X hi (v := nI r) hnr dX9_reading_103 rfl ?_
              refine v_iconst (pc' := 107) (v := 1) X dX9_reading_106 (by decide) rfl ?_
              refine v_iaddV (pc' := 108) (v := nI (r + 1)) X (nI_add (r) 1) dX9_reading_107 rfl ?_
              refine fp_X9_149 (pc' := 111) X hi dX9_reading_108 rfl ?_
              refine v_aload_n (pc' := 112) (i := 1) (j := 3) X dX9_reading_111 rfl rfl rfl ?_
              refine fg_X9_105 (pc' := 115) X hi dX9_reading_112 rfl ?_
              refine v_iload_n (pc' := 116) (i := 2) (j := 2) X dX9_reading_115 rfl rfl rfl ?_
              refine v_aload_n (pc' := 117) (i := 0) (j := 4) X dX9_reading_116 rfl rfl rfl ?_
              refine fg_X9_36 (pc' := 120) X dX9_reading_117 rfl ?_
              refine v_lload_n (pc' := 121) (i := 3) (j := 1) X dX9_reading_120 rfl rfl rfl ?_
              refine v_callS (pc' := 124) X (st := [.ref (ad (15)), .int x, .ref (ad (tb i + 8))]) (c_X9_place (n := n) (ad := ad) (M := (mI (mL M (tb i + 15) r v) (tb i) 5 (nI (r + 1)))) (v := v)) k_X9_place w_ml_X9_137 w_st_X9_place (by rw [hR]; exact ⟨Nat.le_of_ble_eq_true rfl, Nat.le_of_ble_eq_true rfl⟩) rfl rfl (Nat.le_of_ble_eq_true rfl) dX9_reading_121 rfl (⟨Nat.zero_le _, Nat.zero_le _⟩) ?_
              rintro _ _ ⟨rfl, rfl⟩
              refine ag_M15 (pc' := 125) X (v := M.2 15 (pl v)) (pl v) hpl.2 (by omega) (congrFun (mL_n _ _ _ _ (by unfold tb; omega)) _) dX9_reading_124 rfl ?_
              refine as_T8 (pc' := 126) X hi (jx) hx (by omega) dX9_reading_125 rfl ?_
              refine v_iconst (pc' := 127) (v := 0) X dX9_reading_126 (by decide) rfl ?_
              refine v_ireturn X R (Nat.zero_le _) (Nat.zero_le _) dX9_reading_127 ?_
              have hF : fReading M (tb i) jx v = ((mL (mI (mL M (tb i + 15) r v) (tb i) 5 (nI (r + 1))) (tb i + 8) jx (M.2 15 (pl v))), 0) := by
                unfold fReading
                rw [hnw, nn_nI (by omega), hlw]
                rw [show lastW (M.2 (tb i + 16)) 0 v = none from rfl]
                show (if M.1 (tb i) 7 < M.1 19 (pl v) then _ else _) = _
                rw [if_neg (Int32.not_lt.mpr hc_62), hnr, nn_nI (by omega)]
                rw [if_neg (fun z9 => by obtain ⟨q9, h9, h8⟩ := z9; exact hmem q9 h9 h8)]
                rw [if_neg hc_85]
                rw [show nI r + 1 = nI (r + 1) from nI_add r 1]
              rw [hF]
              exact ⟨rfl, rfl⟩
            -- not taken 85
            · refine v_bipush (pc' := 90) (v := (-5)) X dX9_reading_88 (by decide) rfl ?_
              refine v_ireturn X R (Nat.zero_le _) (Nat.zero_le _) dX9_reading_90 ?_
              have hF : fReading M (tb i) jx v = (M, (-5)) := by
                unfold fReading
                rw [hnw, nn_nI (by omega), hlw]
                rw [show lastW (M.2 (tb i + 16)) 0 v = none from rfl]
                show (if M.1 (tb i) 7 < M.1 19 (pl v) then _ else _) = _
                rw [if_neg (Int32.not_lt.mpr hc_62), hnr, nn_nI (by omega)]
                rw [if_neg (fun z9 => by obtain ⟨q9, h9, h8⟩ := z9; exact hmem q9 h9 h8)]
                rw [if_pos hc_85]
              rw [hF]
              exact ⟨rfl, rfl⟩
        -- not taken 62
        · refine v_aload_n (pc' := 66) (i := 0) (j := 4) X dX9_reading_65 rfl rfl rfl ?_
          refine v_aload_n (pc' := 67) (i := 1) (j := 3) X dX9_reading_66 rfl rfl rfl ?_
          refine v_callV (pc' := 70) X (st := []) (c_X9_aborted (M := M) hi (e := e) (k := k) hne he hk h0 hfirst) k_X9_aborted w_ml_X9_195 w_im_X9_aborted w_se_X9_X9_aborted (rv_M) (by rw [hR]; exact ⟨Nat.le_of_ble_eq_true rfl, Nat.le_of_ble_eq_true rfl⟩) rfl rfl (Nat.le_of_ble_eq_true rfl) dX9_reading_67 rfl (⟨Nat.zero_le _, Nat.zero_le _⟩) ?_
          rintro _ _ ⟨rfl, rfl⟩
          refine v_ireturn X R (Nat.zero_le _) (Nat.zero_le _) dX9_reading_70 ?_
          have hF : fReading M (tb i) jx v = ((fAborted M (tb i)), 0) := by
            unfold fReading
            rw [hnw, nn_nI (by omega), hlw]
            rw [show lastW (M.2 (tb i + 16)) 0 v = none from rfl]
            show (if M.1 (tb i) 7 < M.1 19 (pl v) then _ else _) = _
            rw [if_pos (Int32.not_le.mp hc_62)]
          rw [hF]
          exact ⟨rfl, rfl⟩
      | succ q =>
        rw [kq_s]
        refine v_iload (pc' := 10) (j := 0) X dX9_reading_8 rfl rfl ?_
        refine v_if_lt (pc' := 13) (tgt := 49) X dX9_reading_10 (by decide) rfl (fun hc_10 => absurd hc_10 (nI_pos (by omega))) (fun _ => ?_)
        refine v_aload_n (pc' := 14) (i := 1) (j := 3) X dX9_reading_13 rfl rfl rfl ?_
        refine fg_X9_175 (pc' := 17) X hi dX9_reading_14 rfl ?_
        refine v_iload (pc' := 19) (j := 0) X dX9_reading_17 rfl rfl ?_
        refine ag_T16 (pc' := 20) X hi (v := M.2 (tb i + 16) q) (q) rfl (by omega) rfl dX9_reading_19 rfl ?_
        refine v_lload_n (pc' := 21) (i := 3) (j := 1) X dX9_reading_20 rfl rfl rfl ?_
        refine v_lcmp (pc' := 22) X dX9_reading_21 rfl ?_
        refine v_lif_eq (pc' := 25) (tgt := 28) X dX9_reading_22 (by decide) rfl (fun hc_22 => ?_) (fun hc_22 => ?_)
        -- taken 22
        · refine v_aload_n (pc' := 29) (i := 1) (j := 3) X dX9_reading_28 rfl rfl rfl ?_
          refine fg_X9_105 (pc' := 32) X hi dX9_reading_29 rfl ?_
          refine v_iload_n (pc' := 33) (i := 2) (j := 2) X dX9_reading_32 rfl rfl rfl ?_
          refine v_aload_n (pc' := 34) (i := 1) (j := 3) X dX9_reading_33 rfl rfl rfl ?_
          refine fg_X9_178 (pc' := 37) X hi dX9_reading_34 rfl ?_
          refine v_iload (pc' := 39) (j := 0) X dX9_reading_37 rfl rfl ?_
          refine ag_T17 (pc' := 40) X hi (v := M.2 (tb i + 17) q) (q) rfl (by omega) rfl dX9_reading_39 rfl ?_
          refine as_T8 (pc' := 41) X hi (jx) hx (by omega) dX9_reading_40 rfl ?_
          refine v_iconst (pc' := 42) (v := 0) X dX9_reading_41 (by decide) rfl ?_
          refine v_ireturn X R (Nat.zero_le _) (Nat.zero_le _) dX9_reading_42 ?_
          have hF : fReading M (tb i) jx v = ((mL M (tb i + 8) jx (M.2 (tb i + 17) q)), 0) := by
            unfold fReading
            rw [hnw, nn_nI (by omega), hlw]
            rw [lastW, if_pos hc_22]
          rw [hF]
          exact ⟨rfl, rfl⟩
        -- not taken 22
        · refine v_goto (pc' := 43) X dX9_reading_25 (by decide) ?_
          refine v_iinc (pc' := 46) (j := 0) (v := kq q) (lv' := [(5, .int (kq q)), (3, .long v), (2, .int x), (1, .ref (ad (tb i))), (0, .ref (ad (0)))]) X dX9_reading_43 rfl (kq_d q) (by decide) rfl rfl ?_
          refine v_goto (pc' := 8) X dX9_reading_46 (by decide) ?_
          exact ih_hloop q (by omega) (by omega) (hlw.trans (by rw [lastW, if_neg hc_22]))
  refine v_sub (lv' := [(5, .int (kq nw)), (3, .long v), (2, .int x), (1, .ref (ad (tb i))), (0, .ref (ad (0)))]) [0, 4, 3, 2, 1] rfl ?_
  exact hloop _ nw (Nat.lt_succ_self _) (Nat.le_refl _) rfl
set_option maxHeartbeats 4000000 in
set_option maxRecDepth 100000 in
/-- retried(t) -/
theorem c_X9_retried {l : Launch} {D : va_G} {Y : Nat → ClassId} {z : Nat → Nat} {n : Nat} {ad : Nat → Nat} {M : vM} {i e k r : Nat} (hi : i < n) (hne : M.1 (tb i) 4 = nI e) (he : e ≤ 24) (hk : k < e) (h0 : M.1 (tb i + 11) k = 0) (hfirst : ∀ j, j < k → M.1 (tb i + 11) j ≠ 0) (hnr : M.1 (tb i) 5 = nI r) (hr : r ≤ 40) (hpl : ∀ k, k < r → plOk (M.2 (tb i + 15) k)) : Ct l D Y z yX9_retried cX9_retried 3 (some FieldType.int) 3 65 [.ref (ad (0)), .ref (ad (tb i))] (wM Y n ad M) 0 0 (fun r w => r = some (.int 0) ∧ w = wM Y n ad (fRetried M (tb i))) := by
  refine v_entry (by decide +kernel) (Nat.le_of_ble_eq_true rfl) ?_
  intro K X R hR hnm hl hD hY hz
  subst hl hD hY hz
  refine v_sub (lv' := [(0, .ref (ad (0))), (1, .ref (ad (tb i)))]) [0, 1] rfl ?_
  refine v_aload_n (pc' := 1) (i := 1) (j := 1) X dX9_retried_0 rfl rfl rfl ?_
  refine fg_X9_121 (pc' := 4) X hi (v := nI e) hne dX9_retried_1 rfl ?_
  refine v_iconst (pc' := 5) (v := 1) X dX9_retried_4 (by decide) rfl ?_
  refine v_isubV (pc' := 6) (v := nI (e - 1)) X (pk_sub (a := e) (b := 1) (by omega)) dX9_retried_5 rfl ?_
  refine v_istore_n (pc' := 7) (i := 2) (lv' := [(2, .int (nI (e - 1))), (0, .ref (ad (0))), (1, .ref (ad (tb i)))]) X dX9_retried_6 rfl (by decide) rfl rfl ?_
  have hloop : ∀ (dd_hloop : Nat) (q : Nat), q < dd_hloop → (q < e) → (k ≤ q) → (topN (M.1 (tb i + 11)) e = topN (M.1 (tb i + 11)) (q + 1)) → V K 3 (wM (kY K) n ad M) 0 0 7 [(2, .int (nI q)), (1, .ref (ad (tb i))), (0, .ref (ad (0)))] [] := by
    intro dd_hloop
    induction dd_hloop with
    | zero => intro q hlt_hloop; exact absurd hlt_hloop (Nat.not_lt_zero _)
    | succ dd_hloop ih_hloop =>
      intro q hlt_hloop hq hkq htop
      refine v_aload_n (pc' := 8) (i := 1) (j := 1) X dX9_retried_7 rfl rfl rfl ?_
      refine fg_X9_184 (pc' := 11) X hi dX9_retried_8 rfl ?_
      refine v_iload_n (pc' := 12) (i := 2) (j := 0) X dX9_retried_11 rfl rfl rfl ?_
      refine ag_T11 (pc' := 13) X hi (v := M.1 (tb i + 11) q) (q) rfl (by omega) rfl dX9_retried_12 rfl ?_
      refine v_iconst (pc' := 14) (v := 2) X dX9_retried_13 (by decide) rfl ?_
      refine v_icmp_ne (pc' := 17) (tgt := 23) X dX9_retried_14 (by decide) rfl (fun hc_14 => ?_) (fun hc_14 => ?_)
      -- taken 14
      · have htq : topN (M.1 (tb i + 11)) e = q := htop.trans (by rw [topN, if_neg hc_14])
        refine v_aload_n (pc' := 24) (i := 1) (j := 1) X dX9_retried_23 rfl rfl rfl ?_
        refine fg_X9_184 (pc' := 27) X hi dX9_retried_24 rfl ?_
        refine v_iload_n (pc' := 28) (i := 2) (j := 0) X dX9_retried_27 rfl rfl rfl ?_
        refine ag_T11 (pc' := 29) X hi (v := M.1 (tb i + 11) q) (q) rfl (by omega) rfl dX9_retried_28 rfl ?_
        refine v_iconst (pc' := 30) (v := 1) X dX9_retried_29 (by decide) rfl ?_
        refine v_icmp_ne (pc' := 33) (tgt := 41) X dX9_retried_30 (by decide) rfl (fun hc_30 => ?_) (fun hc_30 => ?_)
        -- taken 30
        · refine v_aload_n (pc' := 42) (i := 0) (j := 2) X dX9_retried_41 rfl rfl rfl ?_
          refine v_aload_n (pc' := 43) (i := 1) (j := 1) X dX9_retried_42 rfl rfl rfl ?_
          refine v_callV (pc' := 46) X (st := []) (c_X9_valid (M := M) hi (e := r) hnr hr hpl) k_X9_valid w_ml_X9_187 w_im_X9_valid w_se_X9_X9_valid (rv_M) (by rw [hR]; exact ⟨Nat.le_of_ble_eq_true rfl, Nat.le_of_ble_eq_true rfl⟩) rfl rfl (Nat.le_of_ble_eq_true rfl) dX9_retried_43 rfl (⟨Nat.zero_le _, Nat.zero_le _⟩) ?_
          rintro _ _ ⟨rfl, rfl⟩
          refine v_ifB_eq (pc' := 49) (tgt := 57) X dX9_retried_46 (by decide) rfl (fun hc_46 => ?_) (fun hc_46 => ?_)
          -- taken 46
          · refine v_aload_n (pc' := 58) (i := 0) (j := 2) X dX9_retried_57 rfl rfl rfl ?_
            refine v_aload_n (pc' := 59) (i := 1) (j := 1) X dX9_retried_58 rfl rfl rfl ?_
            refine v_callV (pc' := 62) X (st := []) (c_X9_aborted (M := M) hi (e := e) (k := k) hne he hk h0 hfirst) k_X9_aborted w_ml_X9_195 w_im_X9_aborted w_se_X9_X9_aborted (rv_M) (by rw [hR]; exact ⟨Nat.le_of_ble_eq_true rfl, Nat.le_of_ble_eq_true rfl⟩) rfl rfl (Nat.le_of_ble_eq_true rfl) dX9_retried_59 rfl (⟨Nat.zero_le _, Nat.zero_le _⟩) ?_
            rintro _ _ ⟨rfl, rfl⟩
            refine v_ireturn X R (Nat.zero_le _) (Nat.zero_le _) dX9_retried_62 ?_
            have hF : fRetried M (tb i) = (fAborted M (tb i)) := by
              unfold fRetried
              rw [hne, nn_nI (by omega), htq]
              refine (if_neg hc_30).trans ?_
              exact if_neg hc_46
            rw [hF]
            exact ⟨rfl, rfl⟩
          -- not taken 46
          · refine v_aload_n (pc' := 50) (i := 1) (j := 1) X dX9_retried_49 rfl rfl rfl ?_
            refine v_iconst (pc' := 51) (v := 2) X dX9_retried_50 (by decide) rfl ?_
            refine fp_X9_208 (pc' := 54) X hi dX9_retried_51 rfl ?_
            refine v_goto (pc' := 63) X dX9_retried_54 (by decide) ?_
            refine v_iconst (pc' := 64) (v := 0) X dX9_retried_63 (by decide) rfl ?_
            refine v_ireturn X R (Nat.zero_le _) (Nat.zero_le _) dX9_retried_64 ?_
            have hF : fRetried M (tb i) = (mI M (tb i) 0 2) := by
              unfold fRetried
              rw [hne, nn_nI (by omega), htq]
              refine (if_neg hc_30).trans ?_
              exact if_pos hc_46
            rw [hF]
            exact ⟨rfl, rfl⟩
        -- not taken 30
        · refine v_aload_n (pc' := 34) (i := 1) (j := 1) X dX9_retried_33 rfl rfl rfl ?_
          refine v_iload_n (pc' := 35) (i := 2) (j := 0) X dX9_retried_34 rfl rfl rfl ?_
          refine v_callV (pc' := 38) X (st := []) (c_X8_rollBack (M := M) hi (k := q) (by omega)) k_X8_rollBack w_ml_X9_211 w_im_X8_rollBack w_se_X8_X8_rollBack (rv_T hi) (by rw [hR]; exact ⟨Nat.le_of_ble_eq_true rfl, Nat.le_of_ble_eq_true rfl⟩) rfl rfl (Nat.le_of_ble_eq_true rfl) dX9_retried_35 rfl (⟨Nat.zero_le _, Nat.zero_le _⟩) ?_
          rintro _ _ ⟨rfl, rfl⟩
          refine v_goto (pc' := 63) X dX9_retried_38 (by decide) ?_
          refine v_iconst (pc' := 64) (v := 0) X dX9_retried_63 (by decide) rfl ?_
          refine v_ireturn X R (Nat.zero_le _) (Nat.zero_le _) dX9_retried_64 ?_
          have hF : fRetried M (tb i) = (fRollBack M (tb i) q) := by
            unfold fRetried
            rw [hne, nn_nI (by omega), htq]
            exact if_pos hc_30
          rw [hF]
          exact ⟨rfl, rfl⟩
      -- not taken 14
      · have hq9 : 1 ≤ q := by
          rcases Nat.eq_zero_or_pos q with z9 | z9
          · rw [show k = q by omega, hc_14] at h0; exact absurd h0 (by decide)
          · exact z9
        refine v_iinc (pc' := 20) (j := 0) (v := nI (q - 1)) (lv' := [(2, .int (nI (q - 1))), (1, .ref (ad (tb i))), (0, .ref (ad (0)))]) X dX9_retried_17 rfl (nI_dec (a := q) 1 (by omega)) (by decide) rfl rfl ?_
        refine v_goto (pc' := 7) X dX9_retried_20 (by decide) ?_
        have hq0 : k ≠ q := fun z9 => by rw [z9, hc_14] at h0; exact absurd h0 (by decide)
        exact ih_hloop (q - 1) (by omega) (by omega) (by omega) (htop.trans (by rw [topN, if_pos hc_14, show q - 1 + 1 = q by omega]))
  refine v_sub (lv' := [(2, .int (nI (e - 1))), (1, .ref (ad (tb i))), (0, .ref (ad (0)))]) [0, 2, 1] rfl ?_
  exact hloop _ (e - 1) (Nat.lt_succ_self _) (by omega) (by omega) (by rw [show e - 1 + 1 = e by omega])
set_option maxHeartbeats 4000000 in
set_option maxRecDepth 100000 in
/-- thrownUp(t, code) -/
theorem c_X9_thrownUp {l : Launch} {D : va_G} {Y : Nat → ClassId} {z : Nat → Nat} {n : Nat} {ad : Nat → Nat} {M : vM} {i e r : Nat} (hi : i < n) (hne : M.1 (tb i) 4 = nI e) (he : e ≤ 24) (huniq : ∀ j j2, j < e → j2 < e → M.1 (tb i + 11) j = 0 → M.1 (tb i + 11) j2 = 0 → j = j2) (hnr : M.1 (tb i) 5 = nI r) (hr : r ≤ 40) (hpl : ∀ k, k < r → plOk (M.2 (tb i + 15) k)) {code : Int32} : Ct l D Y z yX9_thrownUp cX9_thrownUp 4 (some FieldType.int) 3 65 [.ref (ad (0)), .ref (ad (tb i)), .int code] (wM Y n ad M) 0 0 (fun r w => r = some (.int 0) ∧ w = wM Y n ad (fThrow (tb i) code e M)) := by
  refine v_entry (by decide +kernel) (Nat.le_of_ble_eq_true rfl) ?_
  intro K X R hR hnm hl hD hY hz
  subst hl hD hY hz
  refine v_sub (lv' := [(0, .ref (ad (0))), (1, .ref (ad (tb i))), (2, .int code)]) [0, 1, 2] rfl ?_
  have hloop : ∀ (dd_hloop : Nat) (q : Nat) (Mq : vM) (rq : Nat), q < dd_hloop → (q ≤ e) → (Mq.1 (tb i) 4 = nI q) → (Mq.1 (tb i + 11) = M.1 (tb i + 11)) → (Mq.1 (tb i) 5 = nI rq) → (rq ≤ r) → (Mq.2 (tb i + 15) = M.2 (tb i + 15)) → (fThrow (tb i) code e M = fThrow (tb i) code q Mq) → V K 4 (wM (kY K) n ad Mq) 0 0 0 [(0, .ref (ad (0))), (1, .ref (ad (tb i))), (2, .int code)] [] := by
    intro dd_hloop
    induction dd_hloop with
    | zero => intro q Mq rq hlt_hloop; exact absurd hlt_hloop (Nat.not_lt_zero _)
    | succ dd_hloop ih_hloop =>
      intro q Mq rq hlt_hloop hq h4 h11 h5 hrq h15 hF
      refine v_aload_n (pc' := 1) (i := 1) (j := 1) X dX9_thrownUp_0 rfl rfl rfl ?_
      refine fg_X9_121 (pc' := 4) X hi (v := nI q) h4 dX9_thrownUp_1 rfl ?_
      refine v_if_le (pc' := 7) (tgt := 86) X dX9_thrownUp_4 (by decide) rfl (fun hc_4 => ?_) (fun hc_4 => ?_)
      -- taken 4
      · refine v_aload_n (pc' := 87) (i := 1) (j := 1) X dX9_thrownUp_86 rfl rfl rfl ?_
        refine v_iconst (pc' := 88) (v := 4) X dX9_thrownUp_87 (by decide) rfl ?_
        refine v_iload_n (pc' := 89) (i := 2) (j := 2) X dX9_thrownUp_88 rfl rfl rfl ?_
        refine v_callV (pc' := 92) X (st := []) (c_X8_end (M := Mq) hi (how := 4) (why := code)) k_X8_end w_ml_X9_79 w_im_X8_end w_se_X8_X8_end (rv_T hi) (by rw [hR]; exact ⟨Nat.le_of_ble_eq_true rfl, Nat.le_of_ble_eq_true rfl⟩) rfl rfl (Nat.le_of_ble_eq_true rfl) dX9_thrownUp_89 rfl (⟨Nat.zero_le _, Nat.zero_le _⟩) ?_
        rintro _ _ ⟨rfl, rfl⟩
        refine v_iconst (pc' := 93) (v := 0) X dX9_thrownUp_92 (by decide) rfl ?_
        refine v_ireturn X R (Nat.zero_le _) (Nat.zero_le _) dX9_thrownUp_93 ?_
        obtain rfl : q = 0 := by
          rcases Nat.eq_zero_or_pos q with z9 | z9
          · exact z9
          · exact absurd hc_4 (nI_nle z9 (by omega))
        rw [hF]
        exact ⟨rfl, rfl⟩
      -- not taken 4
      · obtain ⟨q, rfl⟩ : ∃ q0, q = q0 + 1 := ⟨q - 1, by
          rcases Nat.eq_zero_or_pos q with z9 | z9
          · rw [z9] at hc_4; exact absurd (show nI 0 ≤ 0 by decide) hc_4
          · omega⟩
        refine v_aload_n (pc' := 8) (i := 1) (j := 1) X dX9_thrownUp_7 rfl rfl rfl ?_
        refine fg_X9_121 (pc' := 11) X hi (v := nI (q + 1)) h4 dX9_thrownUp_8 rfl ?_
        refine v_iconst (pc' := 12) (v := 1) X dX9_thrownUp_11 (by decide) rfl ?_
        refine v_isubV (pc' := 13) (v := nI q) X (nI_pred q) dX9_thrownUp_12 rfl ?_
        refine v_istore_n (pc' := 14) (i := 3) (lv' := [(3, .int (nI q)), (0, .ref (ad (0))), (1, .ref (ad (tb i))), (2, .int code)]) X dX9_thrownUp_13 rfl (by decide) rfl rfl ?_
        refine v_aload_n (pc' := 15) (i := 1) (j := 2) X dX9_thrownUp_14 rfl rfl rfl ?_
        refine fg_X9_184 (pc' := 18) X hi dX9_thrownUp_15 rfl ?_
        refine v_iload_n (pc' := 19) (i := 3) (j := 0) X dX9_thrownUp_18 rfl rfl rfl ?_
        refine ag_T11 (pc' := 20) X hi (v := Mq.1 (tb i + 11) q) (q) rfl (by omega) rfl dX9_thrownUp_19 rfl ?_
        refine v_iconst (pc' := 21) (v := 2) X dX9_thrownUp_20 (by decide) rfl ?_
        refine v_icmp_ne (pc' := 24) (tgt := 40) X dX9_thrownUp_21 (by decide) rfl (fun hc_21 => ?_) (fun hc_21 => ?_)
        -- taken 21
        · refine v_aload_n (pc' := 41) (i := 1) (j := 2) X dX9_thrownUp_40 rfl rfl rfl ?_
          refine fg_X9_184 (pc' := 44) X hi dX9_thrownUp_41 rfl ?_
          refine v_iload_n (pc' := 45) (i := 3) (j := 0) X dX9_thrownUp_44 rfl rfl rfl ?_
          refine ag_T11 (pc' := 46) X hi (v := Mq.1 (tb i + 11) q) (q) rfl (by omega) rfl dX9_thrownUp_45 rfl ?_
          refine v_if_ne (pc' := 49) (tgt := 73) X dX9_thrownUp_46 (by decide) rfl (fun hc_46 => ?_) (fun hc_46 => ?_)
          -- taken 46
          · refine v_aload_n (pc' := 74) (i := 1) (j := 2) X dX9_thrownUp_73 rfl rfl rfl ?_
            refine v_dup (pc' := 75) X dX9_thrownUp_74 rfl rfl ?_
            refine fg_X9_121 (pc' := 78) X hi (v := nI (q + 1)) h4 dX9_thrownUp_75 rfl ?_
            refine v_iconst (pc' := 79) (v := 1) X dX9_thrownUp_78 (by decide) rfl ?_
            refine v_isubV (pc' := 80) (v := nI q) X (nI_pred q) dX9_thrownUp_79 rfl ?_
            refine fp_X9_121 (pc' := 83) X hi dX9_thrownUp_80 rfl ?_
            refine v_goto (pc' := 0) X dX9_thrownUp_83 (by decide) ?_
            have hs0 : Mq.1 (tb i + 11) q ≠ 0 := hc_46
            have hF2 : fThrow (tb i) code (q + 1) Mq = fThrow (tb i) code q (mI Mq (tb i) 4 (nI q)) := by rw [fThrow, if_neg hc_21, if_neg hs0]
            refine v_sub (lv' := [(0, .ref (ad (0))), (1, .ref (ad (tb i))), (2, .int code)]) [1, 2, 3] rfl ?_
            exact ih_hloop q (mI Mq (tb i) 4 (nI q)) rq (by omega) (by omega) (mI_s _ _ _ _) ((mI_n _ _ _ _ (by omega)).trans h11) ((mI_o _ _ _ _ (by decide)).trans h5) hrq h15 (hF.trans hF2)
          -- not taken 46
          · refine v_aload_n (pc' := 50) (i := 0) (j := 1) X dX9_thrownUp_49 rfl rfl rfl ?_
            refine v_aload_n (pc' := 51) (i := 1) (j := 2) X dX9_thrownUp_50 rfl rfl rfl ?_
            refine v_callV (pc' := 54) X (st := []) (c_X9_valid (M := Mq) hi (e := rq) h5 (by omega) (fun k9 hk9 => by rw [h15]; exact hpl k9 (by omega))) k_X9_valid w_ml_X9_187 w_im_X9_valid w_se_X9_X9_valid (rv_M) (by rw [hR]; exact ⟨Nat.le_of_ble_eq_true rfl, Nat.le_of_ble_eq_true rfl⟩) rfl rfl (Nat.le_of_ble_eq_true rfl) dX9_thrownUp_51 rfl (⟨Nat.zero_le _, Nat.zero_le _⟩) ?_
            rintro _ _ ⟨rfl, rfl⟩
            refine v_ifB_ne (pc' := 57) (tgt := 63) X dX9_thrownUp_54 (by decide) rfl (fun hc_54 => ?_) (fun hc_54 => ?_)
            -- taken 54
            · refine v_aload_n (pc' := 64) (i := 1) (j := 2) X dX9_thrownUp_63 rfl rfl rfl ?_
              refine v_iconst (pc' := 65) (v := 0) X dX9_thrownUp_64 (by decide) rfl ?_
              refine fp_X9_149 (pc' := 68) X hi dX9_thrownUp_65 rfl ?_
              refine v_aload_n (pc' := 69) (i := 1) (j := 2) X dX9_thrownUp_68 rfl rfl rfl ?_
              refine v_iconst (pc' := 70) (v := 0) X dX9_thrownUp_69 (by decide) rfl ?_
              refine fp_X9_172 (pc' := 73) X hi dX9_thrownUp_70 rfl ?_
              refine v_aload_n (pc' := 74) (i := 1) (j := 2) X dX9_thrownUp_73 rfl rfl rfl ?_
              refine v_dup (pc' := 75) X dX9_thrownUp_74 rfl rfl ?_
              refine fg_X9_121 (pc' := 78) X hi (v := nI (q + 1)) ((mI_o _ _ _ _ (by decide)).trans ((mI_o _ _ _ _ (by decide)).trans h4)) dX9_thrownUp_75 rfl ?_
              refine v_iconst (pc' := 79) (v := 1) X dX9_thrownUp_78 (by decide) rfl ?_
              refine v_isubV (pc' := 80) (v := nI q) X (nI_pred q) dX9_thrownUp_79 rfl ?_
              refine fp_X9_121 (pc' := 83) X hi dX9_thrownUp_80 rfl ?_
              refine v_goto (pc' := 0) X dX9_thrownUp_83 (by decide) ?_
              have hF2 : fThrow (tb i) code (q + 1) Mq = fThrow (tb i) code q (mI (mI (mI Mq (tb i) 5 0) (tb i) 6 0) (tb i) 4 (nI q)) := by rw [fThrow, if_neg hc_21, if_pos hc_46, if_pos hc_54]
              refine v_sub (lv' := [(0, .ref (ad (0))), (1, .ref (ad (tb i))), (2, .int code)]) [1, 2, 3] rfl ?_
              exact ih_hloop q (mI (mI (mI Mq (tb i) 5 0) (tb i) 6 0) (tb i) 4 (nI q)) 0 (by omega) (by omega) (mI_s _ _ _ _) ((mI_n _ _ _ _ (by omega)).trans ((mI_n _ _ _ _ (by omega)).trans ((mI_n _ _ _ _ (by omega)).trans h11))) ((mI_o _ _ _ _ (by decide)).trans ((mI_o _ _ _ _ (by decide)).trans (mI_s _ _ _ _))) (Nat.zero_le _) h15 (hF.trans hF2)
            -- not taken 54
            · refine v_aload_n (pc' := 58) (i := 0) (j := 1) X dX9_thrownUp_57 rfl rfl rfl ?_
              refine v_aload_n (pc' := 59) (i := 1) (j := 2) X dX9_thrownUp_58 rfl rfl rfl ?_
              refine v_callV (pc' := 62) X (st := []) (c_X9_aborted (M := Mq) hi (e := q + 1) (k := q) h4 (by omega) (by omega) hc_46 (fun j9 hj9 z9 => by rw [h11] at hc_46 z9; exact absurd (huniq j9 q (by omega) (by omega) z9 hc_46) (by omega))) k_X9_aborted w_ml_X9_195 w_im_X9_aborted w_se_X9_X9_aborted (rv_M) (by rw [hR]; exact ⟨Nat.le_of_ble_eq_true rfl, Nat.le_of_ble_eq_true rfl⟩) rfl rfl (Nat.le_of_ble_eq_true rfl) dX9_thrownUp_59 rfl (⟨Nat.zero_le _, Nat.zero_le _⟩) ?_
              rintro _ _ ⟨rfl, rfl⟩
              refine v_ireturn X R (Nat.zero_le _) (Nat.zero_le _) dX9_thrownUp_62 ?_
              rw [hF, fThrow]
              rw [if_neg hc_21, if_pos hc_46, if_neg hc_54]
              exact ⟨rfl, rfl⟩
        -- not taken 21
        · refine v_aload_n (pc' := 25) (i := 1) (j := 2) X dX9_thrownUp_24 rfl rfl rfl ?_
          refine v_iload_n (pc' := 26) (i := 3) (j := 0) X dX9_thrownUp_25 rfl rfl rfl ?_
          refine v_callV (pc' := 29) X (st := []) (c_X8_rollBack (M := Mq) hi (k := q) (by omega)) k_X8_rollBack w_ml_X9_211 w_im_X8_rollBack w_se_X8_X8_rollBack (rv_T hi) (by rw [hR]; exact ⟨Nat.le_of_ble_eq_true rfl, Nat.le_of_ble_eq_true rfl⟩) rfl rfl (Nat.le_of_ble_eq_true rfl) dX9_thrownUp_26 rfl (⟨Nat.zero_le _, Nat.zero_le _⟩) ?_
          rintro _ _ ⟨rfl, rfl⟩
          refine v_aload_n (pc' := 30) (i := 1) (j := 2) X dX9_thrownUp_29 rfl rfl rfl ?_
          refine fg_X9_105 (pc' := 33) X hi dX9_thrownUp_30 rfl ?_
          refine v_bipush (pc' := 35) (v := 15) X dX9_thrownUp_33 (by decide) rfl ?_
          refine v_iload_n (pc' := 36) (i := 2) (j := 3) X dX9_thrownUp_35 rfl rfl rfl ?_
          refine v_i2l (pc' := 37) X dX9_thrownUp_36 rfl rfl ?_
          refine as_T8 (pc' := 38) X hi (15) rfl (by omega) dX9_thrownUp_37 rfl ?_
          refine v_iconst (pc' := 39) (v := 0) X dX9_thrownUp_38 (by decide) rfl ?_
          refine v_ireturn X R (Nat.zero_le _) (Nat.zero_le _) dX9_thrownUp_39 ?_
          rw [hF, fThrow]
          rw [if_pos hc_21]
          exact ⟨rfl, rfl⟩
  exact hloop _ e M r (Nat.lt_succ_self _) (Nat.le_refl _) hne rfl hnr (Nat.le_refl _) rfl rfl
