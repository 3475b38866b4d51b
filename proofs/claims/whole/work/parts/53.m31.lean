/-! THE CLASS'S TRANSACTIONS -/
def gAbort (M : vM) (b k : Nat) : vM := gAgain (mI M 0 6 (M.1 0 6 + 1)) b k (M.1 0 5)
set_option maxHeartbeats 4000000 in
set_option maxRecDepth 100000 in
theorem c_X7_abort {l : Launch} {D : va_G} {Y : Nat → ClassId} {zz : Nat → Nat} {n s cp cq : Nat} {ad : Nat → Nat} {M : vM} {i k : Nat} (hi : i < n) (h16 : i < 16) (h13 : M.1 (tb i) 13 = nI k) (hk : k < 24)  : Ct l D Y zz yX7_abort cX7_abort 2 none 3 102 [.ref (ad (0)), .ref (ad (tb i))] (wK Y n s cp cq ad M) 0 0 (fun r w => r = none ∧ w = wK Y n s cp cq ad (gAbort M (tb i) k)) := by
  refine v_entry (by decide +kernel) (Nat.le_of_ble_eq_true rfl) ?_
  intro K X R hR hnm hl hD hY hz
  subst hl hD hY hz
  refine v_sub (lv' := [(0, .ref (ad (0))), (1, .ref (ad (tb i)))]) [0, 1] rfl ?_
  refine v_aload_n (pc' := 1) (i := 0) (j := 0) X dX7_abort_0 rfl rfl rfl ?_
  refine v_dup (pc' := 2) X dX7_abort_1 rfl rfl ?_
  refine fk_X7_41 (pc' := 5) X (v := M.1 0 6) rfl dX7_abort_2 rfl ?_
  refine v_iconst (pc' := 6) (v := 1) X dX7_abort_5 (by decide) rfl ?_
  refine v_iadd (pc' := 7) X dX7_abort_6 rfl ?_
  refine fq_X7_41 (pc' := 10) X dX7_abort_7 rfl ?_
  refine v_aload_n (pc' := 11) (i := 1) (j := 1) X dX7_abort_10 rfl rfl rfl ?_
  refine v_aload_n (pc' := 12) (i := 0) (j := 0) X dX7_abort_11 rfl rfl rfl ?_
  refine fk_X7_37 (pc' := 15) X (v := M.1 0 5) (mI_o _ _ _ _ (by decide)) dX7_abort_12 rfl ?_
  refine v_callVN (pc' := 18) X (st := []) (c_X6_beginAgain (M := (mI M 0 6 ((M.1 0 6) + 1))) hi h16 (k := k) ((congrFun (mI_n _ _ _ _ (by unfold tb; omega)) _).trans h13) hk (clk := M.1 0 5)) k_X6_beginAgain n_ml_X7_331 w_im_X6_beginAgain w_se_X6_X6_beginAgain (rw_X6 hi h16) (by rw [hR]; exact ⟨Nat.le_of_ble_eq_true rfl, Nat.le_of_ble_eq_true rfl⟩) rfl rfl (Nat.le_of_ble_eq_true rfl) dX7_abort_15 rfl (⟨Nat.zero_le _, Nat.zero_le _⟩) ?_
  rintro _ _ ⟨rfl, rfl⟩
  refine v_return X R (Nat.zero_le _) (Nat.zero_le _) dX7_abort_18 ?_
  exact ⟨rfl, rfl⟩
def gWriteV (M : vM) (b w9 ja jb : Nat) : vM × Int32 := if w9 = 40 then (M, -5) else (mI (mL (mI M (b + 16) w9 (M.2 (b + 8) ja).toInt32) (b + 17) w9 (M.2 (b + 8) jb)) (b + 18) 4 (nI (w9 + 1)), 0)
set_option maxHeartbeats 4000000 in
set_option maxRecDepth 100000 in
theorem c_X7_writeVar {l : Launch} {D : va_G} {Y : Nat → ClassId} {zz : Nat → Nat} {n s cp cq : Nat} {ad : Nat → Nat} {M : vM} {i w9 ja jb : Nat} (hi : i < n) (h16 : i < 16) (h4 : M.1 (tb i + 18) 4 = nI w9) (hw : w9 ≤ 40) (hja : ja < 16) (hjb : jb < 16)  : Ct l D Y zz yX7_writeVar cX7_writeVar 4 (some FieldType.int) 1 23 [.ref (ad (0)), .ref (ad (tb i)), .int (nI ja), .int (nI jb)] (wK Y n s cp cq ad M) 0 0 (fun r w => r = some (.int (gWriteV M (tb i) w9 ja jb).2) ∧ w = wK Y n s cp cq ad (gWriteV M (tb i) w9 ja jb).1) := by
  refine v_entry (by decide +kernel) (Nat.le_of_ble_eq_true rfl) ?_
  intro K X R hR hnm hl hD hY hz
  subst hl hD hY hz
  refine v_sub (lv' := [(0, .ref (ad (0))), (1, .ref (ad (tb i))), (2, .int (nI ja)), (3, .int (nI jb))]) [0, 1, 2, 3] rfl ?_
  refine v_aload_n (pc' := 1) (i := 1) (j := 1) X dX7_writeVar_0 rfl rfl rfl ?_
  refine fk_X7_100 (pc' := 4) X hi h16 dX7_writeVar_1 rfl ?_
  refine fk_X7_109 (pc' := 7) X hi h16 (v := nI w9) h4 dX7_writeVar_4 rfl ?_
  refine v_bipush (pc' := 9) (v := 40) X dX7_writeVar_7 (by decide) rfl ?_
  refine v_icmp_lt (pc' := 12) (tgt := 15) X dX7_writeVar_9 (by decide) rfl (fun hc_9 => ?_) (fun hc_9 => ?_)
  -- taken 9
  · have hw9 : w9 < 40 := lt_of_nI (b := 40) hc_9 (by omega) (by omega)
    refine v_aload_n (pc' := 16) (i := 1) (j := 1) X dX7_writeVar_15 rfl rfl rfl ?_
    refine fk_X7_100 (pc' := 19) X hi h16 dX7_writeVar_16 rfl ?_
    refine v_aload_n (pc' := 20) (i := 1) (j := 1) X dX7_writeVar_19 rfl rfl rfl ?_
    refine fk_X7_119 (pc' := 23) X hi h16 dX7_writeVar_20 rfl ?_
    refine v_iload_n (pc' := 24) (i := 2) (j := 2) X dX7_writeVar_23 rfl rfl rfl ?_
    refine ak_G8 (pc' := 25) X hi h16 (v := M.2 (tb i + 8) ja) (ja) rfl (by omega) rfl dX7_writeVar_24 rfl ?_
    refine v_callS (pc' := 28) X (st := [.ref (ad (tb i + 18))]) (c_X7_placeOf (n := n) (s := s) (cp := cp) (cq := cq) (ad := ad) (M := M) (v := M.2 (tb i + 8) ja)) k_X7_placeOf w_ml_X7_279 w_st_X7_placeOf (by rw [hR]; exact ⟨Nat.le_of_ble_eq_true rfl, Nat.le_of_ble_eq_true rfl⟩) rfl rfl (Nat.le_of_ble_eq_true rfl) dX7_writeVar_25 rfl (⟨Nat.zero_le _, Nat.zero_le _⟩) ?_
    rintro _ _ ⟨rfl, rfl⟩
    refine v_aload_n (pc' := 29) (i := 1) (j := 1) X dX7_writeVar_28 rfl rfl rfl ?_
    refine fk_X7_119 (pc' := 32) X hi h16 dX7_writeVar_29 rfl ?_
    refine v_iload_n (pc' := 33) (i := 3) (j := 3) X dX7_writeVar_32 rfl rfl rfl ?_
    refine ak_G8 (pc' := 34) X hi h16 (v := M.2 (tb i + 8) jb) (jb) rfl (by omega) rfl dX7_writeVar_33 rfl ?_
    refine v_callVN (pc' := 37) X (st := []) (c_X3_addWrite (M := M) hi h16 (w9 := w9) h4 hw9 (p := (M.2 (tb i + 8) ja).toInt32) (v := M.2 (tb i + 8) jb)) k_X3_addWrite n_ml_X7_327 w_im_X3_addWrite w_se_X3_X3_addWrite (rw_X3 hi h16) (by rw [hR]; exact ⟨Nat.le_of_ble_eq_true rfl, Nat.le_of_ble_eq_true rfl⟩) rfl rfl (Nat.le_of_ble_eq_true rfl) dX7_writeVar_34 rfl (⟨Nat.zero_le _, Nat.zero_le _⟩) ?_
    rintro _ _ ⟨rfl, rfl⟩
    refine v_iconst (pc' := 38) (v := 0) X dX7_writeVar_37 (by decide) rfl ?_
    refine v_ireturn X R (Nat.zero_le _) (Nat.zero_le _) dX7_writeVar_38 ?_
    rw [show gWriteV M (tb i) w9 ja jb = (_, 0) from if_neg (by omega)]
    exact ⟨rfl, rfl⟩
  -- not taken 9
  · refine v_bipush (pc' := 14) (v := (-5)) X dX7_writeVar_12 (by decide) rfl ?_
    refine v_ireturn X R (Nat.zero_le _) (Nat.zero_le _) dX7_writeVar_14 ?_
    have hw9 : w9 = 40 := by
      rcases Nat.lt_or_ge w9 40 with q9 | q9
      · exact absurd (nI_lt (b := 40) q9 (by omega)) hc_9
      · omega
    rw [show gWriteV M (tb i) w9 ja jb = (M, -5) from if_pos hw9]
    exact ⟨rfl, rfl⟩
noncomputable def gReadV (M : vM) (b k r9 nw ja jb : Nat) : vM × Int32 :=
  let v := M.2 (b + 8) jb
  let x := lastI (M.1 (b + 16)) nw v.toInt32
  if 0 ≤ x then (mL M (b + 8) ja (M.2 (b + 17) (nn x)), 0)
  else if (M.1 (b + 18) 5).toInt64 < M.2 16 (pl v) then (gAbort M b k, 0)
  else @ite _ (∃ q, q < r9 ∧ M.1 (b + 15) q = v.toInt32) (Classical.propDecidable _) (mL M (b + 8) ja (M.2 15 (pl v)), 0)
    (if r9 = 40 then (M, -5) else (mL (mI (mI M (b + 15) r9 v.toInt32) (b + 18) 3 (nI (r9 + 1))) (b + 8) ja (M.2 15 (pl v)), 0))
theorem lastI_i {f : Nat → Int32} {v : Int32} : ∀ {k : Nat}, k < 2 ^ 31 → (lastI f k v = -1 ∨ (lastI f k v = nI (nn (lastI f k v)) ∧ nn (lastI f k v) < k))
  | 0, _ => Or.inl rfl
  | k + 1, hk => by
    rw [lastI]
    split
    · exact Or.inr ⟨by rw [nn_nI (by omega)], by rw [nn_nI (by omega)]; omega⟩
    · rcases lastI_i (f := f) (v := v) (k := k) (by omega) with q | ⟨q1, q2⟩
      · exact Or.inl q
      · exact Or.inr ⟨q1, by omega⟩
set_option maxHeartbeats 4000000 in
set_option maxRecDepth 100000 in
theorem c_X7_readVar {l : Launch} {D : va_G} {Y : Nat → ClassId} {zz : Nat → Nat} {n s cp cq : Nat} {ad : Nat → Nat} {M : vM} {i k r9 nw ja jb : Nat} (hi : i < n) (h16 : i < 16) (h13 : M.1 (tb i) 13 = nI k) (hk : k < 24) (h3 : M.1 (tb i + 18) 3 = nI r9) (hr : r9 ≤ 40) (h4 : M.1 (tb i + 18) 4 = nI nw) (hnw : nw ≤ 40) (hja : ja < 16) (hjb : jb < 16) (hp : plOk (M.2 (tb i + 8) jb))  : Ct l D Y zz yX7_readVar cX7_readVar 7 (some FieldType.int) 4 123 [.ref (ad (0)), .ref (ad (tb i)), .int (nI ja), .int (nI jb)] (wK Y n s cp cq ad M) 0 0 (fun r w => r = some (.int (gReadV M (tb i) k r9 nw ja jb).2) ∧ w = wK Y n s cp cq ad (gReadV M (tb i) k r9 nw ja jb).1) := by
  refine v_entry (by decide +kernel) (Nat.le_of_ble_eq_true rfl) ?_
  intro K X R hR hnm hl hD hY hz
  subst hl hD hY hz
  refine v_sub (lv' := [(0, .ref (ad (0))), (1, .ref (ad (tb i))), (2, .int (nI ja)), (3, .int (nI jb))]) [0, 1, 2, 3] rfl ?_
  have hp1 := hp.1
  have hp2 := hp.2
  refine v_aload_n (pc' := 1) (i := 1) (j := 1) X dX7_readVar_0 rfl rfl rfl ?_
  refine fk_X7_100 (pc' := 4) X hi h16 dX7_readVar_1 rfl ?_
  refine v_astore (pc' := 6) (lv' := [(4, .ref (ad (tb i + 18))), (0, .ref (ad (0))), (1, .ref (ad (tb i))), (2, .int (nI ja)), (3, .int (nI jb))]) X dX7_readVar_4 (by decide) rfl rfl ?_
  refine v_aload_n (pc' := 7) (i := 1) (j := 2) X dX7_readVar_6 rfl rfl rfl ?_
  refine fk_X7_119 (pc' := 10) X hi h16 dX7_readVar_7 rfl ?_
  refine v_iload_n (pc' := 11) (i := 3) (j := 4) X dX7_readVar_10 rfl rfl rfl ?_
  refine ak_G8 (pc' := 12) X hi h16 (v := M.2 (tb i + 8) jb) (jb) rfl (by omega) rfl dX7_readVar_11 rfl ?_
  refine v_callS (pc' := 15) X (st := []) (c_X7_placeOf (n := n) (s := s) (cp := cp) (cq := cq) (ad := ad) (M := M) (v := M.2 (tb i + 8) jb)) k_X7_placeOf w_ml_X7_279 w_st_X7_placeOf (by rw [hR]; exact ⟨Nat.le_of_ble_eq_true rfl, Nat.le_of_ble_eq_true rfl⟩) rfl rfl (Nat.le_of_ble_eq_true rfl) dX7_readVar_12 rfl (⟨Nat.zero_le _, Nat.zero_le _⟩) ?_
  rintro _ _ ⟨rfl, rfl⟩
  refine v_istore (pc' := 17) (lv' := [(5, .int ((M.2 (tb i + 8) jb).toInt32)), (4, .ref (ad (tb i + 18))), (0, .ref (ad (0))), (1, .ref (ad (tb i))), (2, .int (nI ja)), (3, .int (nI jb))]) X dX7_readVar_15 (by decide) rfl rfl ?_
  refine v_aload (pc' := 19) (j := 1) X dX7_readVar_17 rfl rfl ?_
  refine v_iload (pc' := 21) (j := 0) X dX7_readVar_19 rfl rfl ?_
  refine v_callVN (pc' := 24) X (st := []) (c_X3_lastWriteOf (M := M) hi h16 (nw := nw) h4 hnw (p := (M.2 (tb i + 8) jb).toInt32)) k_X3_lastWriteOf n_ml_X7_311 w_im_X3_lastWriteOf w_se_X3_X3_lastWriteOf (rw_X3 hi h16) (by rw [hR]; exact ⟨Nat.le_of_ble_eq_true rfl, Nat.le_of_ble_eq_true rfl⟩) rfl rfl (Nat.le_of_ble_eq_true rfl) dX7_readVar_21 rfl (⟨Nat.zero_le _, Nat.zero_le _⟩) ?_
  rintro _ _ ⟨rfl, rfl⟩
  refine v_istore (pc' := 26) (lv' := [(6, .int (lastI (M.1 (tb i + 16)) nw (M.2 (tb i + 8) jb).toInt32)), (5, .int ((M.2 (tb i + 8) jb).toInt32)), (4, .ref (ad (tb i + 18))), (0, .ref (ad (0))), (1, .ref (ad (tb i))), (2, .int (nI ja)), (3, .int (nI jb))]) X dX7_readVar_24 (by decide) rfl rfl ?_
  refine v_iload (pc' := 28) (j := 0) X dX7_readVar_26 rfl rfl ?_
  refine v_if_lt (pc' := 31) (tgt := 47) X dX7_readVar_28 (by decide) rfl (fun hc_28 => ?_) (fun hc_28 => ?_)
  -- taken 28
  · refine v_aload_n (pc' := 48) (i := 0) (j := 3) X dX7_readVar_47 rfl rfl rfl ?_
    refine fk_X7_26 (pc' := 51) X dX7_readVar_48 rfl ?_
    refine fk_X7_132 (pc' := 54) X dX7_readVar_51 rfl ?_
    refine v_iload (pc' := 56) (j := 1) X dX7_readVar_54 rfl rfl ?_
    refine ak_K16 (pc' := 57) X (v := M.2 16 (pl (M.2 (tb i + 8) jb))) (pl (M.2 (tb i + 8) jb)) hp2 (by omega) rfl dX7_readVar_56 rfl ?_
    refine v_aload (pc' := 59) (j := 2) X dX7_readVar_57 rfl rfl ?_
    refine fk_X7_116 (pc' := 62) X hi h16 (v := M.1 (tb i + 18) 5) rfl dX7_readVar_59 rfl ?_
    refine v_i2l (pc' := 63) X dX7_readVar_62 rfl rfl ?_
    refine v_lcmp (pc' := 64) X dX7_readVar_63 rfl ?_
    refine v_lif_le (pc' := 67) (tgt := 74) X dX7_readVar_64 (by decide) rfl (fun hc_64 => ?_) (fun hc_64 => ?_)
    -- taken 64
    · refine v_aload (pc' := 76) (j := 2) X dX7_readVar_74 rfl rfl ?_
      refine v_iload (pc' := 78) (j := 1) X dX7_readVar_76 rfl rfl ?_
      refine v_callVN (pc' := 81) X (st := []) (c_X3_hasRead (M := M) hi h16 (r9 := r9) h3 hr (p := (M.2 (tb i + 8) jb).toInt32)) k_X3_hasRead n_ml_X7_320 w_im_X3_hasRead w_se_X3_X3_hasRead (rw_X3 hi h16) (by rw [hR]; exact ⟨Nat.le_of_ble_eq_true rfl, Nat.le_of_ble_eq_true rfl⟩) rfl rfl (Nat.le_of_ble_eq_true rfl) dX7_readVar_78 rfl (⟨Nat.zero_le _, Nat.zero_le _⟩) ?_
      rintro _ _ ⟨rfl, rfl⟩
      refine v_ifB_ne (pc' := 84) (tgt := 104) X dX7_readVar_81 (by decide) rfl (fun hc_81 => ?_) (fun hc_81 => ?_)
      -- taken 81
      · refine v_aload_n (pc' := 105) (i := 1) (j := 4) X dX7_readVar_104 rfl rfl rfl ?_
        refine fk_X7_119 (pc' := 108) X hi h16 dX7_readVar_105 rfl ?_
        refine v_iload_n (pc' := 109) (i := 2) (j := 5) X dX7_readVar_108 rfl rfl rfl ?_
        refine v_aload_n (pc' := 110) (i := 0) (j := 3) X dX7_readVar_109 rfl rfl rfl ?_
        refine fk_X7_26 (pc' := 113) X dX7_readVar_110 rfl ?_
        refine fk_X7_129 (pc' := 116) X dX7_readVar_113 rfl ?_
        refine v_iload (pc' := 118) (j := 1) X dX7_readVar_116 rfl rfl ?_
        refine ak_K15 (pc' := 119) X (v := M.2 15 (pl (M.2 (tb i + 8) jb))) (pl (M.2 (tb i + 8) jb)) hp2 (by omega) rfl dX7_readVar_118 rfl ?_
        refine aq_G8 (pc' := 120) X hi h16 (ja) rfl (by omega) dX7_readVar_119 rfl ?_
        refine v_iconst (pc' := 121) (v := 0) X dX7_readVar_120 (by decide) rfl ?_
        refine v_ireturn X R (Nat.zero_le _) (Nat.zero_le _) dX7_readVar_121 ?_
        have hF : gReadV M (tb i) k r9 nw ja jb = ((mL M (tb i + 8) ja (M.2 15 (pl (M.2 (tb i + 8) jb)))), 0) := by
          unfold gReadV
          dsimp only
          rw [if_neg (Int32.not_le.mpr hc_28)]
          rw [if_neg (Int64.not_lt.mpr hc_64)]
          exact if_pos hc_81
        rw [hF]
        exact ⟨rfl, rfl⟩
      -- not taken 81
      · refine v_aload (pc' := 86) (j := 2) X dX7_readVar_84 rfl rfl ?_
        refine fk_X7_104 (pc' := 89) X hi h16 (v := nI r9) h3 dX7_readVar_86 rfl ?_
        refine v_bipush (pc' := 91) (v := 40) X dX7_readVar_89 (by decide) rfl ?_
        refine v_icmp_lt (pc' := 94) (tgt := 97) X dX7_readVar_91 (by decide) rfl (fun hc_91 => ?_) (fun hc_91 => ?_)
        -- taken 91
        · have hr4 : r9 < 40 := lt_of_nI (b := 40) hc_91 (by omega) (by omega)
          refine v_aload (pc' := 99) (j := 2) X dX7_readVar_97 rfl rfl ?_
          refine v_iload (pc' := 101) (j := 1) X dX7_readVar_99 rfl rfl ?_
          refine v_callVN (pc' := 104) X (st := []) (c_X3_addRead (M := M) hi h16 (r9 := r9) h3 hr4 (p := (M.2 (tb i + 8) jb).toInt32)) k_X3_addRead n_ml_X7_324 w_im_X3_addRead w_se_X3_X3_addRead (rw_X3 hi h16) (by rw [hR]; exact ⟨Nat.le_of_ble_eq_true rfl, Nat.le_of_ble_eq_true rfl⟩) rfl rfl (Nat.le_of_ble_eq_true rfl) dX7_readVar_101 rfl (⟨Nat.zero_le _, Nat.zero_le _⟩) ?_
          rintro _ _ ⟨rfl, rfl⟩
          refine v_aload_n (pc' := 105) (i := 1) (j := 4) X dX7_readVar_104 rfl rfl rfl ?_
          refine fk_X7_119 (pc' := 108) X hi h16 dX7_readVar_105 rfl ?_
          refine v_iload_n (pc' := 109) (i := 2) (j := 5) X dX7_readVar_108 rfl rfl rfl ?_
          refine v_aload_n (pc' := 110) (i := 0) (j := 3) X dX7_readVar_109 rfl rfl rfl ?_
          refine fk_X7_26 (pc' := 113) X dX7_readVar_110 rfl ?_
          refine fk_X7_129 (pc' := 116) X dX7_readVar_113 rfl ?_
          refine v_iload (pc' := 118) (j := 1) X dX7_readVar_116 rfl rfl ?_
          refine ak_K15 (pc' := 119) X (v := M.2 15 (pl (M.2 (tb i + 8) jb))) (pl (M.2 (tb i + 8) jb)) hp2 (by omega) ((congrFun (congrFun (mI_2 _ _ _ _) _) _).trans (congrFun (congrFun (mI_2 _ _ _ _) _) _)) dX7_readVar_118 rfl ?_
          refine aq_G8 (pc' := 120) X hi h16 (ja) rfl (by omega) dX7_readVar_119 rfl ?_
          refine v_iconst (pc' := 121) (v := 0) X dX7_readVar_120 (by decide) rfl ?_
          refine v_ireturn X R (Nat.zero_le _) (Nat.zero_le _) dX7_readVar_121 ?_
          have hF : gReadV M (tb i) k r9 nw ja jb = ((mL (mI (mI M (tb i + 15) r9 ((M.2 (tb i + 8) jb).toInt32)) (tb i + 18) 3 (nI (r9 + 1))) (tb i + 8) ja (M.2 15 (pl (M.2 (tb i + 8) jb)))), 0) := by
            unfold gReadV
            dsimp only
            rw [if_neg (Int32.not_le.mpr hc_28)]
            rw [if_neg (Int64.not_lt.mpr hc_64)]
            rw [if_neg hc_81]
            exact if_neg (by omega)
          rw [hF]
          exact ⟨rfl, rfl⟩
        -- not taken 91
        · refine v_bipush (pc' := 96) (v := (-5)) X dX7_readVar_94 (by decide) rfl ?_
          refine v_ireturn X R (Nat.zero_le _) (Nat.zero_le _) dX7_readVar_96 ?_
          have hF : gReadV M (tb i) k r9 nw ja jb = (M, (-5)) := by
            have hr4 : r9 = 40 := by
              rcases Nat.lt_or_ge r9 40 with q9 | q9
              · exact absurd (nI_lt (b := 40) q9 (by omega)) hc_91
              · omega
            unfold gReadV
            dsimp only
            rw [if_neg (Int32.not_le.mpr hc_28)]
            rw [if_neg (Int64.not_lt.mpr hc_64)]
            rw [if_neg hc_81]
            exact if_pos hr4
          rw [hF]
          exact ⟨rfl, rfl⟩
    -- not taken 64
    · refine v_aload_n (pc' := 68) (i := 0) (j := 3) X dX7_readVar_67 rfl rfl rfl ?_
      refine v_aload_n (pc' := 69) (i := 1) (j := 4) X dX7_readVar_68 rfl rfl rfl ?_
      refine v_callV (pc' := 72) X (st := []) (c_X7_abort (M := M) hi h16 (k := k) h13 hk) k_X7_abort w_ml_X7_317 w_im_X7_abort w_se_X7_X7_abort rw_X7 (by rw [hR]; exact ⟨Nat.le_of_ble_eq_true rfl, Nat.le_of_ble_eq_true rfl⟩) rfl rfl (Nat.le_of_ble_eq_true rfl) dX7_readVar_69 rfl (⟨Nat.zero_le _, Nat.zero_le _⟩) ?_
      rintro _ _ ⟨rfl, rfl⟩
      refine v_iconst (pc' := 73) (v := 0) X dX7_readVar_72 (by decide) rfl ?_
      refine v_ireturn X R (Nat.zero_le _) (Nat.zero_le _) dX7_readVar_73 ?_
      have hF : gReadV M (tb i) k r9 nw ja jb = ((gAbort M (tb i) k), 0) := by
        unfold gReadV
        dsimp only
        rw [if_neg (Int32.not_le.mpr hc_28)]
        exact if_pos hc_64
      rw [hF]
      exact ⟨rfl, rfl⟩
  -- not taken 28
  · obtain ⟨hx1, hx2⟩ := (lastI_i (f := M.1 (tb i + 16)) (v := (M.2 (tb i + 8) jb).toInt32) (k := nw) (by omega)).resolve_left (fun z9 => hc_28 (by rw [z9]; decide))
    refine v_aload_n (pc' := 32) (i := 1) (j := 4) X dX7_readVar_31 rfl rfl rfl ?_
    refine fk_X7_119 (pc' := 35) X hi h16 dX7_readVar_32 rfl ?_
    refine v_iload_n (pc' := 36) (i := 2) (j := 5) X dX7_readVar_35 rfl rfl rfl ?_
    refine v_aload (pc' := 38) (j := 2) X dX7_readVar_36 rfl rfl ?_
    refine fk_X7_314 (pc' := 41) X hi h16 dX7_readVar_38 rfl ?_
    refine v_iload (pc' := 43) (j := 0) X dX7_readVar_41 rfl rfl ?_
    refine ak_G17 (pc' := 44) X hi h16 (v := M.2 (tb i + 17) (nn (lastI (M.1 (tb i + 16)) nw (M.2 (tb i + 8) jb).toInt32))) (nn (lastI (M.1 (tb i + 16)) nw (M.2 (tb i + 8) jb).toInt32)) hx1 (by omega) rfl dX7_readVar_43 rfl ?_
    refine aq_G8 (pc' := 45) X hi h16 (ja) rfl (by omega) dX7_readVar_44 rfl ?_
    refine v_iconst (pc' := 46) (v := 0) X dX7_readVar_45 (by decide) rfl ?_
    refine v_ireturn X R (Nat.zero_le _) (Nat.zero_le _) dX7_readVar_46 ?_
    have hF : gReadV M (tb i) k r9 nw ja jb = ((mL M (tb i + 8) ja (M.2 (tb i + 17) (nn (lastI (M.1 (tb i + 16)) nw (M.2 (tb i + 8) jb).toInt32)))), 0) := by
      unfold gReadV
      dsimp only
      exact if_pos (Int32.not_lt.mp hc_28)
    rw [hF]
    exact ⟨rfl, rfl⟩
