/-! GUARDED, OUTER (reference), instruction by instruction -/
theorem rd_plOk {M : vM} {us b r : Nat} (hu : us ≤ 200) (h : ∀ k, k < r → vV us (M.1 17) (M.2 (b + 15) k)) : ∀ k, k < r → plOk (M.2 (b + 15) k) := fun k hk => (h k hk).plOk hu
theorem shf_0 {f : Nat → Int32} : (fun p9 => if p9 < 1 - 1 then f (p9 + 1) else f p9) = f := by
  funext p; exact if_neg (by omega)
theorem shf_s {f : Nat → Int32} {k : Nat} (hk : 1 ≤ k) : upd (fun p9 => if p9 < k - 1 then f (p9 + 1) else f p9) (k - 1) (f k) = (fun p9 => if p9 < k + 1 - 1 then f (p9 + 1) else f p9) := by
  funext q
  show (if q = k - 1 then f k else if q < k - 1 then f (q + 1) else f q) = _
  by_cases h1 : q = k - 1
  · rw [if_pos h1, if_pos (by omega)]; congr 1; omega
  · rw [if_neg h1]
    by_cases h2 : q < k - 1
    · rw [if_pos h2, if_pos (by omega)]
    · rw [if_neg h2, if_neg (by omega)]
set_option maxHeartbeats 4000000 in
set_option maxRecDepth 100000 in
theorem c_X9_guarded_16 {l : Launch} {D : va_G} {Y : Nat → ClassId} {zz : Nat → Nat} {n sz us pd : Nat} {ad : Nat → Nat} {M : vM} {i ca e r w : Nat} (hi : i < n) (hg : gI M n sz us pd) (hts : ∀ i, i < n → ∃ ca e r w, tI M us (tb i) ca e r w) (hI : tI M us (tb i) ca e r w) {x y : Int32} (hx1 : x = nI (nn x)) (hx2 : nn x < 16) (hy1 : y = nI (nn y)) (hy2 : nn y < 16) {k0 : Nat} (hk0 : k0 < e) (h0 : M.1 (tb i + 11) k0 = 0) (hV : isV (M.2 (tb i + 8) (nn y))) : Ct l D Y zz yX9_guarded cX9_guarded 5 (some FieldType.int) 4 90 [.ref (ad (0)), .ref (ad (tb i)), .int 16, .int x, .int y] (wM Y n ad M) 0 0 (fun r w => r = some (.int (fGuard M n (tb i) 16 x y).2) ∧ w = wM Y n ad (fGuard M n (tb i) 16 x y).1) := by
  refine v_entry (by decide +kernel) (Nat.le_of_ble_eq_true rfl) ?_
  intro K X R hR hnm hl hD hY hz
  subst hl hD hY hz
  refine v_sub (lv' := [(0, .ref (ad (0))), (1, .ref (ad (tb i))), (2, .int 16), (3, .int x), (4, .int y)]) [0, 1, 2, 3, 4] rfl ?_
  obtain ⟨hsz, hsz2, hn2, hn1, hn16, hus, hus2, hpd, hpd2, h17, hfs, hvi, hgl⟩ := id hg
  obtain ⟨h3, hca, h4, he, h5, hr, h6, hw, hso, huq, hct, hctm, hwt, hwtm, hwt0, hpk, hst, hem, hov, hrg, hsv, hrd, hwr, hva⟩ := id hI
  have hpv := ((hrg (nn y) hy2).isVV hus2 hV).plOk hus2
  have hfirst := tI.at (M := M) (b := tb i) huq hk0 h0
  refine v_iload_n (pc' := 1) (i := 2) (j := 2) X dX9_guarded_0 rfl rfl rfl ?_
  refine v_tableIn (off := 47) (tgt := 48) X dX9_guarded_1 (by decide) (by decide) (by decide) (by decide) ?_
  refine v_aload_n (pc' := 49) (i := 0) (j := 0) X dX9_guarded_48 rfl rfl rfl ?_
  refine v_aload_n (pc' := 50) (i := 1) (j := 1) X dX9_guarded_49 rfl rfl rfl ?_
  refine v_iload_n (pc' := 51) (i := 3) (j := 3) X dX9_guarded_50 rfl rfl rfl ?_
  refine v_aload_n (pc' := 52) (i := 1) (j := 1) X dX9_guarded_51 rfl rfl rfl ?_
  refine fg_X9_105 (pc' := 55) X hi dX9_guarded_52 rfl ?_
  refine v_iload (pc' := 57) (j := 4) X dX9_guarded_55 rfl rfl ?_
  refine ag_T8 (pc' := 58) X hi (v := M.2 (tb i + 8) (nn y)) (nn y) hy1 (by omega) rfl dX9_guarded_57 rfl ?_
  refine v_callV (pc' := 61) X (st := []) (c_X9_reading (M := M) hi (e := e) (k := k0) h4 he hk0 h0 hfirst h6 hw h5 hr hx1 hx2 hpv) k_X9_reading w_ml_X9_168 w_im_X9_reading w_se_X9_X9_reading (rv_M) (by rw [hR]; exact ⟨Nat.le_of_ble_eq_true rfl, Nat.le_of_ble_eq_true rfl⟩) rfl rfl (Nat.le_of_ble_eq_true rfl) dX9_guarded_58 rfl (⟨Nat.zero_le _, Nat.zero_le _⟩) ?_
  rintro _ _ ⟨rfl, rfl⟩
  refine v_ireturn X R (Nat.zero_le _) (Nat.zero_le _) dX9_guarded_61 ?_
  have hF : fGuard M n (tb i) 16 x y = ((fReading M (tb i) (nn x) (M.2 (tb i + 8) (nn y))).1, (fReading M (tb i) (nn x) (M.2 (tb i + 8) (nn y))).2) := rfl
  rw [hF]
  exact ⟨rfl, rfl⟩
set_option maxHeartbeats 4000000 in
set_option maxRecDepth 100000 in
theorem c_X9_guarded_17 {l : Launch} {D : va_G} {Y : Nat → ClassId} {zz : Nat → Nat} {n sz us pd : Nat} {ad : Nat → Nat} {M : vM} {i ca e r w : Nat} (hi : i < n) (hg : gI M n sz us pd) (hts : ∀ i, i < n → ∃ ca e r w, tI M us (tb i) ca e r w) (hI : tI M us (tb i) ca e r w) {x y : Int32} (hx1 : x = nI (nn x)) (hx2 : nn x < 16) (hy1 : y = nI (nn y)) (hy2 : nn y < 16) {k0 : Nat} (hk0 : k0 < e) (h0 : M.1 (tb i + 11) k0 = 0) : Ct l D Y zz yX9_guarded cX9_guarded 5 (some FieldType.int) 0 0 [.ref (ad (0)), .ref (ad (tb i)), .int 17, .int x, .int y] (wM Y n ad M) 0 0 (fun r w => r = some (.int (fGuard M n (tb i) 17 x y).2) ∧ w = wM Y n ad (fGuard M n (tb i) 17 x y).1) := by
  refine v_entry (by decide +kernel) (Nat.le_of_ble_eq_true rfl) ?_
  intro K X R hR hnm hl hD hY hz
  subst hl hD hY hz
  refine v_sub (lv' := [(0, .ref (ad (0))), (1, .ref (ad (tb i))), (2, .int 17), (3, .int x), (4, .int y)]) [0, 1, 2, 3, 4] rfl ?_
  obtain ⟨hsz, hsz2, hn2, hn1, hn16, hus, hus2, hpd, hpd2, h17, hfs, hvi, hgl⟩ := id hg
  obtain ⟨h3, hca, h4, he, h5, hr, h6, hw, hso, huq, hct, hctm, hwt, hwtm, hwt0, hpk, hst, hem, hov, hrg, hsv, hrd, hwr, hva⟩ := id hI
  have hfirst := tI.at (M := M) (b := tb i) huq hk0 h0
  refine v_iload_n (pc' := 1) (i := 2) (j := 2) X dX9_guarded_0 rfl rfl rfl ?_
  refine v_tableIn (off := 61) (tgt := 62) X dX9_guarded_1 (by decide) (by decide) (by decide) (by decide) ?_
  refine v_aload_n (pc' := 63) (i := 1) (j := 1) X dX9_guarded_62 rfl rfl rfl ?_
  refine fg_X9_172 (pc' := 66) X hi (v := nI w) h6 dX9_guarded_63 rfl ?_
  refine v_bipush (pc' := 68) (v := 40) X dX9_guarded_66 (by decide) rfl ?_
  refine v_icmp_ne (pc' := 71) (tgt := 74) X dX9_guarded_68 (by decide) rfl (fun hc_68 => ?_) (fun hc_68 => ?_)
  -- taken 68
  · have hw40 := i40_lt hc_68 hw
    refine v_aload_n (pc' := 75) (i := 1) (j := 1) X dX9_guarded_74 rfl rfl rfl ?_
    refine fg_X9_175 (pc' := 78) X hi dX9_guarded_75 rfl ?_
    refine v_aload_n (pc' := 79) (i := 1) (j := 1) X dX9_guarded_78 rfl rfl rfl ?_
    refine fg_X9_172 (pc' := 82) X hi (v := nI w) h6 dX9_guarded_79 rfl ?_
    refine v_aload_n (pc' := 83) (i := 1) (j := 1) X dX9_guarded_82 rfl rfl rfl ?_
    refine fg_X9_105 (pc' := 86) X hi dX9_guarded_83 rfl ?_
    refine v_iload_n (pc' := 87) (i := 3) (j := 3) X dX9_guarded_86 rfl rfl rfl ?_
    refine ag_T8 (pc' := 88) X hi (v := M.2 (tb i + 8) (nn x)) (nn x) hx1 (by omega) rfl dX9_guarded_87 rfl ?_
    refine as_T16 (pc' := 89) X hi (w) rfl (by omega) dX9_guarded_88 rfl ?_
    refine v_aload_n (pc' := 90) (i := 1) (j := 1) X dX9_guarded_89 rfl rfl rfl ?_
    refine fg_X9_178 (pc' := 93) X hi dX9_guarded_90 rfl ?_
    refine v_aload_n (pc' := 94) (i := 1) (j := 1) X dX9_guarded_93 rfl rfl rfl ?_
    refine fg_X9_172 (pc' := 97) X hi (v := nI w) ((congrFun (congrFun (mL_1 _ _ _ _) _) _).trans h6) dX9_guarded_94 rfl ?_
    refine v_aload_n (pc' := 98) (i := 1) (j := 1) X dX9_guarded_97 rfl rfl rfl ?_
    refine fg_X9_105 (pc' := 101) X hi dX9_guarded_98 rfl ?_
    refine v_iload (pc' := 103) (j := 4) X dX9_guarded_101 rfl rfl ?_
    refine ag_T8 (pc' := 104) X hi (v := M.2 (tb i + 8) (nn y)) (nn y) hy1 (by omega) (congrFun (mL_n _ _ _ _ (by omega)) _) dX9_guarded_103 rfl ?_
    refine as_T17 (pc' := 105) X hi (w) rfl (by omega) dX9_guarded_104 rfl ?_
    refine v_aload_n (pc' := 106) (i := 1) (j := 1) X dX9_guarded_105 rfl rfl rfl ?_
    refine v_dup (pc' := 107) X dX9_guarded_106 rfl rfl ?_
    refine fg_X9_172 (pc' := 110) X hi (v := nI w) ((congrFun (congrFun (mL_1 _ _ _ _) _) _).trans ((congrFun (congrFun (mL_1 _ _ _ _) _) _).trans h6)) dX9_guarded_107 rfl ?_
    refine v_iconst (pc' := 111) (v := 1) X dX9_guarded_110 (by decide) rfl ?_
    refine v_iaddV (pc' := 112) (v := nI (w + 1)) X (nI_add (w) 1) dX9_guarded_111 rfl ?_
    refine fp_X9_172 (pc' := 115) X hi dX9_guarded_112 rfl ?_
    refine v_iconst (pc' := 116) (v := 0) X dX9_guarded_115 (by decide) rfl ?_
    refine v_ireturn X R (Nat.zero_le _) (Nat.zero_le _) dX9_guarded_116 ?_
    have hF : fGuard M n (tb i) 17 x y = ((mI (mL (mL M (tb i + 16) w (M.2 (tb i + 8) (nn x))) (tb i + 17) w (M.2 (tb i + 8) (nn y))) (tb i) 6 (nI (w + 1))), 0) := by
      show (if M.1 (tb i) 6 = 40 then _ else _) = _
      rw [h6, if_neg hc_68]
      rw [nn_nI (by omega), nI_1]
      try rfl
    rw [hF]
    exact ⟨rfl, rfl⟩
  -- not taken 68
  · refine v_bipush (pc' := 73) (v := (-5)) X dX9_guarded_71 (by decide) rfl ?_
    refine v_ireturn X R (Nat.zero_le _) (Nat.zero_le _) dX9_guarded_73 ?_
    have hF : fGuard M n (tb i) 17 x y = (M, (-5)) := by
      show (if M.1 (tb i) 6 = 40 then _ else _) = _
      rw [h6, if_pos hc_68]
    rw [hF]
    exact ⟨rfl, rfl⟩
set_option maxHeartbeats 4000000 in
set_option maxRecDepth 100000 in
theorem c_X9_guarded_18 {l : Launch} {D : va_G} {Y : Nat → ClassId} {zz : Nat → Nat} {n sz us pd : Nat} {ad : Nat → Nat} {M : vM} {i ca e r w : Nat} (hi : i < n) (hg : gI M n sz us pd) (hts : ∀ i, i < n → ∃ ca e r w, tI M us (tb i) ca e r w) (hI : tI M us (tb i) ca e r w) {x y : Int32} : Ct l D Y zz yX9_guarded cX9_guarded 5 (some FieldType.int) 1 23 [.ref (ad (0)), .ref (ad (tb i)), .int 18, .int x, .int y] (wM Y n ad M) 0 0 (fun r w => r = some (.int (fGuard M n (tb i) 18 x y).2) ∧ w = wM Y n ad (fGuard M n (tb i) 18 x y).1) := by
  refine v_entry (by decide +kernel) (Nat.le_of_ble_eq_true rfl) ?_
  intro K X R hR hnm hl hD hY hz
  subst hl hD hY hz
  refine v_sub (lv' := [(0, .ref (ad (0))), (1, .ref (ad (tb i))), (2, .int 18), (3, .int x), (4, .int y)]) [0, 1, 2, 3, 4] rfl ?_
  obtain ⟨hsz, hsz2, hn2, hn1, hn16, hus, hus2, hpd, hpd2, h17, hfs, hvi, hgl⟩ := id hg
  obtain ⟨h3, hca, h4, he, h5, hr, h6, hw, hso, huq, hct, hctm, hwt, hwtm, hwt0, hpk, hst, hem, hov, hrg, hsv, hrd, hwr, hva⟩ := id hI
  refine v_iload_n (pc' := 1) (i := 2) (j := 2) X dX9_guarded_0 rfl rfl rfl ?_
  refine v_tableIn (off := 116) (tgt := 117) X dX9_guarded_1 (by decide) (by decide) (by decide) (by decide) ?_
  refine v_aload_n (pc' := 118) (i := 1) (j := 1) X dX9_guarded_117 rfl rfl rfl ?_
  refine fg_X9_121 (pc' := 121) X hi (v := nI e) h4 dX9_guarded_118 rfl ?_
  refine v_bipush (pc' := 123) (v := 24) X dX9_guarded_121 (by decide) rfl ?_
  refine v_icmp_ne (pc' := 126) (tgt := 129) X dX9_guarded_123 (by decide) rfl (fun hc_123 => ?_) (fun hc_123 => ?_)
  -- taken 123
  · have he24 : e < 24 := by
      rcases Nat.lt_or_ge e 24 with q9 | q9
      · exact q9
      · exact absurd (congrArg nI (show e = 24 by omega)) hc_123
    refine v_aload_n (pc' := 130) (i := 1) (j := 1) X dX9_guarded_129 rfl rfl rfl ?_
    refine v_aload_n (pc' := 131) (i := 0) (j := 0) X dX9_guarded_130 rfl rfl rfl ?_
    refine fg_X9_161 (pc' := 134) X (v := M.1 0 4) rfl dX9_guarded_131 rfl ?_
    refine fp_X9_155 (pc' := 137) X hi dX9_guarded_134 rfl ?_
    refine v_aload_n (pc' := 138) (i := 1) (j := 1) X dX9_guarded_137 rfl rfl rfl ?_
    refine v_iconst (pc' := 139) (v := 0) X dX9_guarded_138 (by decide) rfl ?_
    refine v_aload_n (pc' := 140) (i := 1) (j := 1) X dX9_guarded_139 rfl rfl rfl ?_
    refine fg_X9_69 (pc' := 143) X hi (v := M.1 (tb i) 2) (mI_o _ _ _ _ (by decide)) dX9_guarded_140 rfl ?_
    refine v_callV (pc' := 146) X (st := []) (c_X8_nest (M := (mI M (tb i) 7 (M.1 0 4))) hi (e := e) ((mI_o _ _ _ _ (by decide)).trans h4) (by omega) (kind := 0) (to := M.1 (tb i) 2)) k_X8_nest w_ml_X9_181 w_im_X8_nest w_se_X8_X8_nest (rv_T hi) (by rw [hR]; exact ⟨Nat.le_of_ble_eq_true rfl, Nat.le_of_ble_eq_true rfl⟩) rfl rfl (Nat.le_of_ble_eq_true rfl) dX9_guarded_143 rfl (⟨Nat.zero_le _, Nat.zero_le _⟩) ?_
    rintro _ _ ⟨rfl, rfl⟩
    refine v_iconst (pc' := 147) (v := 0) X dX9_guarded_146 (by decide) rfl ?_
    refine v_ireturn X R (Nat.zero_le _) (Nat.zero_le _) dX9_guarded_147 ?_
    have hF : fGuard M n (tb i) 18 x y = ((fNest (mI M (tb i) 7 (M.1 0 4)) (tb i) e 0 (M.1 (tb i) 2)), 0) := by
      show (if M.1 (tb i) 4 = 24 then _ else _) = _
      rw [h4, if_neg hc_123]
      rw [nn_nI (by omega)]
      try rfl
    rw [hF]
    exact ⟨rfl, rfl⟩
  -- not taken 123
  · refine v_bipush (pc' := 128) (v := (-4)) X dX9_guarded_126 (by decide) rfl ?_
    refine v_ireturn X R (Nat.zero_le _) (Nat.zero_le _) dX9_guarded_128 ?_
    have hF : fGuard M n (tb i) 18 x y = (M, (-4)) := by
      show (if M.1 (tb i) 4 = 24 then _ else _) = _
      rw [h4, if_pos hc_123]
    rw [hF]
    exact ⟨rfl, rfl⟩
set_option maxHeartbeats 4000000 in
set_option maxRecDepth 100000 in
theorem c_X9_guarded_19 {l : Launch} {D : va_G} {Y : Nat → ClassId} {zz : Nat → Nat} {n sz us pd : Nat} {ad : Nat → Nat} {M : vM} {i ca e r w : Nat} (hi : i < n) (hg : gI M n sz us pd) (hts : ∀ i, i < n → ∃ ca e r w, tI M us (tb i) ca e r w) (hI : tI M us (tb i) ca e r w) {x y : Int32} {k0 : Nat} (hk0 : k0 < e) (h0 : M.1 (tb i + 11) k0 = 0) (hst1 : M.1 (tb i) 0 = 1) (hwake : ∀ q, q < n → M.1 (tb q) 0 = 2 → canWake M (tb q)) : Ct l D Y zz yX9_guarded cX9_guarded 5 (some FieldType.int) 3 70 [.ref (ad (0)), .ref (ad (tb i)), .int 19, .int x, .int y] (wM Y n ad M) 0 0 (fun r w => r = some (.int (fGuard M n (tb i) 19 x y).2) ∧ w = wM Y n ad (fGuard M n (tb i) 19 x y).1) := by
  refine v_entry (by decide +kernel) (Nat.le_of_ble_eq_true rfl) ?_
  intro K X R hR hnm hl hD hY hz
  subst hl hD hY hz
  refine v_sub (lv' := [(0, .ref (ad (0))), (1, .ref (ad (tb i))), (2, .int 19), (3, .int x), (4, .int y)]) [0, 1, 2, 3, 4] rfl ?_
  obtain ⟨hsz, hsz2, hn2, hn1, hn16, hus, hus2, hpd, hpd2, h17, hfs, hvi, hgl⟩ := id hg
  obtain ⟨h3, hca, h4, he, h5, hr, h6, hw, hso, huq, hct, hctm, hwt, hwtm, hwt0, hpk, hst, hem, hov, hrg, hsv, hrd, hwr, hva⟩ := id hI
  have hfirst := tI.at (M := M) (b := tb i) huq hk0 h0
  refine v_iload_n (pc' := 1) (i := 2) (j := 2) X dX9_guarded_0 rfl rfl rfl ?_
  refine v_tableIn (off := 147) (tgt := 148) X dX9_guarded_1 (by decide) (by decide) (by decide) (by decide) ?_
  refine v_aload_n (pc' := 149) (i := 1) (j := 1) X dX9_guarded_148 rfl rfl rfl ?_
  refine fg_X9_184 (pc' := 152) X hi dX9_guarded_149 rfl ?_
  refine v_aload_n (pc' := 153) (i := 1) (j := 1) X dX9_guarded_152 rfl rfl rfl ?_
  refine fg_X9_121 (pc' := 156) X hi (v := nI e) h4 dX9_guarded_153 rfl ?_
  refine v_iconst (pc' := 157) (v := 1) X dX9_guarded_156 (by decide) rfl ?_
  refine v_isubV (pc' := 158) (v := nI (e - 1)) X (pk_sub (a := e) (b := 1) (by omega)) dX9_guarded_157 rfl ?_
  refine ag_T11 (pc' := 159) X hi (v := M.1 (tb i + 11) (e - 1)) (e - 1) rfl (by omega) rfl dX9_guarded_158 rfl ?_
  refine v_if_eq (pc' := 162) (tgt := 165) X dX9_guarded_159 (by decide) rfl (fun hc_159 => ?_) (fun hc_159 => ?_)
  -- taken 159
  · refine v_aload_n (pc' := 166) (i := 0) (j := 0) X dX9_guarded_165 rfl rfl rfl ?_
    refine v_aload_n (pc' := 167) (i := 1) (j := 1) X dX9_guarded_166 rfl rfl rfl ?_
    refine v_callV (pc' := 170) X (st := []) (c_X9_valid (M := M) hi (e := r) h5 hr (rd_plOk hus2 hrd)) k_X9_valid w_ml_X9_187 w_im_X9_valid w_se_X9_X9_valid (rv_M) (by rw [hR]; exact ⟨Nat.le_of_ble_eq_true rfl, Nat.le_of_ble_eq_true rfl⟩) rfl rfl (Nat.le_of_ble_eq_true rfl) dX9_guarded_167 rfl (⟨Nat.zero_le _, Nat.zero_le _⟩) ?_
    rintro _ _ ⟨rfl, rfl⟩
    refine v_ifB_eq (pc' := 173) (tgt := 181) X dX9_guarded_170 (by decide) rfl (fun hc_170 => ?_) (fun hc_170 => ?_)
    -- taken 170
    · refine v_aload_n (pc' := 182) (i := 0) (j := 0) X dX9_guarded_181 rfl rfl rfl ?_
      refine v_aload_n (pc' := 183) (i := 1) (j := 1) X dX9_guarded_182 rfl rfl rfl ?_
      refine v_callV (pc' := 186) X (st := []) (c_X9_aborted (M := M) hi (e := e) (k := k0) h4 he hk0 h0 hfirst) k_X9_aborted w_ml_X9_195 w_im_X9_aborted w_se_X9_X9_aborted (rv_M) (by rw [hR]; exact ⟨Nat.le_of_ble_eq_true rfl, Nat.le_of_ble_eq_true rfl⟩) rfl rfl (Nat.le_of_ble_eq_true rfl) dX9_guarded_183 rfl (⟨Nat.zero_le _, Nat.zero_le _⟩) ?_
      rintro _ _ ⟨rfl, rfl⟩
      refine v_ireturn X R (Nat.zero_le _) (Nat.zero_le _) dX9_guarded_186 ?_
      have hF : fGuard M n (tb i) 19 x y = ((fAborted M (tb i)), 0) := by
        show (if M.1 (tb i + 11) (nn (M.1 (tb i) 4) - 1) = 0 then _ else _) = _
        rw [h4, nn_nI (by omega)]
        rw [if_pos hc_159]
        rw [if_neg hc_170]
      rw [hF]
      exact ⟨rfl, rfl⟩
    -- not taken 170
    · refine v_aload_n (pc' := 174) (i := 0) (j := 0) X dX9_guarded_173 rfl rfl rfl ?_
      refine v_aload_n (pc' := 175) (i := 1) (j := 1) X dX9_guarded_174 rfl rfl rfl ?_
      refine v_callV (pc' := 178) X (st := []) (c_X9_committed (M := M) hi hn16 hn2 h6 hw (fun k9 hk9 => (hwr k9 hk9).plOk hus2) hst1 hwake) k_X9_committed w_ml_X9_191 w_im_X9_committed w_se_X9_X9_committed (rv_M) (by rw [hR]; exact ⟨Nat.le_of_ble_eq_true rfl, Nat.le_of_ble_eq_true rfl⟩) rfl rfl (Nat.le_of_ble_eq_true rfl) dX9_guarded_175 rfl (⟨Nat.zero_le _, Nat.zero_le _⟩) ?_
      rintro _ _ ⟨rfl, rfl⟩
      refine v_goto (pc' := 186) X dX9_guarded_178 (by decide) ?_
      refine v_ireturn X R (Nat.zero_le _) (Nat.zero_le _) dX9_guarded_186 ?_
      have hF : fGuard M n (tb i) 19 x y = ((fCommitted M n (tb i)), 0) := by
        show (if M.1 (tb i + 11) (nn (M.1 (tb i) 4) - 1) = 0 then _ else _) = _
        rw [h4, nn_nI (by omega)]
        rw [if_pos hc_159]
        rw [if_pos hc_170]
      rw [hF]
      exact ⟨rfl, rfl⟩
  -- not taken 159
  · refine v_bipush (pc' := 164) (v := (-4)) X dX9_guarded_162 (by decide) rfl ?_
    refine v_ireturn X R (Nat.zero_le _) (Nat.zero_le _) dX9_guarded_164 ?_
    have hF : fGuard M n (tb i) 19 x y = (M, (-4)) := by
      show (if M.1 (tb i + 11) (nn (M.1 (tb i) 4) - 1) = 0 then _ else _) = _
      rw [h4, nn_nI (by omega)]
      rw [if_neg hc_159]
    rw [hF]
    exact ⟨rfl, rfl⟩
set_option maxHeartbeats 4000000 in
set_option maxRecDepth 100000 in
theorem c_X9_guarded_20 {l : Launch} {D : va_G} {Y : Nat → ClassId} {zz : Nat → Nat} {n sz us pd : Nat} {ad : Nat → Nat} {M : vM} {i ca e r w : Nat} (hi : i < n) (hg : gI M n sz us pd) (hts : ∀ i, i < n → ∃ ca e r w, tI M us (tb i) ca e r w) (hI : tI M us (tb i) ca e r w) {x y : Int32} {k0 : Nat} (hk0 : k0 < e) (h0 : M.1 (tb i + 11) k0 = 0) : Ct l D Y zz yX9_guarded cX9_guarded 5 (some FieldType.int) 1 23 [.ref (ad (0)), .ref (ad (tb i)), .int 20, .int x, .int y] (wM Y n ad M) 0 0 (fun r w => r = some (.int (fGuard M n (tb i) 20 x y).2) ∧ w = wM Y n ad (fGuard M n (tb i) 20 x y).1) := by
  refine v_entry (by decide +kernel) (Nat.le_of_ble_eq_true rfl) ?_
  intro K X R hR hnm hl hD hY hz
  subst hl hD hY hz
  refine v_sub (lv' := [(0, .ref (ad (0))), (1, .ref (ad (tb i))), (2, .int 20), (3, .int x), (4, .int y)]) [0, 1, 2, 3, 4] rfl ?_
  obtain ⟨hsz, hsz2, hn2, hn1, hn16, hus, hus2, hpd, hpd2, h17, hfs, hvi, hgl⟩ := id hg
  obtain ⟨h3, hca, h4, he, h5, hr, h6, hw, hso, huq, hct, hctm, hwt, hwtm, hwt0, hpk, hst, hem, hov, hrg, hsv, hrd, hwr, hva⟩ := id hI
  have hfirst := tI.at (M := M) (b := tb i) huq hk0 h0
  refine v_iload_n (pc' := 1) (i := 2) (j := 2) X dX9_guarded_0 rfl rfl rfl ?_
  refine v_tableIn (off := 186) (tgt := 187) X dX9_guarded_1 (by decide) (by decide) (by decide) (by decide) ?_
  refine v_aload_n (pc' := 188) (i := 1) (j := 1) X dX9_guarded_187 rfl rfl rfl ?_
  refine fg_X9_121 (pc' := 191) X hi (v := nI e) h4 dX9_guarded_188 rfl ?_
  refine v_bipush (pc' := 193) (v := 24) X dX9_guarded_191 (by decide) rfl ?_
  refine v_icmp_ne (pc' := 196) (tgt := 199) X dX9_guarded_193 (by decide) rfl (fun hc_193 => ?_) (fun hc_193 => ?_)
  -- taken 193
  · have he24 : e < 24 := by
      rcases Nat.lt_or_ge e 24 with q9 | q9
      · exact q9
      · exact absurd (congrArg nI (show e = 24 by omega)) hc_193
    refine v_aload_n (pc' := 200) (i := 1) (j := 1) X dX9_guarded_199 rfl rfl rfl ?_
    refine v_iload_n (pc' := 201) (i := 2) (j := 2) X dX9_guarded_200 rfl rfl rfl ?_
    refine v_bipush (pc' := 203) (v := 20) X dX9_guarded_201 (by decide) rfl ?_
    refine v_icmp_ne (pc' := 206) (tgt := 210) X dX9_guarded_203 (by decide) rfl (fun hc_203 => absurd (by decide) hc_203) (fun _ => ?_)
    refine v_iconst (pc' := 207) (v := 1) X dX9_guarded_206 (by decide) rfl ?_
    refine v_goto (pc' := 211) X dX9_guarded_207 (by decide) ?_
    refine v_iload_n (pc' := 212) (i := 3) (j := 3) X dX9_guarded_211 rfl rfl rfl ?_
    refine v_callV (pc' := 215) X (st := []) (c_X8_nest (M := M) hi (e := e) h4 (by omega) (kind := 1) (to := x)) k_X8_nest w_ml_X9_181 w_im_X8_nest w_se_X8_X8_nest (rv_T hi) (by rw [hR]; exact ⟨Nat.le_of_ble_eq_true rfl, Nat.le_of_ble_eq_true rfl⟩) rfl rfl (Nat.le_of_ble_eq_true rfl) dX9_guarded_212 rfl (⟨Nat.zero_le _, Nat.zero_le _⟩) ?_
    rintro _ _ ⟨rfl, rfl⟩
    refine v_iconst (pc' := 216) (v := 0) X dX9_guarded_215 (by decide) rfl ?_
    refine v_ireturn X R (Nat.zero_le _) (Nat.zero_le _) dX9_guarded_216 ?_
    have hF : fGuard M n (tb i) 20 x y = ((fNest M (tb i) e 1 x), 0) := by
      show (if M.1 (tb i) 4 = 24 then _ else _) = _
      rw [h4, if_neg hc_193]
      rw [nn_nI (by omega)]
      try rfl
    rw [hF]
    exact ⟨rfl, rfl⟩
  -- not taken 193
  · refine v_bipush (pc' := 198) (v := (-4)) X dX9_guarded_196 (by decide) rfl ?_
    refine v_ireturn X R (Nat.zero_le _) (Nat.zero_le _) dX9_guarded_198 ?_
    have hF : fGuard M n (tb i) 20 x y = (M, (-4)) := by
      show (if M.1 (tb i) 4 = 24 then _ else _) = _
      rw [h4, if_pos hc_193]
    rw [hF]
    exact ⟨rfl, rfl⟩
set_option maxHeartbeats 4000000 in
set_option maxRecDepth 100000 in
theorem c_X9_guarded_21 {l : Launch} {D : va_G} {Y : Nat → ClassId} {zz : Nat → Nat} {n sz us pd : Nat} {ad : Nat → Nat} {M : vM} {i ca e r w : Nat} (hi : i < n) (hg : gI M n sz us pd) (hts : ∀ i, i < n → ∃ ca e r w, tI M us (tb i) ca e r w) (hI : tI M us (tb i) ca e r w) {x y : Int32} : Ct l D Y zz yX9_guarded cX9_guarded 5 (some FieldType.int) 0 0 [.ref (ad (0)), .ref (ad (tb i)), .int 21, .int x, .int y] (wM Y n ad M) 0 0 (fun r w => r = some (.int (fGuard M n (tb i) 21 x y).2) ∧ w = wM Y n ad (fGuard M n (tb i) 21 x y).1) := by
  refine v_entry (by decide +kernel) (Nat.le_of_ble_eq_true rfl) ?_
  intro K X R hR hnm hl hD hY hz
  subst hl hD hY hz
  refine v_sub (lv' := [(0, .ref (ad (0))), (1, .ref (ad (tb i))), (2, .int 21), (3, .int x), (4, .int y)]) [0, 1, 2, 3, 4] rfl ?_
  obtain ⟨hsz, hsz2, hn2, hn1, hn16, hus, hus2, hpd, hpd2, h17, hfs, hvi, hgl⟩ := id hg
  obtain ⟨h3, hca, h4, he, h5, hr, h6, hw, hso, huq, hct, hctm, hwt, hwtm, hwt0, hpk, hst, hem, hov, hrg, hsv, hrd, hwr, hva⟩ := id hI
  refine v_iload_n (pc' := 1) (i := 2) (j := 2) X dX9_guarded_0 rfl rfl rfl ?_
  refine v_tableIn (off := 216) (tgt := 217) X dX9_guarded_1 (by decide) (by decide) (by decide) (by decide) ?_
  refine v_aload_n (pc' := 218) (i := 1) (j := 1) X dX9_guarded_217 rfl rfl rfl ?_
  refine fg_X9_121 (pc' := 221) X hi (v := nI e) h4 dX9_guarded_218 rfl ?_
  refine v_if_eq (pc' := 224) (tgt := 238) X dX9_guarded_221 (by decide) rfl (fun hc_221 => ?_) (fun hc_221 => ?_)
  -- taken 221
  · refine v_bipush (pc' := 240) (v := (-4)) X dX9_guarded_238 (by decide) rfl ?_
    refine v_ireturn X R (Nat.zero_le _) (Nat.zero_le _) dX9_guarded_240 ?_
    have hF : fGuard M n (tb i) 21 x y = (M, (-4)) := by
      show (if M.1 (tb i) 4 = 0 ∨ M.1 (tb i + 11) (nn (M.1 (tb i) 4) - 1) = 0 then _ else _) = _
      rw [h4, nn_nI (by omega)]
      rw [if_pos (Or.inl hc_221)]
    rw [hF]
    exact ⟨rfl, rfl⟩
  -- not taken 221
  · have he1 : 1 ≤ e := by
      rcases Nat.eq_zero_or_pos e with z9 | z9
      · exact absurd (congrArg nI z9) hc_221
      · exact z9
    refine v_aload_n (pc' := 225) (i := 1) (j := 1) X dX9_guarded_224 rfl rfl rfl ?_
    refine fg_X9_184 (pc' := 228) X hi dX9_guarded_225 rfl ?_
    refine v_aload_n (pc' := 229) (i := 1) (j := 1) X dX9_guarded_228 rfl rfl rfl ?_
    refine fg_X9_121 (pc' := 232) X hi (v := nI e) h4 dX9_guarded_229 rfl ?_
    refine v_iconst (pc' := 233) (v := 1) X dX9_guarded_232 (by decide) rfl ?_
    refine v_isubV (pc' := 234) (v := nI (e - 1)) X (pk_sub (a := e) (b := 1) (by omega)) dX9_guarded_233 rfl ?_
    refine ag_T11 (pc' := 235) X hi (v := M.1 (tb i + 11) (e - 1)) (e - 1) rfl (by omega) rfl dX9_guarded_234 rfl ?_
    refine v_if_ne (pc' := 238) (tgt := 241) X dX9_guarded_235 (by decide) rfl (fun hc_235 => ?_) (fun hc_235 => ?_)
    -- taken 235
    · refine v_aload_n (pc' := 242) (i := 1) (j := 1) X dX9_guarded_241 rfl rfl rfl ?_
      refine v_dup (pc' := 243) X dX9_guarded_242 rfl rfl ?_
      refine fg_X9_121 (pc' := 246) X hi (v := nI e) h4 dX9_guarded_243 rfl ?_
      refine v_iconst (pc' := 247) (v := 1) X dX9_guarded_246 (by decide) rfl ?_
      refine v_isubV (pc' := 248) (v := nI (e - 1)) X (pk_sub (a := e) (b := 1) (by omega)) dX9_guarded_247 rfl ?_
      refine fp_X9_121 (pc' := 251) X hi dX9_guarded_248 rfl ?_
      refine v_aload_n (pc' := 252) (i := 1) (j := 1) X dX9_guarded_251 rfl rfl rfl ?_
      refine v_iload_n (pc' := 253) (i := 3) (j := 3) X dX9_guarded_252 rfl rfl rfl ?_
      refine fp_X9_69 (pc' := 256) X hi dX9_guarded_253 rfl ?_
      refine v_iconst (pc' := 257) (v := 0) X dX9_guarded_256 (by decide) rfl ?_
      refine v_ireturn X R (Nat.zero_le _) (Nat.zero_le _) dX9_guarded_257 ?_
      have hF : fGuard M n (tb i) 21 x y = ((mI (mI M (tb i) 4 (nI (e - 1))) (tb i) 2 x), 0) := by
        show (if M.1 (tb i) 4 = 0 ∨ M.1 (tb i + 11) (nn (M.1 (tb i) 4) - 1) = 0 then _ else _) = _
        rw [h4, nn_nI (by omega)]
        rw [if_neg (fun z9 => z9.elim hc_221 hc_235)]
        rw [show nI e - 1 = nI (e - 1) from pk_sub (a := e) (b := 1) (by omega)]
        try rfl
      rw [hF]
      exact ⟨rfl, rfl⟩
    -- not taken 235
    · refine v_bipush (pc' := 240) (v := (-4)) X dX9_guarded_238 (by decide) rfl ?_
      refine v_ireturn X R (Nat.zero_le _) (Nat.zero_le _) dX9_guarded_240 ?_
      have hF : fGuard M n (tb i) 21 x y = (M, (-4)) := by
        show (if M.1 (tb i) 4 = 0 ∨ M.1 (tb i + 11) (nn (M.1 (tb i) 4) - 1) = 0 then _ else _) = _
        rw [h4, nn_nI (by omega)]
        rw [if_pos (Or.inr hc_235)]
      rw [hF]
      exact ⟨rfl, rfl⟩
set_option maxHeartbeats 4000000 in
set_option maxRecDepth 100000 in
theorem c_X9_guarded_22 {l : Launch} {D : va_G} {Y : Nat → ClassId} {zz : Nat → Nat} {n sz us pd : Nat} {ad : Nat → Nat} {M : vM} {i ca e r w : Nat} (hi : i < n) (hg : gI M n sz us pd) (hts : ∀ i, i < n → ∃ ca e r w, tI M us (tb i) ca e r w) (hI : tI M us (tb i) ca e r w) {x y : Int32} : Ct l D Y zz yX9_guarded cX9_guarded 5 (some FieldType.int) 1 23 [.ref (ad (0)), .ref (ad (tb i)), .int 22, .int x, .int y] (wM Y n ad M) 0 0 (fun r w => r = some (.int (fGuard M n (tb i) 22 x y).2) ∧ w = wM Y n ad (fGuard M n (tb i) 22 x y).1) := by
  refine v_entry (by decide +kernel) (Nat.le_of_ble_eq_true rfl) ?_
  intro K X R hR hnm hl hD hY hz
  subst hl hD hY hz
  refine v_sub (lv' := [(0, .ref (ad (0))), (1, .ref (ad (tb i))), (2, .int 22), (3, .int x), (4, .int y)]) [0, 1, 2, 3, 4] rfl ?_
  obtain ⟨hsz, hsz2, hn2, hn1, hn16, hus, hus2, hpd, hpd2, h17, hfs, hvi, hgl⟩ := id hg
  obtain ⟨h3, hca, h4, he, h5, hr, h6, hw, hso, huq, hct, hctm, hwt, hwtm, hwt0, hpk, hst, hem, hov, hrg, hsv, hrd, hwr, hva⟩ := id hI
  refine v_iload_n (pc' := 1) (i := 2) (j := 2) X dX9_guarded_0 rfl rfl rfl ?_
  refine v_tableIn (off := 186) (tgt := 187) X dX9_guarded_1 (by decide) (by decide) (by decide) (by decide) ?_
  refine v_aload_n (pc' := 188) (i := 1) (j := 1) X dX9_guarded_187 rfl rfl rfl ?_
  refine fg_X9_121 (pc' := 191) X hi (v := nI e) h4 dX9_guarded_188 rfl ?_
  refine v_bipush (pc' := 193) (v := 24) X dX9_guarded_191 (by decide) rfl ?_
  refine v_icmp_ne (pc' := 196) (tgt := 199) X dX9_guarded_193 (by decide) rfl (fun hc_193 => ?_) (fun hc_193 => ?_)
  -- taken 193
  · have he24 : e < 24 := by
      rcases Nat.lt_or_ge e 24 with q9 | q9
      · exact q9
      · exact absurd (congrArg nI (show e = 24 by omega)) hc_193
    refine v_aload_n (pc' := 200) (i := 1) (j := 1) X dX9_guarded_199 rfl rfl rfl ?_
    refine v_iload_n (pc' := 201) (i := 2) (j := 2) X dX9_guarded_200 rfl rfl rfl ?_
    refine v_bipush (pc' := 203) (v := 20) X dX9_guarded_201 (by decide) rfl ?_
    refine v_icmp_ne (pc' := 206) (tgt := 210) X dX9_guarded_203 (by decide) rfl (fun _ => ?_) (fun hc_203 => absurd hc_203 (by decide))
    refine v_iconst (pc' := 211) (v := 2) X dX9_guarded_210 (by decide) rfl ?_
    refine v_iload_n (pc' := 212) (i := 3) (j := 3) X dX9_guarded_211 rfl rfl rfl ?_
    refine v_callV (pc' := 215) X (st := []) (c_X8_nest (M := M) hi (e := e) h4 (by omega) (kind := 2) (to := x)) k_X8_nest w_ml_X9_181 w_im_X8_nest w_se_X8_X8_nest (rv_T hi) (by rw [hR]; exact ⟨Nat.le_of_ble_eq_true rfl, Nat.le_of_ble_eq_true rfl⟩) rfl rfl (Nat.le_of_ble_eq_true rfl) dX9_guarded_212 rfl (⟨Nat.zero_le _, Nat.zero_le _⟩) ?_
    rintro _ _ ⟨rfl, rfl⟩
    refine v_iconst (pc' := 216) (v := 0) X dX9_guarded_215 (by decide) rfl ?_
    refine v_ireturn X R (Nat.zero_le _) (Nat.zero_le _) dX9_guarded_216 ?_
    have hF : fGuard M n (tb i) 22 x y = ((fNest M (tb i) e 2 x), 0) := by
      show (if M.1 (tb i) 4 = 24 then _ else _) = _
      rw [h4, if_neg hc_193]
      rw [nn_nI (by omega)]
      try rfl
    rw [hF]
    exact ⟨rfl, rfl⟩
  -- not taken 193
  · refine v_bipush (pc' := 198) (v := (-4)) X dX9_guarded_196 (by decide) rfl ?_
    refine v_ireturn X R (Nat.zero_le _) (Nat.zero_le _) dX9_guarded_198 ?_
    have hF : fGuard M n (tb i) 22 x y = (M, (-4)) := by
      show (if M.1 (tb i) 4 = 24 then _ else _) = _
      rw [h4, if_pos hc_193]
    rw [hF]
    exact ⟨rfl, rfl⟩
set_option maxHeartbeats 4000000 in
set_option maxRecDepth 100000 in
theorem c_X9_guarded_23 {l : Launch} {D : va_G} {Y : Nat → ClassId} {zz : Nat → Nat} {n sz us pd : Nat} {ad : Nat → Nat} {M : vM} {i ca e r w : Nat} (hi : i < n) (hg : gI M n sz us pd) (hts : ∀ i, i < n → ∃ ca e r w, tI M us (tb i) ca e r w) (hI : tI M us (tb i) ca e r w) {x y : Int32} {k0 : Nat} (hk0 : k0 < e) (h0 : M.1 (tb i + 11) k0 = 0) : Ct l D Y zz yX9_guarded cX9_guarded 5 (some FieldType.int) 4 87 [.ref (ad (0)), .ref (ad (tb i)), .int 23, .int x, .int y] (wM Y n ad M) 0 0 (fun r w => r = some (.int (fGuard M n (tb i) 23 x y).2) ∧ w = wM Y n ad (fGuard M n (tb i) 23 x y).1) := by
  refine v_entry (by decide +kernel) (Nat.le_of_ble_eq_true rfl) ?_
  intro K X R hR hnm hl hD hY hz
  subst hl hD hY hz
  refine v_sub (lv' := [(0, .ref (ad (0))), (1, .ref (ad (tb i))), (2, .int 23), (3, .int x), (4, .int y)]) [0, 1, 2, 3, 4] rfl ?_
  obtain ⟨hsz, hsz2, hn2, hn1, hn16, hus, hus2, hpd, hpd2, h17, hfs, hvi, hgl⟩ := id hg
  obtain ⟨h3, hca, h4, he, h5, hr, h6, hw, hso, huq, hct, hctm, hwt, hwtm, hwt0, hpk, hst, hem, hov, hrg, hsv, hrd, hwr, hva⟩ := id hI
  have hfirst := tI.at (M := M) (b := tb i) huq hk0 h0
  refine v_iload_n (pc' := 1) (i := 2) (j := 2) X dX9_guarded_0 rfl rfl rfl ?_
  refine v_tableIn (off := 257) (tgt := 258) X dX9_guarded_1 (by decide) (by decide) (by decide) (by decide) ?_
  refine v_aload_n (pc' := 259) (i := 0) (j := 0) X dX9_guarded_258 rfl rfl rfl ?_
  refine v_aload_n (pc' := 260) (i := 1) (j := 1) X dX9_guarded_259 rfl rfl rfl ?_
  refine v_callV (pc' := 263) X (st := []) (c_X9_retried (M := M) hi (e := e) (k := k0) h4 he hk0 h0 hfirst h5 hr (rd_plOk hus2 hrd)) k_X9_retried w_ml_X9_198 w_im_X9_retried w_se_X9_X9_retried (rv_M) (by rw [hR]; exact ⟨Nat.le_of_ble_eq_true rfl, Nat.le_of_ble_eq_true rfl⟩) rfl rfl (Nat.le_of_ble_eq_true rfl) dX9_guarded_260 rfl (⟨Nat.zero_le _, Nat.zero_le _⟩) ?_
  rintro _ _ ⟨rfl, rfl⟩
  refine v_ireturn X R (Nat.zero_le _) (Nat.zero_le _) dX9_guarded_263 ?_
  have hF : fGuard M n (tb i) 23 x y = ((fRetried M (tb i)), 0) := rfl
  rw [hF]
  exact ⟨rfl, rfl⟩
set_option maxHeartbeats 4000000 in
set_option maxRecDepth 100000 in
theorem c_X9_guarded_24 {l : Launch} {D : va_G} {Y : Nat → ClassId} {zz : Nat → Nat} {n sz us pd : Nat} {ad : Nat → Nat} {M : vM} {i ca e r w : Nat} (hi : i < n) (hg : gI M n sz us pd) (hts : ∀ i, i < n → ∃ ca e r w, tI M us (tb i) ca e r w) (hI : tI M us (tb i) ca e r w) {x y : Int32} (hx1 : x = nI (nn x)) (hx2 : nn x < 16) : Ct l D Y zz yX9_guarded cX9_guarded 5 (some FieldType.int) 4 88 [.ref (ad (0)), .ref (ad (tb i)), .int 24, .int x, .int y] (wM Y n ad M) 0 0 (fun r w => r = some (.int (fGuard M n (tb i) 24 x y).2) ∧ w = wM Y n ad (fGuard M n (tb i) 24 x y).1) := by
  refine v_entry (by decide +kernel) (Nat.le_of_ble_eq_true rfl) ?_
  intro K X R hR hnm hl hD hY hz
  subst hl hD hY hz
  refine v_sub (lv' := [(0, .ref (ad (0))), (1, .ref (ad (tb i))), (2, .int 24), (3, .int x), (4, .int y)]) [0, 1, 2, 3, 4] rfl ?_
  obtain ⟨hsz, hsz2, hn2, hn1, hn16, hus, hus2, hpd, hpd2, h17, hfs, hvi, hgl⟩ := id hg
  obtain ⟨h3, hca, h4, he, h5, hr, h6, hw, hso, huq, hct, hctm, hwt, hwtm, hwt0, hpk, hst, hem, hov, hrg, hsv, hrd, hwr, hva⟩ := id hI
  refine v_iload_n (pc' := 1) (i := 2) (j := 2) X dX9_guarded_0 rfl rfl rfl ?_
  refine v_tableOut (tgt := 264) X dX9_guarded_1 (by decide) (by decide) ?_
  refine v_aload_n (pc' := 265) (i := 0) (j := 0) X dX9_guarded_264 rfl rfl rfl ?_
  refine v_aload_n (pc' := 266) (i := 1) (j := 1) X dX9_guarded_265 rfl rfl rfl ?_
  refine v_aload_n (pc' := 267) (i := 1) (j := 1) X dX9_guarded_266 rfl rfl rfl ?_
  refine fg_X9_105 (pc' := 270) X hi dX9_guarded_267 rfl ?_
  refine v_iload_n (pc' := 271) (i := 3) (j := 3) X dX9_guarded_270 rfl rfl rfl ?_
  refine ag_T8 (pc' := 272) X hi (v := M.2 (tb i + 8) (nn x)) (nn x) hx1 (by omega) rfl dX9_guarded_271 rfl ?_
  refine v_l2i (pc' := 273) X dX9_guarded_272 rfl rfl ?_
  refine v_callV (pc' := 276) X (st := []) (c_X9_thrownUp (M := M) hi (e := e) h4 he huq h5 hr (rd_plOk hus2 hrd)) k_X9_thrownUp w_ml_X9_201 w_im_X9_thrownUp w_se_X9_X9_thrownUp (rv_M) (by rw [hR]; exact ⟨Nat.le_of_ble_eq_true rfl, Nat.le_of_ble_eq_true rfl⟩) rfl rfl (Nat.le_of_ble_eq_true rfl) dX9_guarded_273 rfl (⟨Nat.zero_le _, Nat.zero_le _⟩) ?_
  rintro _ _ ⟨rfl, rfl⟩
  refine v_ireturn X R (Nat.zero_le _) (Nat.zero_le _) dX9_guarded_276 ?_
  have hF : fGuard M n (tb i) 24 x y = ((fThrow (tb i) (M.2 (tb i + 8) (nn x)).toInt32 e M), 0) := by
    show (fThrow (tb i) (rgx M (tb i) x).toInt32 (nn (M.1 (tb i) 4)) M, (0 : Int32)) = _
    rw [h4, nn_nI (by omega)]
  rw [hF]
  exact ⟨rfl, rfl⟩
set_option maxHeartbeats 4000000 in
set_option maxRecDepth 100000 in
theorem c_X9_outer_26 {l : Launch} {D : va_G} {Y : Nat → ClassId} {zz : Nat → Nat} {n sz us pd : Nat} {ad : Nat → Nat} {M : vM} {i ca e r w : Nat} (hi : i < n) (hg : gI M n sz us pd) (hts : ∀ i, i < n → ∃ ca e r w, tI M us (tb i) ca e r w) (hI : tI M us (tb i) ca e r w) {x y : Int32} (hx1 : x = nI (nn x)) (hx2 : nn x < 16) : Ct l D Y zz yX9_outer cX9_outer 7 (some FieldType.int) 0 0 [.ref (ad (0)), .ref (ad (tb i)), .int 26, .int x, .int y] (wM Y n ad M) 0 0 (fun r w => r = some (.int (fOuter M n (tb i) 26 x y).2) ∧ w = wM Y n ad (fOuter M n (tb i) 26 x y).1) := by
  refine v_entry (by decide +kernel) (Nat.le_of_ble_eq_true rfl) ?_
  intro K X R hR hnm hl hD hY hz
  subst hl hD hY hz
  refine v_sub (lv' := [(0, .ref (ad (0))), (1, .ref (ad (tb i))), (2, .int 26), (3, .int x), (4, .int y)]) [0, 1, 2, 3, 4] rfl ?_
  obtain ⟨hsz, hsz2, hn2, hn1, hn16, hus, hus2, hpd, hpd2, h17, hfs, hvi, hgl⟩ := id hg
  obtain ⟨h3, hca, h4, he, h5, hr, h6, hw, hso, huq, hct, hctm, hwt, hwtm, hwt0, hpk, hst, hem, hov, hrg, hsv, hrd, hwr, hva⟩ := id hI
  refine v_iload_n (pc' := 1) (i := 2) (j := 2) X dX9_outer_0 rfl rfl rfl ?_
  refine v_tableIn (off := 128) (tgt := 129) X dX9_outer_1 (by decide) (by decide) (by decide) (by decide) ?_
  refine v_aload_n (pc' := 130) (i := 0) (j := 0) X dX9_outer_129 rfl rfl rfl ?_
  refine fg_X9_216 (pc' := 133) X (v := nI pd) hpd dX9_outer_130 rfl ?_
  refine v_sipush (pc' := 136) (v := 200) X dX9_outer_133 (by decide) rfl ?_
  refine v_icmp_ne (pc' := 139) (tgt := 182) X dX9_outer_136 (by decide) rfl (fun hc_136 => ?_) (fun hc_136 => ?_)
  -- taken 136
  · have hpd3 : pd < 200 := by
      rcases Nat.lt_or_ge pd 200 with q9 | q9
      · exact q9
      · exact absurd (congrArg nI (show pd = 200 by omega)) hc_136
    refine v_aload_n (pc' := 183) (i := 0) (j := 0) X dX9_outer_182 rfl rfl rfl ?_
    refine fg_X9_55 (pc' := 186) X dX9_outer_183 rfl ?_
    refine v_aload_n (pc' := 187) (i := 0) (j := 0) X dX9_outer_186 rfl rfl rfl ?_
    refine fg_X9_216 (pc' := 190) X (v := nI pd) hpd dX9_outer_187 rfl ?_
    refine v_aload_n (pc' := 191) (i := 1) (j := 1) X dX9_outer_190 rfl rfl rfl ?_
    refine fg_X9_105 (pc' := 194) X hi dX9_outer_191 rfl ?_
    refine v_iload_n (pc' := 195) (i := 3) (j := 3) X dX9_outer_194 rfl rfl rfl ?_
    refine ag_T8 (pc' := 196) X hi (v := M.2 (tb i + 8) (nn x)) (nn x) hx1 (by omega) rfl dX9_outer_195 rfl ?_
    refine v_l2i (pc' := 197) X dX9_outer_196 rfl rfl ?_
    refine as_M21 (pc' := 198) X (pd) rfl (by omega) dX9_outer_197 rfl ?_
    refine v_aload_n (pc' := 199) (i := 0) (j := 0) X dX9_outer_198 rfl rfl rfl ?_
    refine v_dup (pc' := 200) X dX9_outer_199 rfl rfl ?_
    refine fg_X9_216 (pc' := 203) X (v := nI pd) ((congrFun (mI_n _ _ _ _ (by decide)) _).trans hpd) dX9_outer_200 rfl ?_
    refine v_iconst (pc' := 204) (v := 1) X dX9_outer_203 (by decide) rfl ?_
    refine v_iaddV (pc' := 205) (v := nI (pd + 1)) X (nI_add (pd) 1) dX9_outer_204 rfl ?_
    refine fp_X9_216 (pc' := 208) X dX9_outer_205 rfl ?_
    refine v_iconst (pc' := 209) (v := 0) X dX9_outer_208 (by decide) rfl ?_
    refine v_ireturn X R (Nat.zero_le _) (Nat.zero_le _) dX9_outer_209 ?_
    have hF : fOuter M n (tb i) 26 x y = ((mI (mI M 21 pd ((M.2 (tb i + 8) (nn x)).toInt32)) 0 8 (nI (pd + 1))), 0) := by
      show (fPrint M (rgx M (tb i) x).toInt32, (0 : Int32)) = _
      unfold fPrint
      rw [hpd]
      rw [if_neg hc_136, nn_nI (by omega), nI_1]
      try rfl
    rw [hF]
    exact ⟨rfl, rfl⟩
  -- not taken 136
  · refine v_iconst (pc' := 140) (v := 1) X dX9_outer_139 (by decide) rfl ?_
    refine v_istore (pc' := 142) (lv' := [(6, .int 1), (0, .ref (ad (0))), (1, .ref (ad (tb i))), (2, .int 26), (3, .int x), (4, .int y)]) X dX9_outer_140 (by decide) rfl rfl ?_
    have hloop : ∀ (dd_hloop : Nat) (k : Nat), 200 - k < dd_hloop → (k ≤ 200) → (1 ≤ k) → V K 7 (wM (kY K) n ad (mRI M 21 (fun p9 => if p9 < k - 1 then M.1 21 (p9 + 1) else M.1 21 p9))) 0 0 142 [(6, .int (nI k)), (4, .int y), (3, .int x), (2, .int 26), (1, .ref (ad (tb i))), (0, .ref (ad (0)))] [] := by
      intro dd_hloop
      induction dd_hloop with
      | zero => intro k hlt_hloop; exact absurd hlt_hloop (Nat.not_lt_zero _)
      | succ dd_hloop ih_hloop =>
        intro k hlt_hloop hk hk1
        have hpd200 : pd = 200 := eq_of_nI (b := 200) hc_136 (by omega) (by decide)
        refine v_iload (pc' := 144) (j := 0) X dX9_outer_142 rfl rfl ?_
        refine v_sipush (pc' := 147) (v := 200) X dX9_outer_144 (by decide) rfl ?_
        refine v_icmp_ge (pc' := 150) (tgt := 172) X dX9_outer_147 (by decide) rfl (fun hc_147 => ?_) (fun hc_147 => ?_)
        -- taken 147
        · have hke : k = 200 := by have hh := le_of_nI (a := 200) (b := k) hc_147 (by omega) (by omega); omega
          rw [hke]
          refine v_aload_n (pc' := 173) (i := 0) (j := 5) X dX9_outer_172 rfl rfl rfl ?_
          refine v_dup (pc' := 174) X dX9_outer_173 rfl rfl ?_
          refine fg_X9_216 (pc' := 177) X (v := nI pd) ((congrFun (mRI_n _ _ _ (by decide)) _).trans hpd) dX9_outer_174 rfl ?_
          refine v_iconst (pc' := 178) (v := 1) X dX9_outer_177 (by decide) rfl ?_
          refine v_isubV (pc' := 179) (v := 199) X (by rw [hpd200]; decide) dX9_outer_178 rfl ?_
          refine fp_X9_216 (pc' := 182) X dX9_outer_179 rfl ?_
          refine v_aload_n (pc' := 183) (i := 0) (j := 5) X dX9_outer_182 rfl rfl rfl ?_
          refine fg_X9_55 (pc' := 186) X dX9_outer_183 rfl ?_
          refine v_aload_n (pc' := 187) (i := 0) (j := 5) X dX9_outer_186 rfl rfl rfl ?_
          refine fg_X9_216 (pc' := 190) X (v := 199) (mI_s _ _ _ _) dX9_outer_187 rfl ?_
          refine v_aload_n (pc' := 191) (i := 1) (j := 4) X dX9_outer_190 rfl rfl rfl ?_
          refine fg_X9_105 (pc' := 194) X hi dX9_outer_191 rfl ?_
          refine v_iload_n (pc' := 195) (i := 3) (j := 2) X dX9_outer_194 rfl rfl rfl ?_
          refine ag_T8 (pc' := 196) X hi (v := M.2 (tb i + 8) (nn x)) (nn x) hx1 (by omega) ((congrFun (congrFun (mI_2 _ _ _ _) _) _).trans (congrFun (congrFun (mRI_2 _ _ _) _) _)) dX9_outer_195 rfl ?_
          refine v_l2i (pc' := 197) X dX9_outer_196 rfl rfl ?_
          refine as_M21 (pc' := 198) X (199) rfl (by omega) dX9_outer_197 rfl ?_
          refine v_aload_n (pc' := 199) (i := 0) (j := 5) X dX9_outer_198 rfl rfl rfl ?_
          refine v_dup (pc' := 200) X dX9_outer_199 rfl rfl ?_
          refine fg_X9_216 (pc' := 203) X (v := 199) ((congrFun (mI_n _ _ _ _ (by decide)) _).trans (mI_s _ _ _ _)) dX9_outer_200 rfl ?_
          refine v_iconst (pc' := 204) (v := 1) X dX9_outer_203 (by decide) rfl ?_
          refine v_iadd (pc' := 205) X dX9_outer_204 rfl ?_
          refine fp_X9_216 (pc' := 208) X dX9_outer_205 rfl ?_
          refine v_iconst (pc' := 209) (v := 0) X dX9_outer_208 (by decide) rfl ?_
          refine v_ireturn X R (Nat.zero_le _) (Nat.zero_le _) dX9_outer_209 ?_
          have hF : fOuter M n (tb i) 26 x y = ((mI (mI (mI (mRI M 21 (fun p9 => if p9 < 200 - 1 then M.1 21 (p9 + 1) else M.1 21 p9)) 0 8 199) 21 199 ((M.2 (tb i + 8) (nn x)).toInt32)) 0 8 (199 + 1)), 0) := by
            show (fPrint M (rgx M (tb i) x).toInt32, (0 : Int32)) = _
            unfold fPrint
            rw [hpd]
            rw [if_pos hc_136]
            try rfl
          rw [hF]
          exact ⟨rfl, rfl⟩
        -- not taken 147
        · have hk2 : k < 200 := by
            rcases Nat.lt_or_ge k 200 with q9 | q9
            · exact q9
            · exact absurd (nI_le q9 (by omega)) hc_147
          refine v_aload_n (pc' := 151) (i := 0) (j := 5) X dX9_outer_150 rfl rfl rfl ?_
          refine fg_X9_55 (pc' := 154) X dX9_outer_151 rfl ?_
          refine v_iload (pc' := 156) (j := 0) X dX9_outer_154 rfl rfl ?_
          refine v_iconst (pc' := 157) (v := 1) X dX9_outer_156 (by decide) rfl ?_
          refine v_isubV (pc' := 158) (v := nI (k - 1)) X (pk_sub (a := k) (b := 1) (by omega)) dX9_outer_157 rfl ?_
          refine v_aload_n (pc' := 159) (i := 0) (j := 5) X dX9_outer_158 rfl rfl rfl ?_
          refine fg_X9_55 (pc' := 162) X dX9_outer_159 rfl ?_
          refine v_iload (pc' := 164) (j := 0) X dX9_outer_162 rfl rfl ?_
          refine ag_M21 (pc' := 165) X (v := M.1 21 k) (k) rfl (by omega) (by rw [mRI_r]; exact if_neg (by omega)) dX9_outer_164 rfl ?_
          refine as_M21 (pc' := 166) X (k - 1) rfl (by omega) dX9_outer_165 rfl ?_
          refine v_iinc (pc' := 169) (j := 0) (v := nI (k + 1)) (lv' := [(6, .int (nI (k + 1))), (4, .int y), (3, .int x), (2, .int 26), (1, .ref (ad (tb i))), (0, .ref (ad (0)))]) X dX9_outer_166 rfl (nI_add (k) 1) (by decide) rfl rfl ?_
          refine v_goto (pc' := 142) X dX9_outer_169 (by decide) ?_
          refine v_eqw (ws' := wM (kY K) n ad (mRI M 21 (fun p9 => if p9 < k + 1 - 1 then M.1 21 (p9 + 1) else M.1 21 p9))) (by rw [mI_mRI, shf_s hk1]) ?_
          exact ih_hloop (k + 1) (by omega) (by omega) (by omega)
    have hpd200 : pd = 200 := eq_of_nI (b := 200) hc_136 (by omega) (by decide)
    refine v_eqw (ws' := wM (kY K) n ad (mRI M 21 (fun p9 => if p9 < 1 - 1 then M.1 21 (p9 + 1) else M.1 21 p9))) (by rw [shf_0, mRI_self]) ?_
    refine v_sub (lv' := [(6, .int 1), (4, .int y), (3, .int x), (2, .int 26), (1, .ref (ad (tb i))), (0, .ref (ad (0)))]) [0, 5, 4, 3, 2, 1] rfl ?_
    exact hloop _ 1 (Nat.lt_succ_self _) (by omega) (Nat.le_refl 1)
set_option maxHeartbeats 4000000 in
set_option maxRecDepth 100000 in
theorem c_X9_outer_27 {l : Launch} {D : va_G} {Y : Nat → ClassId} {zz : Nat → Nat} {n sz us pd : Nat} {ad : Nat → Nat} {M : vM} {i ca e r w : Nat} (hi : i < n) (hg : gI M n sz us pd) (hts : ∀ i, i < n → ∃ ca e r w, tI M us (tb i) ca e r w) (hI : tI M us (tb i) ca e r w) {x y : Int32} (hy1 : y = nI (nn y)) (hy2 : nn y < 16) (hx1 : x = nI (nn x)) (hx2 : nn x < 8) : Ct l D Y zz yX9_outer cX9_outer 7 (some FieldType.int) 0 0 [.ref (ad (0)), .ref (ad (tb i)), .int 27, .int x, .int y] (wM Y n ad M) 0 0 (fun r w => r = some (.int (fOuter M n (tb i) 27 x y).2) ∧ w = wM Y n ad (fOuter M n (tb i) 27 x y).1) := by
  refine v_entry (by decide +kernel) (Nat.le_of_ble_eq_true rfl) ?_
  intro K X R hR hnm hl hD hY hz
  subst hl hD hY hz
  refine v_sub (lv' := [(0, .ref (ad (0))), (1, .ref (ad (tb i))), (2, .int 27), (3, .int x), (4, .int y)]) [0, 1, 2, 3, 4] rfl ?_
  obtain ⟨hsz, hsz2, hn2, hn1, hn16, hus, hus2, hpd, hpd2, h17, hfs, hvi, hgl⟩ := id hg
  obtain ⟨h3, hca, h4, he, h5, hr, h6, hw, hso, huq, hct, hctm, hwt, hwtm, hwt0, hpk, hst, hem, hov, hrg, hsv, hrd, hwr, hva⟩ := id hI
  refine v_iload_n (pc' := 1) (i := 2) (j := 2) X dX9_outer_0 rfl rfl rfl ?_
  refine v_tableIn (off := 209) (tgt := 210) X dX9_outer_1 (by decide) (by decide) (by decide) (by decide) ?_
  refine v_aload_n (pc' := 211) (i := 0) (j := 0) X dX9_outer_210 rfl rfl rfl ?_
  refine fg_X9_32 (pc' := 214) X dX9_outer_211 rfl ?_
  refine v_iload_n (pc' := 215) (i := 3) (j := 3) X dX9_outer_214 rfl rfl rfl ?_
  refine v_aload_n (pc' := 216) (i := 1) (j := 1) X dX9_outer_215 rfl rfl rfl ?_
  refine fg_X9_105 (pc' := 219) X hi dX9_outer_216 rfl ?_
  refine v_iload (pc' := 221) (j := 4) X dX9_outer_219 rfl rfl ?_
  refine ag_T8 (pc' := 222) X hi (v := M.2 (tb i + 8) (nn y)) (nn y) hy1 (by omega) rfl dX9_outer_221 rfl ?_
  refine as_M14 (pc' := 223) X (nn x) hx1 (by omega) dX9_outer_222 rfl ?_
  refine v_iconst (pc' := 224) (v := 0) X dX9_outer_223 (by decide) rfl ?_
  refine v_ireturn X R (Nat.zero_le _) (Nat.zero_le _) dX9_outer_224 ?_
  exact ⟨rfl, rfl⟩
set_option maxHeartbeats 4000000 in
set_option maxRecDepth 100000 in
theorem c_X9_outer_28 {l : Launch} {D : va_G} {Y : Nat → ClassId} {zz : Nat → Nat} {n sz us pd : Nat} {ad : Nat → Nat} {M : vM} {i ca e r w : Nat} (hi : i < n) (hg : gI M n sz us pd) (hts : ∀ i, i < n → ∃ ca e r w, tI M us (tb i) ca e r w) (hI : tI M us (tb i) ca e r w) {x y : Int32} (hx1 : x = nI (nn x)) (hx2 : nn x < 16) (hy1 : y = nI (nn y)) (hy2 : nn y < 8) : Ct l D Y zz yX9_outer cX9_outer 7 (some FieldType.int) 0 0 [.ref (ad (0)), .ref (ad (tb i)), .int 28, .int x, .int y] (wM Y n ad M) 0 0 (fun r w => r = some (.int (fOuter M n (tb i) 28 x y).2) ∧ w = wM Y n ad (fOuter M n (tb i) 28 x y).1) := by
  refine v_entry (by decide +kernel) (Nat.le_of_ble_eq_true rfl) ?_
  intro K X R hR hnm hl hD hY hz
  subst hl hD hY hz
  refine v_sub (lv' := [(0, .ref (ad (0))), (1, .ref (ad (tb i))), (2, .int 28), (3, .int x), (4, .int y)]) [0, 1, 2, 3, 4] rfl ?_
  obtain ⟨hsz, hsz2, hn2, hn1, hn16, hus, hus2, hpd, hpd2, h17, hfs, hvi, hgl⟩ := id hg
  obtain ⟨h3, hca, h4, he, h5, hr, h6, hw, hso, huq, hct, hctm, hwt, hwtm, hwt0, hpk, hst, hem, hov, hrg, hsv, hrd, hwr, hva⟩ := id hI
  refine v_iload_n (pc' := 1) (i := 2) (j := 2) X dX9_outer_0 rfl rfl rfl ?_
  refine v_tableOut (tgt := 225) X dX9_outer_1 (by decide) (by decide) ?_
  refine v_aload_n (pc' := 226) (i := 1) (j := 1) X dX9_outer_225 rfl rfl rfl ?_
  refine fg_X9_105 (pc' := 229) X hi dX9_outer_226 rfl ?_
  refine v_iload_n (pc' := 230) (i := 3) (j := 3) X dX9_outer_229 rfl rfl rfl ?_
  refine v_aload_n (pc' := 231) (i := 0) (j := 0) X dX9_outer_230 rfl rfl rfl ?_
  refine fg_X9_32 (pc' := 234) X dX9_outer_231 rfl ?_
  refine v_iload (pc' := 236) (j := 4) X dX9_outer_234 rfl rfl ?_
  refine ag_M14 (pc' := 237) X (v := M.2 14 (nn y)) (nn y) hy1 (by omega) rfl dX9_outer_236 rfl ?_
  refine as_T8 (pc' := 238) X hi (nn x) hx1 (by omega) dX9_outer_237 rfl ?_
  refine v_iconst (pc' := 239) (v := 0) X dX9_outer_238 (by decide) rfl ?_
  refine v_ireturn X R (Nat.zero_le _) (Nat.zero_le _) dX9_outer_239 ?_
  exact ⟨rfl, rfl⟩
