/-! THE CLASS: PERFORM -/
theorem Sm.row {G N : vM} {n s i : Nat} (h : Sm G N n s) (hi : i < n) : G.1 (tb i + 11) = N.1 (tb i + 11) := by
  obtain ⟨⟨r1, r2, r3, r4, r5, r6, r7, r8, r9, -⟩, -⟩ := h.T hi
  exact r9
theorem fW_12 {M : vM} {b : Nat} {x y z : Int32} : fWrong M b 12 x y z = (nrg x ∨ nrg y ∨ nrg z) := rfl
theorem fW_15 {M : vM} {b : Nat} {x y z : Int32} : fWrong M b 15 x y z = (nrg x ∨ nrg y) := rfl
set_option maxHeartbeats 4000000 in
set_option maxRecDepth 100000 in
theorem c_X7_perform {l : Launch} {D : va_G} {Y : Nat → ClassId} {zz : Nat → Nat} {n s cp cq : Nat} {ad : Nat → Nat} {M : vM} {i us ca e r w : Nat} (hi : i < n) (h16 : i < 16) {N : vM} (hS : Sm M N n s) (hU : IU N n us) (h1 : N.1 (tb i) 0 = 1) (hI : tI N us (tb i) ca e r w) {k9 : Nat} (hk9 : k9 < s) {num x y z : Int32} (hnum : M.1 (ib k9) 0 = num) (hx : M.1 (ib k9) 1 = x) (hy : M.1 (ib k9) 2 = y) (hz9 : M.1 (ib k9) 3 = z) (hq : n ≤ cq ∧ cq ≤ 2 * n + 10)  : Ct l D Y zz yX7_perform cX7_perform 5 (some FieldType.int) 9 263 [.ref (ad (0)), .ref (ad (tb i)), .ref (ad (ib k9))] (wK Y n s cp cq ad M) (13 * (nn ((fQ N n (tb i) num x y z).1.1 0 2) - n)) (800 * (nn ((fQ N n (tb i) num x y z).1.1 0 2) - n)) (fun r w => r = some (.int (fQ N n (tb i) num x y z).2) ∧ ((fQ N n (tb i) num x y z).2 = 0 ∨ (fQ N n (tb i) num x y z).2 < 0) ∧ pQ Y n s cp ad w (fQ N n (tb i) num x y z).1) := by
  refine v_entry (by decide +kernel) (Nat.le_of_ble_eq_true rfl) ?_
  intro K X R hR hnm hl hD hY hz
  subst hl hD hY hz
  refine v_sub (lv' := [(0, .ref (ad (0))), (1, .ref (ad (tb i))), (2, .ref (ad (ib k9)))]) [0, 1, 2] rfl ?_
  obtain ⟨q3, hca, h4, he, h5, hr, h6, hw, hso, huq, hct, hctm, hwt, hwtm, hwt0, hpk, hs9, hem, hov, hrg, hsv, hrd, hwr, hva⟩ := id hI
  obtain ⟨b8, b11, b12, b3, b4, b15, b16, bat, b52, hu5⟩ := k_ctx hS hU hi h1 hI
  have hn16 := hU.n16
  have hu := hU.us
  have hq2 : cq < 2 ^ 31 := by omega
  refine v_aload_n (pc' := 1) (i := 1) (j := 1) X dX7_perform_0 rfl rfl rfl ?_
  refine v_aload_n (pc' := 2) (i := 2) (j := 2) X dX7_perform_1 rfl rfl rfl ?_
  refine v_callS (pc' := 5) X (st := []) (c_X7_faultBefore (M := M) hi h16 hk9 b12 he hnum hx hy hz9) k_X7_faultBefore w_ml_X7_164 w_st_X7_faultBefore (by rw [hR]; exact ⟨Nat.le_of_ble_eq_true rfl, Nat.le_of_ble_eq_true rfl⟩) rfl rfl (Nat.le_of_ble_eq_true rfl) dX7_perform_2 rfl (⟨Nat.zero_le _, Nat.zero_le _⟩) ?_
  rintro _ _ ⟨rfl, rfl⟩
  refine v_istore_n (pc' := 6) (i := 3) (lv' := [(3, .int (gFault M (tb i) e num x y z)), (0, .ref (ad (0))), (1, .ref (ad (tb i))), (2, .ref (ad (ib k9)))]) X dX7_perform_5 rfl (by decide) rfl rfl ?_
  refine v_iload_n (pc' := 7) (i := 3) (j := 0) X dX7_perform_6 rfl rfl rfl ?_
  refine v_if_eq (pc' := 10) (tgt := 12) X dX7_perform_7 (by decide) rfl (fun hc_7 => ?_) (fun hc_7 => ?_)
  -- taken 7
  · obtain ⟨⟨hn1, hn2⟩, gq0, gw0, gi10, gi20, gg20, gg30⟩ := fQ_ok hS hi hI hc_7
    obtain ⟨on, ho⟩ := op_of hn1 hn2
    obtain ⟨o, hoe⟩ : ∃ o, o = nn num := ⟨_, rfl⟩
    rw [← hoe] at on ho gq0 gw0 gi10 gi20 gg20 gg30
    have htail : ∀ (G' N' : vM) (us' ca' e' r' w' : Nat), Sm G' N' n s → IU N' n us' → N'.1 (tb i) 0 = 1 → tI N' us' (tb i) ca' e' r' w' → G'.1 (ib k9) 1 = x → G'.1 (ib k9) 2 = y → G'.1 (ib k9) 3 = z → ¬ fWrong N' (tb i) o x y z → ((o = 16 ∨ o = 17 ∨ o = 19 ∨ o = 20 ∨ o = 23) → fIn N' (tb i)) → ((o = 0 ∨ o = 18 ∨ o = 25 ∨ o = 26 ∨ o = 27) → ¬ fIn N' (tb i)) → gN2 G' (tb i) (opM.getD o 0) → gCall G' (tb i) e' o → (o = 12 ∨ o = 15 → ¬ N'.1 0 3 = 200) → fRest N' n (tb i) o x y z = fQ N n (tb i) num x y z → V K 5 (wK (kY K) n s cp cq ad G') 0 0 71 [(4, .ref (kZ K o)), (3, .int (gFault M (tb i) e num x y z)), (0, .ref (ad (0))), (1, .ref (ad (tb i))), (2, .ref (ad (ib k9)))] [] := by
      intro G' N' us' ca' e' r' w' gS gU g1 gI gx gy gz gw gi1 gi2 gg2 gg3 gfull gq
      obtain ⟨t3, tca, t4, te, t5, tr, t6, tw, tso, tuq, tct, tctm, twt, twtm, twt0, tpk, ts9, tem, tov, trg, tsv, trd, twr, tva⟩ := id gI
      obtain ⟨d8, d11, d12, d3, d4, d15, d16, dat, d52, d5⟩ := k_ctx gS gU hi g1 gI
      have drow := gS.row hi
      obtain ⟨m, hm⟩ : ∃ m, opM.getD o 0 = m := ⟨_, rfl⟩
      refine v_gets (pc' := 74) X X.zM w_fl_X7_183 rfl dX7_perform_71 rfl ?_
      refine v_aload (pc' := 76) (j := 0) X dX7_perform_74 rfl rfl ?_
      refine v_callU (pc' := 79) X (st := [.ref (kZ K 31)]) (c_ordinal (o := o) ho) k_Jx29ce0_ordinal_8abf5 w_ml_X7_188 w_sm_596 w_se_X4_Jx29ce0_ordinal_8abf5 w_im_Jx29ce0_ordinal_8abf5 rfl (by decide +kernel) (zE_recv X ho) (by rw [hR]; exact ⟨Nat.le_of_ble_eq_true rfl, Nat.le_of_ble_eq_true rfl⟩) rfl rfl (Nat.le_of_ble_eq_true rfl) dX7_perform_76 rfl (⟨Nat.zero_le _, Nat.zero_le _⟩) ?_
      rintro _ _ ⟨rfl, rfl⟩
      refine v_ti (pc' := 80) X X.zMt (o) rfl ho (by decide) (v := .int m) (by show Value.int (opM.getD o 0) = _; rw [hm]) dX7_perform_79 rfl ?_
      rcases sw_1_9 m with rfl | rfl | rfl | rfl | rfl | rfl | rfl | rfl | rfl | hsw
      · refine v_tableIn (off := 52) (tgt := 132) X dX7_perform_80 (by decide) (by decide) (by decide) (by decide) ?_
        have hop := opM_1 o ho hm
        rw [hop] at gw gi1 gi2 gg2 gg3 gq
        obtain ⟨k, hk, hk0⟩ := k_in gI (gi1 (by decide))
        have d13 := dat k hk (by rw [drow]; exact hk0)
        obtain ⟨hx1, hx2⟩ := nrg_not (show ¬ nrg x from fun q => gw (Or.inl q))
        obtain ⟨hy1, hy2⟩ := nrg_not (show ¬ nrg y from fun q => gw (Or.inr (Or.inl q)))
        have hs : isV (rgx N' (tb i) y) := Classical.byContradiction fun q => gw (Or.inr (Or.inr (q)))
        have hv := vV_of (trg _ hy2) gU.us hs
        have hpl : plOk (G'.2 (tb i + 8) (nn y)) := by rw [gS.reg hi]; exact ((trg _ hy2).ok gU.us).resolve_left (isV_n hs)
        refine v_aload_n (pc' := 133) (i := 0) (j := 2) X dX7_perform_132 rfl rfl rfl ?_
        refine v_aload_n (pc' := 134) (i := 1) (j := 3) X dX7_perform_133 rfl rfl rfl ?_
        refine v_aload_n (pc' := 135) (i := 2) (j := 4) X dX7_perform_134 rfl rfl rfl ?_
        refine fk_X7_191 (pc' := 138) X hk9 (v := nI (nn x)) (gx.trans hx1) dX7_perform_135 rfl ?_
        refine v_aload_n (pc' := 139) (i := 2) (j := 4) X dX7_perform_138 rfl rfl rfl ?_
        refine fk_X7_194 (pc' := 142) X hk9 (v := nI (nn y)) (gy.trans hy1) dX7_perform_139 rfl ?_
        refine v_callV (pc' := 145) X (st := []) (c_X7_readVar (M := G') hi h16 d13 (by omega) d3 tr d4 tw hx2 hy2 hpl) k_X7_readVar w_ml_X7_197 w_im_X7_readVar w_se_X7_X7_readVar rw_X7 (by rw [hR]; exact ⟨Nat.le_of_ble_eq_true rfl, Nat.le_of_ble_eq_true rfl⟩) rfl rfl (Nat.le_of_ble_eq_true rfl) dX7_perform_142 rfl (⟨Nat.zero_le _, Nat.zero_le _⟩) ?_
        rintro _ _ ⟨rfl, rfl⟩
        refine v_ireturn X R (Nat.zero_le _) (Nat.zero_le _) dX7_perform_145 ?_
        obtain ⟨f1, f2⟩ := z_read (ja := nn x) (jb := nn y) gS gU hi g1 gI hk hk0 rfl hv
        exact finV ((rest_g (by decide) (by decide)).symm.trans gq) f1 fReading_2 f2 hq
      · refine v_tableIn (off := 66) (tgt := 146) X dX7_perform_80 (by decide) (by decide) (by decide) (by decide) ?_
        have hop := opM_2 o ho hm
        rw [hop] at gw gi1 gi2 gg2 gg3 gq
        obtain ⟨hx1, hx2⟩ := nrg_not (show ¬ nrg x from fun q => gw (Or.inl q))
        obtain ⟨hy1, hy2⟩ := nrg_not (show ¬ nrg y from fun q => gw (Or.inr (Or.inl q)))
        refine v_aload_n (pc' := 147) (i := 0) (j := 2) X dX7_perform_146 rfl rfl rfl ?_
        refine v_aload_n (pc' := 148) (i := 1) (j := 3) X dX7_perform_147 rfl rfl rfl ?_
        refine v_aload_n (pc' := 149) (i := 2) (j := 4) X dX7_perform_148 rfl rfl rfl ?_
        refine fk_X7_191 (pc' := 152) X hk9 (v := nI (nn x)) (gx.trans hx1) dX7_perform_149 rfl ?_
        refine v_aload_n (pc' := 153) (i := 2) (j := 4) X dX7_perform_152 rfl rfl rfl ?_
        refine fk_X7_194 (pc' := 156) X hk9 (v := nI (nn y)) (gy.trans hy1) dX7_perform_153 rfl ?_
        refine v_callV (pc' := 159) X (st := []) (c_X7_writeVar (M := G') hi h16 d4 tw hx2 hy2) k_X7_writeVar w_ml_X7_201 w_im_X7_writeVar w_se_X7_X7_writeVar rw_X7 (by rw [hR]; exact ⟨Nat.le_of_ble_eq_true rfl, Nat.le_of_ble_eq_true rfl⟩) rfl rfl (Nat.le_of_ble_eq_true rfl) dX7_perform_156 rfl (⟨Nat.zero_le _, Nat.zero_le _⟩) ?_
        rintro _ _ ⟨rfl, rfl⟩
        refine v_ireturn X R (Nat.zero_le _) (Nat.zero_le _) dX7_perform_159 ?_
        obtain ⟨f1, f2⟩ := z_write (x := x) (y := y) gS hi gI
        exact finV ((rest_g (by decide) (by decide)).symm.trans gq) f1 (f1 ▸ gWriteV_2) f2 hq
      · refine v_tableIn (off := 80) (tgt := 160) X dX7_perform_80 (by decide) (by decide) (by decide) (by decide) ?_
        have hop := opM_3 o ho hm
        rw [hop] at gw gi1 gi2 gg2 gg3 gq
        obtain ⟨k, hk, hk0⟩ := k_in gI (gi1 (by decide))
        have d13 := dat k hk (by rw [drow]; exact hk0)
        have hn := gg2
        rw [show opM.getD 19 0 = 3 from by decide, gN2_3] at hn
        refine v_aload_n (pc' := 161) (i := 0) (j := 2) X dX7_perform_160 rfl rfl rfl ?_
        refine v_aload_n (pc' := 162) (i := 1) (j := 3) X dX7_perform_161 rfl rfl rfl ?_
        refine v_callV (pc' := 165) X (st := []) (c_X7_commit (M := G') hi h16 d52 hn16 hq.1 hq2 d12 te (by omega) d13 (by omega) d3 tr d15 d4 tw d16 (by rw [d8]; decide) (k_wait gS gU)) k_X7_commit w_ml_X7_204 w_im_X7_commit w_se_X7_X7_commit rw_X7 (by rw [hR]; exact ⟨Nat.le_of_ble_eq_true rfl, Nat.le_of_ble_eq_true rfl⟩) rfl rfl (Nat.le_of_ble_eq_true rfl) dX7_perform_162 rfl (⟨Nat.zero_le _, Nat.zero_le _⟩) ?_
        rintro _ _ ⟨rfl, rfl⟩
        refine v_goto (pc' := 216) X dX7_perform_165 (by decide) ?_
        refine v_iconst (pc' := 217) (v := 0) X dX7_perform_216 (by decide) rfl ?_
        refine v_ireturn X R (Nat.zero_le _) (Nat.zero_le _) dX7_perform_217 ?_
        exact fin0 gq (zp_19 gS gU hi g1 gI hk hk0 hn) hq
      · refine v_tableIn (off := 88) (tgt := 168) X dX7_perform_80 (by decide) (by decide) (by decide) (by decide) ?_
        have hop := opM_4 o ho hm
        rw [hop] at gw gi1 gi2 gg2 gg3 gq
        obtain ⟨k, hk, hk0⟩ := k_in gI (gi1 (by decide))
        have d13 := dat k hk (by rw [drow]; exact hk0)
        refine v_aload_n (pc' := 169) (i := 0) (j := 2) X dX7_perform_168 rfl rfl rfl ?_
        refine v_aload_n (pc' := 170) (i := 1) (j := 3) X dX7_perform_169 rfl rfl rfl ?_
        refine v_callV (pc' := 173) X (st := []) (c_X7_retry (M := G') hi h16 d12 te d13 hk d3 tr d15) k_X7_retry w_ml_X7_207 w_im_X7_retry w_se_X7_X7_retry rw_X7 (by rw [hR]; exact ⟨Nat.le_of_ble_eq_true rfl, Nat.le_of_ble_eq_true rfl⟩) rfl rfl (Nat.le_of_ble_eq_true rfl) dX7_perform_170 rfl (⟨Nat.zero_le _, Nat.zero_le _⟩) ?_
        rintro _ _ ⟨rfl, rfl⟩
        refine v_goto (pc' := 216) X dX7_perform_173 (by decide) ?_
        refine v_iconst (pc' := 217) (v := 0) X dX7_perform_216 (by decide) rfl ?_
        refine v_ireturn X R (Nat.zero_le _) (Nat.zero_le _) dX7_perform_217 ?_
        exact fin0 gq (zp_23 gS gU hi g1 gI hk hk0) hq
      · refine v_tableIn (off := 96) (tgt := 176) X dX7_perform_80 (by decide) (by decide) (by decide) (by decide) ?_
        have hop := opM_5 o ho hm
        rw [hop] at gw gi1 gi2 gg2 gg3 gq
        obtain ⟨hx1, hx2⟩ := nrg_not (show ¬ nrg x from fun q => gw (Or.inl q))
        refine v_aload_n (pc' := 177) (i := 0) (j := 2) X dX7_perform_176 rfl rfl rfl ?_
        refine v_aload_n (pc' := 178) (i := 1) (j := 3) X dX7_perform_177 rfl rfl rfl ?_
        refine v_aload_n (pc' := 179) (i := 1) (j := 3) X dX7_perform_178 rfl rfl rfl ?_
        refine fk_X7_119 (pc' := 182) X hi h16 dX7_perform_179 rfl ?_
        refine v_aload_n (pc' := 183) (i := 2) (j := 4) X dX7_perform_182 rfl rfl rfl ?_
        refine fk_X7_191 (pc' := 186) X hk9 (v := nI (nn x)) (gx.trans hx1) dX7_perform_183 rfl ?_
        refine ak_G8 (pc' := 187) X hi h16 (v := G'.2 (tb i + 8) (nn x)) (nn x) rfl (by omega) rfl dX7_perform_186 rfl ?_
        refine v_l2i (pc' := 188) X dX7_perform_187 rfl rfl ?_
        refine v_callV (pc' := 191) X (st := []) (c_X7_raise (M := G') hi h16 d12 te d3 tr d15 dat (code := (G'.2 (tb i + 8) (nn x)).toInt32)) k_X7_raise w_ml_X7_210 w_im_X7_raise w_se_X7_X7_raise rw_X7 (by rw [hR]; exact ⟨Nat.le_of_ble_eq_true rfl, Nat.le_of_ble_eq_true rfl⟩) rfl rfl (Nat.le_of_ble_eq_true rfl) dX7_perform_188 rfl (⟨Nat.zero_le _, Nat.zero_le _⟩) ?_
        rintro _ _ ⟨rfl, rfl⟩
        refine v_goto (pc' := 216) X dX7_perform_191 (by decide) ?_
        refine v_iconst (pc' := 217) (v := 0) X dX7_perform_216 (by decide) rfl ?_
        refine v_ireturn X R (Nat.zero_le _) (Nat.zero_le _) dX7_perform_217 ?_
        exact fin0 gq (zp_24 gS gU hi g1 gI ) hq
      · refine v_tableIn (off := 114) (tgt := 194) X dX7_perform_80 (by decide) (by decide) (by decide) (by decide) ?_
        have hop := opM_6 o ho hm
        have hn := gg2
        rw [hm, gN2_6] at hn
        have e24 : e' < 24 := by
          have h9 := hn
          rw [d12] at h9
          exact lt_of_nI (b := 24) h9 (by omega) (by decide)
        refine v_aload_n (pc' := 195) (i := 0) (j := 2) X dX7_perform_194 rfl rfl rfl ?_
        refine v_aload_n (pc' := 196) (i := 1) (j := 3) X dX7_perform_195 rfl rfl rfl ?_
        refine v_aload (pc' := 198) (j := 0) X dX7_perform_196 rfl rfl ?_
        refine v_aload_n (pc' := 199) (i := 2) (j := 4) X dX7_perform_198 rfl rfl rfl ?_
        refine fk_X7_191 (pc' := 202) X hk9 (v := x) gx dX7_perform_199 rfl ?_
        refine v_callV (pc' := 205) X (st := []) (c_X7_openOrEnd (M := G') (m := 6) (x := x) hi h16 ho hm d12 te (fun _ => e24) (fun z9 => absurd (Or.inl rfl) z9)) k_X7_openOrEnd w_ml_X7_214 w_im_X7_openOrEnd w_se_X7_X7_openOrEnd rw_X7 (by rw [hR]; exact ⟨Nat.le_of_ble_eq_true rfl, Nat.le_of_ble_eq_true rfl⟩) rfl rfl (Nat.le_of_ble_eq_true rfl) dX7_perform_202 rfl (⟨Nat.zero_le _, Nat.zero_le _⟩) ?_
        rintro _ _ ⟨rfl, rfl⟩
        refine v_goto (pc' := 216) X dX7_perform_205 (by decide) ?_
        refine v_iconst (pc' := 217) (v := 0) X dX7_perform_216 (by decide) rfl ?_
        refine v_ireturn X R (Nat.zero_le _) (Nat.zero_le _) dX7_perform_217 ?_
        rw [hop] at gi1 gi2 gq
        exact fin0 gq (zp_18 gS gU hi g1 gI hn (gi2 (by decide))) hq
      · refine v_tableIn (off := 114) (tgt := 194) X dX7_perform_80 (by decide) (by decide) (by decide) (by decide) ?_
        have hop := opM_7 o ho hm
        have hn := gg2
        rw [hm, gN2_7] at hn
        have e24 : e' < 24 := by
          have h9 := hn
          rw [d12] at h9
          exact lt_of_nI (b := 24) h9 (by omega) (by decide)
        refine v_aload_n (pc' := 195) (i := 0) (j := 2) X dX7_perform_194 rfl rfl rfl ?_
        refine v_aload_n (pc' := 196) (i := 1) (j := 3) X dX7_perform_195 rfl rfl rfl ?_
        refine v_aload (pc' := 198) (j := 0) X dX7_perform_196 rfl rfl ?_
        refine v_aload_n (pc' := 199) (i := 2) (j := 4) X dX7_perform_198 rfl rfl rfl ?_
        refine fk_X7_191 (pc' := 202) X hk9 (v := x) gx dX7_perform_199 rfl ?_
        refine v_callV (pc' := 205) X (st := []) (c_X7_openOrEnd (M := G') (m := 7) (x := x) hi h16 ho hm d12 te (fun _ => e24) (fun z9 => absurd (Or.inr (Or.inl rfl)) z9)) k_X7_openOrEnd w_ml_X7_214 w_im_X7_openOrEnd w_se_X7_X7_openOrEnd rw_X7 (by rw [hR]; exact ⟨Nat.le_of_ble_eq_true rfl, Nat.le_of_ble_eq_true rfl⟩) rfl rfl (Nat.le_of_ble_eq_true rfl) dX7_perform_202 rfl (⟨Nat.zero_le _, Nat.zero_le _⟩) ?_
        rintro _ _ ⟨rfl, rfl⟩
        refine v_goto (pc' := 216) X dX7_perform_205 (by decide) ?_
        refine v_iconst (pc' := 217) (v := 0) X dX7_perform_216 (by decide) rfl ?_
        refine v_ireturn X R (Nat.zero_le _) (Nat.zero_le _) dX7_perform_217 ?_
        rw [hop] at gi1 gi2 gq
        exact fin0 gq (zp_20 gS gU hi g1 gI hn) hq
      · refine v_tableIn (off := 114) (tgt := 194) X dX7_perform_80 (by decide) (by decide) (by decide) (by decide) ?_
        have hop := opM_8 o ho hm
        have hn := gg2
        rw [hm, gN2_8] at hn
        have e24 : e' < 24 := by
          have h9 := hn
          rw [d12] at h9
          exact lt_of_nI (b := 24) h9 (by omega) (by decide)
        refine v_aload_n (pc' := 195) (i := 0) (j := 2) X dX7_perform_194 rfl rfl rfl ?_
        refine v_aload_n (pc' := 196) (i := 1) (j := 3) X dX7_perform_195 rfl rfl rfl ?_
        refine v_aload (pc' := 198) (j := 0) X dX7_perform_196 rfl rfl ?_
        refine v_aload_n (pc' := 199) (i := 2) (j := 4) X dX7_perform_198 rfl rfl rfl ?_
        refine fk_X7_191 (pc' := 202) X hk9 (v := x) gx dX7_perform_199 rfl ?_
        refine v_callV (pc' := 205) X (st := []) (c_X7_openOrEnd (M := G') (m := 8) (x := x) hi h16 ho hm d12 te (fun _ => e24) (fun z9 => absurd (Or.inr (Or.inr rfl)) z9)) k_X7_openOrEnd w_ml_X7_214 w_im_X7_openOrEnd w_se_X7_X7_openOrEnd rw_X7 (by rw [hR]; exact ⟨Nat.le_of_ble_eq_true rfl, Nat.le_of_ble_eq_true rfl⟩) rfl rfl (Nat.le_of_ble_eq_true rfl) dX7_perform_202 rfl (⟨Nat.zero_le _, Nat.zero_le _⟩) ?_
        rintro _ _ ⟨rfl, rfl⟩
        refine v_goto (pc' := 216) X dX7_perform_205 (by decide) ?_
        refine v_iconst (pc' := 217) (v := 0) X dX7_perform_216 (by decide) rfl ?_
        refine v_ireturn X R (Nat.zero_le _) (Nat.zero_le _) dX7_perform_217 ?_
        rw [hop] at gi1 gi2 gq
        exact fin0 gq (zp_22 gS gU hi g1 gI hn) hq
      · refine v_tableIn (off := 114) (tgt := 194) X dX7_perform_80 (by decide) (by decide) (by decide) (by decide) ?_
        have hop := opM_9 o ho hm
        have hn := gg2
        rw [hm, gN2_9] at hn
        have e1 : 1 ≤ e' := by
          have h9 := hn.1
          rw [d12] at h9
          exact lt_of_nI (a := 0) h9 (by decide) (by omega)
        refine v_aload_n (pc' := 195) (i := 0) (j := 2) X dX7_perform_194 rfl rfl rfl ?_
        refine v_aload_n (pc' := 196) (i := 1) (j := 3) X dX7_perform_195 rfl rfl rfl ?_
        refine v_aload (pc' := 198) (j := 0) X dX7_perform_196 rfl rfl ?_
        refine v_aload_n (pc' := 199) (i := 2) (j := 4) X dX7_perform_198 rfl rfl rfl ?_
        refine fk_X7_191 (pc' := 202) X hk9 (v := x) gx dX7_perform_199 rfl ?_
        refine v_callV (pc' := 205) X (st := []) (c_X7_openOrEnd (M := G') (m := 9) (x := x) hi h16 ho hm d12 te (fun z9 => absurd z9 (by decide)) (fun _ => e1)) k_X7_openOrEnd w_ml_X7_214 w_im_X7_openOrEnd w_se_X7_X7_openOrEnd rw_X7 (by rw [hR]; exact ⟨Nat.le_of_ble_eq_true rfl, Nat.le_of_ble_eq_true rfl⟩) rfl rfl (Nat.le_of_ble_eq_true rfl) dX7_perform_202 rfl (⟨Nat.zero_le _, Nat.zero_le _⟩) ?_
        rintro _ _ ⟨rfl, rfl⟩
        refine v_goto (pc' := 216) X dX7_perform_205 (by decide) ?_
        refine v_iconst (pc' := 217) (v := 0) X dX7_perform_216 (by decide) rfl ?_
        refine v_ireturn X R (Nat.zero_le _) (Nat.zero_le _) dX7_perform_217 ?_
        rw [hop] at gi1 gi2 gq
        exact fin0 gq (zp_21 gS gU hi g1 gI hn) hq
      · refine v_tableOut (tgt := 208) X dX7_perform_80 hsw (by decide) ?_
        rcases opM_out o ho (by rw [hm]; exact hsw) with rfl | rfl | rfl | rfl | rfl | rfl | rfl | rfl | rfl | rfl | rfl | rfl | rfl | rfl | rfl | rfl | rfl | rfl | rfl | rfl | rfl
          -- plain 0
        · have hn : G'.1 (tb i) 12 = 0 := by
            have h9 := gg2
            rw [show opM.getD 0 0 = 10 from by decide, gN2_10] at h9
            exact h9
          refine v_aload_n (pc' := 209) (i := 0) (j := 2) X dX7_perform_208 rfl rfl rfl ?_
          refine v_aload_n (pc' := 210) (i := 1) (j := 3) X dX7_perform_209 rfl rfl rfl ?_
          refine v_aload (pc' := 212) (j := 0) X dX7_perform_210 rfl rfl ?_
          refine v_aload_n (pc' := 213) (i := 2) (j := 4) X dX7_perform_212 rfl rfl rfl ?_
          refine v_callV (pc' := 216) X (st := []) (c_X7_plain_0 (M := G') hi h16 hk9 gx gy gz  ) k_X7_performPlainly w_ml_X7_218 w_im_X7_performPlainly w_se_X7_X7_performPlainly rw_X7 (by rw [hR]; exact ⟨Nat.le_of_ble_eq_true rfl, Nat.le_of_ble_eq_true rfl⟩) rfl rfl (Nat.le_of_ble_eq_true rfl) dX7_perform_213 rfl (⟨Nat.zero_le _, Nat.zero_le _⟩) ?_
          rintro _ _ ⟨rfl, rfl⟩
          refine v_iconst (pc' := 217) (v := 0) X dX7_perform_216 (by decide) rfl ?_
          refine v_ireturn X R (Nat.zero_le _) (Nat.zero_le _) dX7_perform_217 ?_
          exact fin0 gq (zp_0 gS gU hi g1 gI hn) hq
          -- plain 1
        · obtain ⟨hx1, hx2⟩ := nrg_not (show ¬ nrg x from fun q => gw (q))
          refine v_aload_n (pc' := 209) (i := 0) (j := 2) X dX7_perform_208 rfl rfl rfl ?_
          refine v_aload_n (pc' := 210) (i := 1) (j := 3) X dX7_perform_209 rfl rfl rfl ?_
          refine v_aload (pc' := 212) (j := 0) X dX7_perform_210 rfl rfl ?_
          refine v_aload_n (pc' := 213) (i := 2) (j := 4) X dX7_perform_212 rfl rfl rfl ?_
          refine v_callV (pc' := 216) X (st := []) (c_X7_plain_1 (M := G') hi h16 hk9 gx gy gz  hx1 hx2) k_X7_performPlainly w_ml_X7_218 w_im_X7_performPlainly w_se_X7_X7_performPlainly rw_X7 (by rw [hR]; exact ⟨Nat.le_of_ble_eq_true rfl, Nat.le_of_ble_eq_true rfl⟩) rfl rfl (Nat.le_of_ble_eq_true rfl) dX7_perform_213 rfl (⟨Nat.zero_le _, Nat.zero_le _⟩) ?_
          rintro _ _ ⟨rfl, rfl⟩
          refine v_iconst (pc' := 217) (v := 0) X dX7_perform_216 (by decide) rfl ?_
          refine v_ireturn X R (Nat.zero_le _) (Nat.zero_le _) dX7_perform_217 ?_
          exact fin0 gq (zp_1 gS gU hi g1 gI ) hq
          -- plain 2
        · obtain ⟨hx1, hx2⟩ := nrg_not (show ¬ nrg x from fun q => gw (Or.inl q))
          obtain ⟨hy1, hy2⟩ := nrg_not (show ¬ nrg y from fun q => gw (Or.inr (q)))
          refine v_aload_n (pc' := 209) (i := 0) (j := 2) X dX7_perform_208 rfl rfl rfl ?_
          refine v_aload_n (pc' := 210) (i := 1) (j := 3) X dX7_perform_209 rfl rfl rfl ?_
          refine v_aload (pc' := 212) (j := 0) X dX7_perform_210 rfl rfl ?_
          refine v_aload_n (pc' := 213) (i := 2) (j := 4) X dX7_perform_212 rfl rfl rfl ?_
          refine v_callV (pc' := 216) X (st := []) (c_X7_plain_2 (M := G') hi h16 hk9 gx gy gz  hx1 hx2 hy1 hy2) k_X7_performPlainly w_ml_X7_218 w_im_X7_performPlainly w_se_X7_X7_performPlainly rw_X7 (by rw [hR]; exact ⟨Nat.le_of_ble_eq_true rfl, Nat.le_of_ble_eq_true rfl⟩) rfl rfl (Nat.le_of_ble_eq_true rfl) dX7_perform_213 rfl (⟨Nat.zero_le _, Nat.zero_le _⟩) ?_
          rintro _ _ ⟨rfl, rfl⟩
          refine v_iconst (pc' := 217) (v := 0) X dX7_perform_216 (by decide) rfl ?_
          refine v_ireturn X R (Nat.zero_le _) (Nat.zero_le _) dX7_perform_217 ?_
          exact fin0 gq (zp_2 gS gU hi g1 gI ) hq
          -- plain 3
        · obtain ⟨hx1, hx2⟩ := nrg_not (show ¬ nrg x from fun q => gw (Or.inl q))
          obtain ⟨hy1, hy2⟩ := nrg_not (show ¬ nrg y from fun q => gw (Or.inr (Or.inl q)))
          obtain ⟨hz1, hz2⟩ := nrg_not (show ¬ nrg z from fun q => gw (Or.inr (Or.inr (Or.inl q))))
          refine v_aload_n (pc' := 209) (i := 0) (j := 2) X dX7_perform_208 rfl rfl rfl ?_
          refine v_aload_n (pc' := 210) (i := 1) (j := 3) X dX7_perform_209 rfl rfl rfl ?_
          refine v_aload (pc' := 212) (j := 0) X dX7_perform_210 rfl rfl ?_
          refine v_aload_n (pc' := 213) (i := 2) (j := 4) X dX7_perform_212 rfl rfl rfl ?_
          refine v_callV (pc' := 216) X (st := []) (c_X7_plain_3 (M := G') hi h16 hk9 gx gy gz  hx1 hx2 hy1 hy2 hz1 hz2) k_X7_performPlainly w_ml_X7_218 w_im_X7_performPlainly w_se_X7_X7_performPlainly rw_X7 (by rw [hR]; exact ⟨Nat.le_of_ble_eq_true rfl, Nat.le_of_ble_eq_true rfl⟩) rfl rfl (Nat.le_of_ble_eq_true rfl) dX7_perform_213 rfl (⟨Nat.zero_le _, Nat.zero_le _⟩) ?_
          rintro _ _ ⟨rfl, rfl⟩
          refine v_iconst (pc' := 217) (v := 0) X dX7_perform_216 (by decide) rfl ?_
          refine v_ireturn X R (Nat.zero_le _) (Nat.zero_le _) dX7_perform_217 ?_
          exact fin0 gq (zp_3 gS gU hi g1 gI ) hq
          -- plain 4
        · obtain ⟨hx1, hx2⟩ := nrg_not (show ¬ nrg x from fun q => gw (Or.inl q))
          obtain ⟨hy1, hy2⟩ := nrg_not (show ¬ nrg y from fun q => gw (Or.inr (Or.inl q)))
          obtain ⟨hz1, hz2⟩ := nrg_not (show ¬ nrg z from fun q => gw (Or.inr (Or.inr (Or.inl q))))
          refine v_aload_n (pc' := 209) (i := 0) (j := 2) X dX7_perform_208 rfl rfl rfl ?_
          refine v_aload_n (pc' := 210) (i := 1) (j := 3) X dX7_perform_209 rfl rfl rfl ?_
          refine v_aload (pc' := 212) (j := 0) X dX7_perform_210 rfl rfl ?_
          refine v_aload_n (pc' := 213) (i := 2) (j := 4) X dX7_perform_212 rfl rfl rfl ?_
          refine v_callV (pc' := 216) X (st := []) (c_X7_plain_4 (M := G') hi h16 hk9 gx gy gz  hx1 hx2 hy1 hy2 hz1 hz2) k_X7_performPlainly w_ml_X7_218 w_im_X7_performPlainly w_se_X7_X7_performPlainly rw_X7 (by rw [hR]; exact ⟨Nat.le_of_ble_eq_true rfl, Nat.le_of_ble_eq_true rfl⟩) rfl rfl (Nat.le_of_ble_eq_true rfl) dX7_perform_213 rfl (⟨Nat.zero_le _, Nat.zero_le _⟩) ?_
          rintro _ _ ⟨rfl, rfl⟩
          refine v_iconst (pc' := 217) (v := 0) X dX7_perform_216 (by decide) rfl ?_
          refine v_ireturn X R (Nat.zero_le _) (Nat.zero_le _) dX7_perform_217 ?_
          exact fin0 gq (zp_4 gS gU hi g1 gI ) hq
          -- plain 5
        · obtain ⟨hx1, hx2⟩ := nrg_not (show ¬ nrg x from fun q => gw (Or.inl q))
          obtain ⟨hy1, hy2⟩ := nrg_not (show ¬ nrg y from fun q => gw (Or.inr (Or.inl q)))
          obtain ⟨hz1, hz2⟩ := nrg_not (show ¬ nrg z from fun q => gw (Or.inr (Or.inr (Or.inl q))))
          refine v_aload_n (pc' := 209) (i := 0) (j := 2) X dX7_perform_208 rfl rfl rfl ?_
          refine v_aload_n (pc' := 210) (i := 1) (j := 3) X dX7_perform_209 rfl rfl rfl ?_
          refine v_aload (pc' := 212) (j := 0) X dX7_perform_210 rfl rfl ?_
          refine v_aload_n (pc' := 213) (i := 2) (j := 4) X dX7_perform_212 rfl rfl rfl ?_
          refine v_callV (pc' := 216) X (st := []) (c_X7_plain_5 (M := G') hi h16 hk9 gx gy gz  hx1 hx2 hy1 hy2 hz1 hz2) k_X7_performPlainly w_ml_X7_218 w_im_X7_performPlainly w_se_X7_X7_performPlainly rw_X7 (by rw [hR]; exact ⟨Nat.le_of_ble_eq_true rfl, Nat.le_of_ble_eq_true rfl⟩) rfl rfl (Nat.le_of_ble_eq_true rfl) dX7_perform_213 rfl (⟨Nat.zero_le _, Nat.zero_le _⟩) ?_
          rintro _ _ ⟨rfl, rfl⟩
          refine v_iconst (pc' := 217) (v := 0) X dX7_perform_216 (by decide) rfl ?_
          refine v_ireturn X R (Nat.zero_le _) (Nat.zero_le _) dX7_perform_217 ?_
          exact fin0 gq (zp_5 gS gU hi g1 gI ) hq
          -- plain 6
        · obtain ⟨hx1, hx2⟩ := nrg_not (show ¬ nrg x from fun q => gw (Or.inl q))
          obtain ⟨hy1, hy2⟩ := nrg_not (show ¬ nrg y from fun q => gw (Or.inr (Or.inl q)))
          obtain ⟨hz1, hz2⟩ := nrg_not (show ¬ nrg z from fun q => gw (Or.inr (Or.inr (Or.inl q))))
          refine v_aload_n (pc' := 209) (i := 0) (j := 2) X dX7_perform_208 rfl rfl rfl ?_
          refine v_aload_n (pc' := 210) (i := 1) (j := 3) X dX7_perform_209 rfl rfl rfl ?_
          refine v_aload (pc' := 212) (j := 0) X dX7_perform_210 rfl rfl ?_
          refine v_aload_n (pc' := 213) (i := 2) (j := 4) X dX7_perform_212 rfl rfl rfl ?_
          refine v_callV (pc' := 216) X (st := []) (c_X7_plain_6 (M := G') hi h16 hk9 gx gy gz  hx1 hx2 hy1 hy2 hz1 hz2) k_X7_performPlainly w_ml_X7_218 w_im_X7_performPlainly w_se_X7_X7_performPlainly rw_X7 (by rw [hR]; exact ⟨Nat.le_of_ble_eq_true rfl, Nat.le_of_ble_eq_true rfl⟩) rfl rfl (Nat.le_of_ble_eq_true rfl) dX7_perform_213 rfl (⟨Nat.zero_le _, Nat.zero_le _⟩) ?_
          rintro _ _ ⟨rfl, rfl⟩
          refine v_iconst (pc' := 217) (v := 0) X dX7_perform_216 (by decide) rfl ?_
          refine v_ireturn X R (Nat.zero_le _) (Nat.zero_le _) dX7_perform_217 ?_
          exact fin0 gq (zp_6 gS gU hi g1 gI ) hq
          -- plain 7
        · obtain ⟨hx1, hx2⟩ := nrg_not (show ¬ nrg x from fun q => gw (Or.inl q))
          obtain ⟨hy1, hy2⟩ := nrg_not (show ¬ nrg y from fun q => gw (Or.inr (Or.inl q)))
          obtain ⟨hz1, hz2⟩ := nrg_not (show ¬ nrg z from fun q => gw (Or.inr (Or.inr (q))))
          refine v_aload_n (pc' := 209) (i := 0) (j := 2) X dX7_perform_208 rfl rfl rfl ?_
          refine v_aload_n (pc' := 210) (i := 1) (j := 3) X dX7_perform_209 rfl rfl rfl ?_
          refine v_aload (pc' := 212) (j := 0) X dX7_perform_210 rfl rfl ?_
          refine v_aload_n (pc' := 213) (i := 2) (j := 4) X dX7_perform_212 rfl rfl rfl ?_
          refine v_callV (pc' := 216) X (st := []) (c_X7_plain_7 (M := G') hi h16 hk9 gx gy gz  hx1 hx2 hy1 hy2 hz1 hz2) k_X7_performPlainly w_ml_X7_218 w_im_X7_performPlainly w_se_X7_X7_performPlainly rw_X7 (by rw [hR]; exact ⟨Nat.le_of_ble_eq_true rfl, Nat.le_of_ble_eq_true rfl⟩) rfl rfl (Nat.le_of_ble_eq_true rfl) dX7_perform_213 rfl (⟨Nat.zero_le _, Nat.zero_le _⟩) ?_
          rintro _ _ ⟨rfl, rfl⟩
          refine v_iconst (pc' := 217) (v := 0) X dX7_perform_216 (by decide) rfl ?_
          refine v_ireturn X R (Nat.zero_le _) (Nat.zero_le _) dX7_perform_217 ?_
          exact fin0 gq (zp_7 gS gU hi g1 gI ) hq
          -- plain 8
        · refine v_aload_n (pc' := 209) (i := 0) (j := 2) X dX7_perform_208 rfl rfl rfl ?_
          refine v_aload_n (pc' := 210) (i := 1) (j := 3) X dX7_perform_209 rfl rfl rfl ?_
          refine v_aload (pc' := 212) (j := 0) X dX7_perform_210 rfl rfl ?_
          refine v_aload_n (pc' := 213) (i := 2) (j := 4) X dX7_perform_212 rfl rfl rfl ?_
          refine v_callV (pc' := 216) X (st := []) (c_X7_plain_8 (M := G') hi h16 hk9 gx gy gz  ) k_X7_performPlainly w_ml_X7_218 w_im_X7_performPlainly w_se_X7_X7_performPlainly rw_X7 (by rw [hR]; exact ⟨Nat.le_of_ble_eq_true rfl, Nat.le_of_ble_eq_true rfl⟩) rfl rfl (Nat.le_of_ble_eq_true rfl) dX7_perform_213 rfl (⟨Nat.zero_le _, Nat.zero_le _⟩) ?_
          rintro _ _ ⟨rfl, rfl⟩
          refine v_iconst (pc' := 217) (v := 0) X dX7_perform_216 (by decide) rfl ?_
          refine v_ireturn X R (Nat.zero_le _) (Nat.zero_le _) dX7_perform_217 ?_
          exact fin0 gq (zp_8 gS gU hi g1 gI ) hq
          -- plain 9
        · obtain ⟨hx1, hx2⟩ := nrg_not (show ¬ nrg x from fun q => gw (q))
          refine v_aload_n (pc' := 209) (i := 0) (j := 2) X dX7_perform_208 rfl rfl rfl ?_
          refine v_aload_n (pc' := 210) (i := 1) (j := 3) X dX7_perform_209 rfl rfl rfl ?_
          refine v_aload (pc' := 212) (j := 0) X dX7_perform_210 rfl rfl ?_
          refine v_aload_n (pc' := 213) (i := 2) (j := 4) X dX7_perform_212 rfl rfl rfl ?_
          refine v_callV (pc' := 216) X (st := []) (c_X7_plain_9 (M := G') hi h16 hk9 gx gy gz  hx1 hx2) k_X7_performPlainly w_ml_X7_218 w_im_X7_performPlainly w_se_X7_X7_performPlainly rw_X7 (by rw [hR]; exact ⟨Nat.le_of_ble_eq_true rfl, Nat.le_of_ble_eq_true rfl⟩) rfl rfl (Nat.le_of_ble_eq_true rfl) dX7_perform_213 rfl (⟨Nat.zero_le _, Nat.zero_le _⟩) ?_
          rintro _ _ ⟨rfl, rfl⟩
          refine v_iconst (pc' := 217) (v := 0) X dX7_perform_216 (by decide) rfl ?_
          refine v_ireturn X R (Nat.zero_le _) (Nat.zero_le _) dX7_perform_217 ?_
          exact fin0 gq (zp_9 gS gU hi g1 gI ) hq
          -- plain 10
        · have hn : G'.1 (tb i) 11 < 40 := by
            have h9 := gg3
            unfold gCall at h9
            rw [if_pos rfl] at h9
            exact h9
          have hca9 : ca' < 40 := by
            have h9 := hn
            rw [d11] at h9
            exact lt_of_nI (b := 40) h9 (by omega) (by decide)
          refine v_aload_n (pc' := 209) (i := 0) (j := 2) X dX7_perform_208 rfl rfl rfl ?_
          refine v_aload_n (pc' := 210) (i := 1) (j := 3) X dX7_perform_209 rfl rfl rfl ?_
          refine v_aload (pc' := 212) (j := 0) X dX7_perform_210 rfl rfl ?_
          refine v_aload_n (pc' := 213) (i := 2) (j := 4) X dX7_perform_212 rfl rfl rfl ?_
          refine v_callV (pc' := 216) X (st := []) (c_X7_plain_10 (M := G') hi h16 hk9 gx gy gz d11 hca9 ) k_X7_performPlainly w_ml_X7_218 w_im_X7_performPlainly w_se_X7_X7_performPlainly rw_X7 (by rw [hR]; exact ⟨Nat.le_of_ble_eq_true rfl, Nat.le_of_ble_eq_true rfl⟩) rfl rfl (Nat.le_of_ble_eq_true rfl) dX7_perform_213 rfl (⟨Nat.zero_le _, Nat.zero_le _⟩) ?_
          rintro _ _ ⟨rfl, rfl⟩
          refine v_iconst (pc' := 217) (v := 0) X dX7_perform_216 (by decide) rfl ?_
          refine v_ireturn X R (Nat.zero_le _) (Nat.zero_le _) dX7_perform_217 ?_
          exact fin0 gq (zp_10 gS gU hi g1 gI hn) hq
          -- plain 11
        · have hc1 : 1 ≤ ca' := by
            obtain ⟨⟨r1, r2, r3, r4, r5, r6, r7, r8, r9, r10, r11, -⟩, -⟩ := gS.T hi
            exact call_pos r4 r11 gI gg3
          refine v_aload_n (pc' := 209) (i := 0) (j := 2) X dX7_perform_208 rfl rfl rfl ?_
          refine v_aload_n (pc' := 210) (i := 1) (j := 3) X dX7_perform_209 rfl rfl rfl ?_
          refine v_aload (pc' := 212) (j := 0) X dX7_perform_210 rfl rfl ?_
          refine v_aload_n (pc' := 213) (i := 2) (j := 4) X dX7_perform_212 rfl rfl rfl ?_
          refine v_callV (pc' := 216) X (st := []) (c_X7_plain_11 (M := G') hi h16 hk9 gx gy gz d11 tca hc1 ) k_X7_performPlainly w_ml_X7_218 w_im_X7_performPlainly w_se_X7_X7_performPlainly rw_X7 (by rw [hR]; exact ⟨Nat.le_of_ble_eq_true rfl, Nat.le_of_ble_eq_true rfl⟩) rfl rfl (Nat.le_of_ble_eq_true rfl) dX7_perform_213 rfl (⟨Nat.zero_le _, Nat.zero_le _⟩) ?_
          rintro _ _ ⟨rfl, rfl⟩
          refine v_iconst (pc' := 217) (v := 0) X dX7_perform_216 (by decide) rfl ?_
          refine v_ireturn X R (Nat.zero_le _) (Nat.zero_le _) dX7_perform_217 ?_
          exact fin0 gq (zp_11 gS gU hi g1 gI gg3) hq
          -- plain 12
        · obtain ⟨hx1, hx2⟩ := nrg_not (show ¬ nrg x from fun q => gw (Or.inl q))
          obtain ⟨hy1, hy2⟩ := nrg_not (show ¬ nrg y from fun q => gw (Or.inr (Or.inl q)))
          obtain ⟨hz1, hz2⟩ := nrg_not (show ¬ nrg z from fun q => gw (Or.inr (Or.inr (q))))
          have hu9 : us' < 200 := by
            rcases Nat.lt_or_eq_of_le gU.us with y9 | y9
            · exact y9
            · exact absurd (by rw [gU.g3, y9]; rfl) (gfull (Or.inl rfl))
          refine v_aload_n (pc' := 209) (i := 0) (j := 2) X dX7_perform_208 rfl rfl rfl ?_
          refine v_aload_n (pc' := 210) (i := 1) (j := 3) X dX7_perform_209 rfl rfl rfl ?_
          refine v_aload (pc' := 212) (j := 0) X dX7_perform_210 rfl rfl ?_
          refine v_aload_n (pc' := 213) (i := 2) (j := 4) X dX7_perform_212 rfl rfl rfl ?_
          refine v_callV (pc' := 216) X (st := []) (c_X7_plain_12 (M := G') hi h16 hk9 gx gy gz d5 hu9 hx1 hx2 hy1 hy2 hz1 hz2) k_X7_performPlainly w_ml_X7_218 w_im_X7_performPlainly w_se_X7_X7_performPlainly rw_X7 (by rw [hR]; exact ⟨Nat.le_of_ble_eq_true rfl, Nat.le_of_ble_eq_true rfl⟩) rfl rfl (Nat.le_of_ble_eq_true rfl) dX7_perform_213 rfl (⟨Nat.zero_le _, Nat.zero_le _⟩) ?_
          rintro _ _ ⟨rfl, rfl⟩
          refine v_iconst (pc' := 217) (v := 0) X dX7_perform_216 (by decide) rfl ?_
          refine v_ireturn X R (Nat.zero_le _) (Nat.zero_le _) dX7_perform_217 ?_
          exact fin0 gq (zp_12 gS gU hi g1 gI (gfull (Or.inl rfl)) hy2 hz2) hq
          -- plain 13
        · obtain ⟨hx1, hx2⟩ := nrg_not (show ¬ nrg x from fun q => gw (Or.inl q))
          obtain ⟨hy1, hy2⟩ := nrg_not (show ¬ nrg y from fun q => gw (Or.inr (Or.inl q)))
          have hs : isP (rgx N' (tb i) y) := Classical.byContradiction fun q => gw (Or.inr (Or.inr (q)))
          have hpl : plOk (G'.2 (tb i + 8) (nn y)) := by rw [gS.reg hi]; exact ((trg _ hy2).ok gU.us).resolve_left (isP_n hs)
          refine v_aload_n (pc' := 209) (i := 0) (j := 2) X dX7_perform_208 rfl rfl rfl ?_
          refine v_aload_n (pc' := 210) (i := 1) (j := 3) X dX7_perform_209 rfl rfl rfl ?_
          refine v_aload (pc' := 212) (j := 0) X dX7_perform_210 rfl rfl ?_
          refine v_aload_n (pc' := 213) (i := 2) (j := 4) X dX7_perform_212 rfl rfl rfl ?_
          refine v_callV (pc' := 216) X (st := []) (c_X7_plain_13 (M := G') hi h16 hk9 gx gy gz hpl hx1 hx2 hy1 hy2) k_X7_performPlainly w_ml_X7_218 w_im_X7_performPlainly w_se_X7_X7_performPlainly rw_X7 (by rw [hR]; exact ⟨Nat.le_of_ble_eq_true rfl, Nat.le_of_ble_eq_true rfl⟩) rfl rfl (Nat.le_of_ble_eq_true rfl) dX7_perform_213 rfl (⟨Nat.zero_le _, Nat.zero_le _⟩) ?_
          rintro _ _ ⟨rfl, rfl⟩
          refine v_iconst (pc' := 217) (v := 0) X dX7_perform_216 (by decide) rfl ?_
          refine v_ireturn X R (Nat.zero_le _) (Nat.zero_le _) dX7_perform_217 ?_
          exact fin0 gq (zp_13 gS gU hi g1 gI hs hy2) hq
          -- plain 14
        · obtain ⟨hx1, hx2⟩ := nrg_not (show ¬ nrg x from fun q => gw (Or.inl q))
          obtain ⟨hy1, hy2⟩ := nrg_not (show ¬ nrg y from fun q => gw (Or.inr (Or.inl q)))
          have hs : isP (rgx N' (tb i) y) := Classical.byContradiction fun q => gw (Or.inr (Or.inr (q)))
          have hpl : plOk (G'.2 (tb i + 8) (nn y)) := by rw [gS.reg hi]; exact ((trg _ hy2).ok gU.us).resolve_left (isP_n hs)
          refine v_aload_n (pc' := 209) (i := 0) (j := 2) X dX7_perform_208 rfl rfl rfl ?_
          refine v_aload_n (pc' := 210) (i := 1) (j := 3) X dX7_perform_209 rfl rfl rfl ?_
          refine v_aload (pc' := 212) (j := 0) X dX7_perform_210 rfl rfl ?_
          refine v_aload_n (pc' := 213) (i := 2) (j := 4) X dX7_perform_212 rfl rfl rfl ?_
          refine v_callV (pc' := 216) X (st := []) (c_X7_plain_14 (M := G') hi h16 hk9 gx gy gz hpl hx1 hx2 hy1 hy2) k_X7_performPlainly w_ml_X7_218 w_im_X7_performPlainly w_se_X7_X7_performPlainly rw_X7 (by rw [hR]; exact ⟨Nat.le_of_ble_eq_true rfl, Nat.le_of_ble_eq_true rfl⟩) rfl rfl (Nat.le_of_ble_eq_true rfl) dX7_perform_213 rfl (⟨Nat.zero_le _, Nat.zero_le _⟩) ?_
          rintro _ _ ⟨rfl, rfl⟩
          refine v_iconst (pc' := 217) (v := 0) X dX7_perform_216 (by decide) rfl ?_
          refine v_ireturn X R (Nat.zero_le _) (Nat.zero_le _) dX7_perform_217 ?_
          exact fin0 gq (zp_14 gS gU hi g1 gI hs hy2) hq
          -- plain 15
        · obtain ⟨hx1, hx2⟩ := nrg_not (show ¬ nrg x from fun q => gw (Or.inl q))
          obtain ⟨hy1, hy2⟩ := nrg_not (show ¬ nrg y from fun q => gw (Or.inr (q)))
          have hu9 : us' < 200 := by
            rcases Nat.lt_or_eq_of_le gU.us with y9 | y9
            · exact y9
            · exact absurd (by rw [gU.g3, y9]; rfl) (gfull (Or.inr rfl))
          refine v_aload_n (pc' := 209) (i := 0) (j := 2) X dX7_perform_208 rfl rfl rfl ?_
          refine v_aload_n (pc' := 210) (i := 1) (j := 3) X dX7_perform_209 rfl rfl rfl ?_
          refine v_aload (pc' := 212) (j := 0) X dX7_perform_210 rfl rfl ?_
          refine v_aload_n (pc' := 213) (i := 2) (j := 4) X dX7_perform_212 rfl rfl rfl ?_
          refine v_callV (pc' := 216) X (st := []) (c_X7_plain_15 (M := G') hi h16 hk9 gx gy gz d5 hu9 hx1 hx2 hy1 hy2) k_X7_performPlainly w_ml_X7_218 w_im_X7_performPlainly w_se_X7_X7_performPlainly rw_X7 (by rw [hR]; exact ⟨Nat.le_of_ble_eq_true rfl, Nat.le_of_ble_eq_true rfl⟩) rfl rfl (Nat.le_of_ble_eq_true rfl) dX7_perform_213 rfl (⟨Nat.zero_le _, Nat.zero_le _⟩) ?_
          rintro _ _ ⟨rfl, rfl⟩
          refine v_iconst (pc' := 217) (v := 0) X dX7_perform_216 (by decide) rfl ?_
          refine v_ireturn X R (Nat.zero_le _) (Nat.zero_le _) dX7_perform_217 ?_
          exact fin0 gq (zp_15 gS gU hi g1 gI (gfull (Or.inr rfl)) hy2) hq
          -- plain 25
        · obtain ⟨hx1, hx2⟩ := nrg_not (show ¬ nrg x from fun q => gw (q))
          have gq2 : fOuter N' n (tb i) 25 x y = fQ N n (tb i) num x y z := (rest_o (by decide) (by decide)).symm.trans gq
          have f3 : Sm (gFork G' n (tb i) x y) (fOuter N' n (tb i) 25 x y).1 (if n = 16 then n else n + 1) s := z_fork gS hi
          have hN9 : nn ((fQ N n (tb i) num x y z).1.1 0 2) = if n = 16 then n else n + 1 := by
            rw [← gq2, f3.2.2.2.2.2.1.2.1]
            exact nn_nI (by split <;> omega)
          refine v_aload_n (pc' := 209) (i := 0) (j := 2) X dX7_perform_208 rfl rfl rfl ?_
          refine v_aload_n (pc' := 210) (i := 1) (j := 3) X dX7_perform_209 rfl rfl rfl ?_
          refine v_aload (pc' := 212) (j := 0) X dX7_perform_210 rfl rfl ?_
          refine v_aload_n (pc' := 213) (i := 2) (j := 4) X dX7_perform_212 rfl rfl rfl ?_
          refine v_callV (pc' := 216) X (st := []) (c_X7_plain_25 (M := G') hi h16 hk9 gx gy gz d52 hn16 (by omega) hq hx1 hx2) k_X7_performPlainly w_ml_X7_218 w_im_X7_performPlainly w_se_X7_X7_performPlainly rw_X7 (by rw [hR]; exact ⟨Nat.le_of_ble_eq_true rfl, Nat.le_of_ble_eq_true rfl⟩) rfl rfl (Nat.le_of_ble_eq_true rfl) dX7_perform_213 rfl (by rw [hR]; show 0 + (if n = 16 then 0 else 13) ≤ 13 * (nn ((fQ N n (tb i) num x y z).1.1 0 2) - n) ∧ 0 + (if n = 16 then 0 else 800) ≤ 800 * (nn ((fQ N n (tb i) num x y z).1.1 0 2) - n); rw [hN9]; split <;> exact ⟨by omega, by omega⟩) ?_
          rintro _ _ ⟨rfl, ad9, cq9, rfl, hq9, had9⟩
          refine v_iconst (pc' := 217) (v := 0) X dX7_perform_216 (by decide) rfl ?_
          refine v_ireturn X R (by rw [hN9]; split <;> omega) (by rw [hN9]; split <;> omega) dX7_perform_217 ?_
          exact finF gq2 rfl f3 hq9 (by split <;> omega) had9
          -- plain 26
        · obtain ⟨hx1, hx2⟩ := nrg_not (show ¬ nrg x from fun q => gw (Or.inl q))
          obtain ⟨pd, od, hP⟩ := gS.2.2.2.1
          refine v_aload_n (pc' := 209) (i := 0) (j := 2) X dX7_perform_208 rfl rfl rfl ?_
          refine v_aload_n (pc' := 210) (i := 1) (j := 3) X dX7_perform_209 rfl rfl rfl ?_
          refine v_aload (pc' := 212) (j := 0) X dX7_perform_210 rfl rfl ?_
          refine v_aload_n (pc' := 213) (i := 2) (j := 4) X dX7_perform_212 rfl rfl rfl ?_
          refine v_callV (pc' := 216) X (st := []) (c_X7_plain_26 (M := G') hi h16 hk9 gx gy gz hP.1 hP.2.1 hP.2.2.1 hP.2.2.2.1 hx1 hx2) k_X7_performPlainly w_ml_X7_218 w_im_X7_performPlainly w_se_X7_X7_performPlainly rw_X7 (by rw [hR]; exact ⟨Nat.le_of_ble_eq_true rfl, Nat.le_of_ble_eq_true rfl⟩) rfl rfl (Nat.le_of_ble_eq_true rfl) dX7_perform_213 rfl (⟨Nat.zero_le _, Nat.zero_le _⟩) ?_
          rintro _ _ ⟨rfl, rfl⟩
          refine v_iconst (pc' := 217) (v := 0) X dX7_perform_216 (by decide) rfl ?_
          refine v_ireturn X R (Nat.zero_le _) (Nat.zero_le _) dX7_perform_217 ?_
          exact fin0 gq (zp_26 gS gU hi g1 gI hP) hq
          -- plain 27
        · obtain ⟨hx1, hx2⟩ := ngl_not (show ¬ ngl x from fun q => gw (Or.inl q))
          obtain ⟨hy1, hy2⟩ := nrg_not (show ¬ nrg y from fun q => gw (Or.inr (q)))
          refine v_aload_n (pc' := 209) (i := 0) (j := 2) X dX7_perform_208 rfl rfl rfl ?_
          refine v_aload_n (pc' := 210) (i := 1) (j := 3) X dX7_perform_209 rfl rfl rfl ?_
          refine v_aload (pc' := 212) (j := 0) X dX7_perform_210 rfl rfl ?_
          refine v_aload_n (pc' := 213) (i := 2) (j := 4) X dX7_perform_212 rfl rfl rfl ?_
          refine v_callV (pc' := 216) X (st := []) (c_X7_plain_27 (M := G') hi h16 hk9 gx gy gz  hx1 hx2 hy1 hy2) k_X7_performPlainly w_ml_X7_218 w_im_X7_performPlainly w_se_X7_X7_performPlainly rw_X7 (by rw [hR]; exact ⟨Nat.le_of_ble_eq_true rfl, Nat.le_of_ble_eq_true rfl⟩) rfl rfl (Nat.le_of_ble_eq_true rfl) dX7_perform_213 rfl (⟨Nat.zero_le _, Nat.zero_le _⟩) ?_
          rintro _ _ ⟨rfl, rfl⟩
          refine v_iconst (pc' := 217) (v := 0) X dX7_perform_216 (by decide) rfl ?_
          refine v_ireturn X R (Nat.zero_le _) (Nat.zero_le _) dX7_perform_217 ?_
          exact fin0 gq (zp_27 gS gU hi g1 gI ) hq
          -- plain 28
        · obtain ⟨hx1, hx2⟩ := nrg_not (show ¬ nrg x from fun q => gw (Or.inl q))
          obtain ⟨hy1, hy2⟩ := ngl_not (show ¬ ngl y from fun q => gw (Or.inr (q)))
          refine v_aload_n (pc' := 209) (i := 0) (j := 2) X dX7_perform_208 rfl rfl rfl ?_
          refine v_aload_n (pc' := 210) (i := 1) (j := 3) X dX7_perform_209 rfl rfl rfl ?_
          refine v_aload (pc' := 212) (j := 0) X dX7_perform_210 rfl rfl ?_
          refine v_aload_n (pc' := 213) (i := 2) (j := 4) X dX7_perform_212 rfl rfl rfl ?_
          refine v_callV (pc' := 216) X (st := []) (c_X7_plain_28 (M := G') hi h16 hk9 gx gy gz  hx1 hx2 hy1 hy2) k_X7_performPlainly w_ml_X7_218 w_im_X7_performPlainly w_se_X7_X7_performPlainly rw_X7 (by rw [hR]; exact ⟨Nat.le_of_ble_eq_true rfl, Nat.le_of_ble_eq_true rfl⟩) rfl rfl (Nat.le_of_ble_eq_true rfl) dX7_perform_213 rfl (⟨Nat.zero_le _, Nat.zero_le _⟩) ?_
          rintro _ _ ⟨rfl, rfl⟩
          refine v_iconst (pc' := 217) (v := 0) X dX7_perform_216 (by decide) rfl ?_
          refine v_ireturn X R (Nat.zero_le _) (Nat.zero_le _) dX7_perform_217 ?_
          exact fin0 gq (zp_28 gS gU hi g1 gI ) hq
          -- plain 29
        · obtain ⟨hx1, hx2⟩ := nrg_not (show ¬ nrg x from fun q => gw (Or.inl q))
          obtain ⟨hy1, hy2⟩ := nrg_not (show ¬ nrg y from fun q => gw (Or.inr (q)))
          refine v_aload_n (pc' := 209) (i := 0) (j := 2) X dX7_perform_208 rfl rfl rfl ?_
          refine v_aload_n (pc' := 210) (i := 1) (j := 3) X dX7_perform_209 rfl rfl rfl ?_
          refine v_aload (pc' := 212) (j := 0) X dX7_perform_210 rfl rfl ?_
          refine v_aload_n (pc' := 213) (i := 2) (j := 4) X dX7_perform_212 rfl rfl rfl ?_
          refine v_callV (pc' := 216) X (st := []) (c_X7_plain_29 (M := G') hi h16 hk9 gx gy gz  hx1 hx2 hy1 hy2) k_X7_performPlainly w_ml_X7_218 w_im_X7_performPlainly w_se_X7_X7_performPlainly rw_X7 (by rw [hR]; exact ⟨Nat.le_of_ble_eq_true rfl, Nat.le_of_ble_eq_true rfl⟩) rfl rfl (Nat.le_of_ble_eq_true rfl) dX7_perform_213 rfl (⟨Nat.zero_le _, Nat.zero_le _⟩) ?_
          rintro _ _ ⟨rfl, rfl⟩
          refine v_iconst (pc' := 217) (v := 0) X dX7_perform_216 (by decide) rfl ?_
          refine v_ireturn X R (Nat.zero_le _) (Nat.zero_le _) dX7_perform_217 ?_
          exact fin0 gq (zp_29 gS gU hi g1 gI ) hq
    refine v_getsN (pc' := 15) X X.zA n_fl_X7_167 rfl dX7_perform_12 rfl ?_
    refine v_aload_n (pc' := 16) (i := 2) (j := 3) X dX7_perform_15 rfl rfl rfl ?_
    refine fk_X7_173 (pc' := 19) X hk9 (v := num) hnum dX7_perform_16 rfl ?_
    refine v_tq (pc' := 20) X X.zAt (o) on ho (by decide) rfl dX7_perform_19 rfl ?_
    refine v_astore (pc' := 22) (lv' := [(4, .ref (kZ K o)), (3, .int (gFault M (tb i) e num x y z)), (0, .ref (ad (0))), (1, .ref (ad (tb i))), (2, .ref (ad (ib k9)))]) X dX7_perform_20 (by decide) rfl rfl ?_
    refine v_aload (pc' := 24) (j := 0) X dX7_perform_22 rfl rfl ?_
    refine v_gets (pc' := 27) (v := .ref (kZ K 12)) X (X.zE.1 12 (by decide)).1 w_fl_X7_176 rfl dX7_perform_24 rfl ?_
    refine v_acmp_eq (rx := some (kZ K o)) (ry := some (kZ K 12)) (tgt := 38) (pc' := 30) X dX7_perform_27 (by decide) rfl (fun hc_27 => ?_) (fun hc_27 => ?_)
    · have ho12 : o = 12 := zE_inj X ho (by decide) (Option.some.inj hc_27)
      refine v_aload_n (pc' := 39) (i := 0) (j := 2) X dX7_perform_38 rfl rfl rfl ?_
      refine fk_X7_26 (pc' := 42) X dX7_perform_39 rfl ?_
      refine fk_X7_122 (pc' := 45) X (v := nI us) hu5 dX7_perform_42 rfl ?_
      refine v_sipush (pc' := 48) (v := 200) X dX7_perform_45 (by decide) rfl ?_
      refine v_icmp_lt (pc' := 51) (tgt := 71) X dX7_perform_48 (by decide) rfl (fun hc_48 => ?_) (fun hc_48 => ?_)
      -- taken 48
      · exact htail M N us ca e r w hS hU h1 hI hx hy hz9 gw0 gi10 gi20 gg20 gg30 (fun _ z9 => absurd hc_48 (by rw [← hU.g3, z9]; decide)) gq0
      -- not taken 48
      · refine v_aload_n (pc' := 52) (i := 0) (j := 2) X dX7_perform_51 rfl rfl rfl ?_
        refine v_callV (pc' := 55) X (st := []) (c_X7_markAndSlide (M := M) b52 hn16 hq.1 hq2 hu5 hu hS.2.2.1 (fun k hk => gl_ok hS hU hk) (fun j hj => cOK_of hS hU hj)) k_X7_markAndSlide w_ml_X7_145 w_im_X7_markAndSlide w_se_X7_X7_markAndSlide rw_X7 (by rw [hR]; exact ⟨Nat.le_of_ble_eq_true rfl, Nat.le_of_ble_eq_true rfl⟩) rfl rfl (Nat.le_of_ble_eq_true rfl) dX7_perform_52 rfl (⟨Nat.zero_le _, Nat.zero_le _⟩) ?_
        rintro _ _ ⟨rfl, rfl⟩
        obtain ⟨u2, hu2, hG3, hU2⟩ := iu_gather hU
        have hS2 := z_coll hS hU
        have hu25 : (gColl M n us).1 1 5 = nI u2 := (hS2.v hU2).1
        have hus : us = 200 := by
          rcases Nat.lt_or_ge us 200 with y9 | y9
          · exact absurd (nI_lt (b := 200) y9 (by decide)) hc_48
          · omega
        have hf3 : N.1 0 3 = 200 := by rw [hU.g3, hus]; rfl
        refine v_aload_n (pc' := 56) (i := 0) (j := 2) X dX7_perform_55 rfl rfl rfl ?_
        refine fk_X7_26 (pc' := 59) X dX7_perform_56 rfl ?_
        refine fk_X7_122 (pc' := 62) X (v := nI u2) hu25 dX7_perform_59 rfl ?_
        refine v_sipush (pc' := 65) (v := 200) X dX7_perform_62 (by decide) rfl ?_
        refine v_icmp_lt (pc' := 68) (tgt := 71) X dX7_perform_65 (by decide) rfl (fun hc_65 => ?_) (fun hc_65 => ?_)
        -- taken 65
        · obtain ⟨ca2, e2, r2, w2, hI2⟩ := hU2.at hi
          have r0 : (fGather N n us).1 (tb i) = N.1 (tb i) := fGather_1 (by unfold tb; omega) (by unfold tb; omega) (by unfold tb; omega) (by unfold tb; omega) (by unfold tb; omega)
          have c0 : (gColl M n us).1 (ib k9) = M.1 (ib k9) := gColl_1 (by unfold ib; omega) (by unfold ib; omega) (by unfold ib; omega) (by unfold ib; omega) (by unfold ib; omega) (fun q hq => by unfold ib tb; omega)
          have hg3 : ¬ (fGather N n us).1 0 3 = 200 := fun z9 => absurd hc_65 (by rw [← hG3, z9]; decide)
          refine htail (gColl M n us) (fGather N n us) u2 ca2 e2 r2 w2 hS2 hU2 (by rw [r0]; exact h1) hI2 (by rw [c0]; exact hx) (by rw [c0]; exact hy) (by rw [c0]; exact hz9) ?_ ?_ ?_ ?_ ?_ (fun _ => hg3) ?_
          · rw [ho12, fW_12] at gw0 ⊢; exact gw0
          · rw [ho12]; exact fun z9 => absurd z9 (by decide)
          · rw [ho12]; exact fun z9 => absurd z9 (by decide)
          · rw [ho12, show opM.getD 12 0 = 22 from by decide, gN2_x (by decide) (by decide) (by decide) (by decide)]; trivial
          · rw [ho12]; unfold gCall; rw [if_neg (by decide), if_neg (by decide)]; trivial
          · rw [ho12] at gq0 ⊢
            rw [← gq0, rest_p (by decide), rest_p (by decide)]
            subst hus
            exact made_go (ip := true) hf3 hg3
        -- not taken 65
        · refine v_bipush (pc' := 70) (v := (-3)) X dX7_perform_68 (by decide) rfl ?_
          refine v_ireturn X R (Nat.zero_le _) (Nat.zero_le _) dX7_perform_70 ?_
          have hg3 : (fGather N n us).1 0 3 = 200 := by
            have hu200 : u2 = 200 := by
              rcases Nat.lt_or_ge u2 200 with y9 | y9
              · exact absurd (nI_lt (b := 200) y9 (by decide)) hc_65
              · omega
            rw [hG3, hu200]; rfl
          refine finV (Q1 := (fGather N n us, -3)) ?_ rfl (Or.inr (show (-3 : Int32) < 0 by decide)) hS2 hq
          rw [ho12] at gq0
          rw [← gq0, rest_p (by decide)]
          subst hus
          exact (made_no (ip := true) hf3 hg3).symm
    · have ho12 : ¬ o = 12 := fun z9 => hc_27 (by rw [z9])
      refine v_aload (pc' := 32) (j := 0) X dX7_perform_30 rfl rfl ?_
      refine v_gets (pc' := 35) (v := .ref (kZ K 15)) X (X.zE.1 15 (by decide)).1 w_fl_X7_180 rfl dX7_perform_32 rfl ?_
      refine v_acmp_ne (rx := some (kZ K o)) (ry := some (kZ K 15)) (tgt := 71) (pc' := 38) X dX7_perform_35 (by decide) rfl (fun hc_35 => ?_) (fun hc_35 => ?_)
      · have ho15 : ¬ o = 15 := fun z9 => hc_35 (by rw [z9])
        exact htail M N us ca e r w hS hU h1 hI hx hy hz9 gw0 gi10 gi20 gg20 gg30 (fun z9 => z9.elim (fun y => absurd y ho12) (fun y => absurd y ho15)) gq0
      · have ho15 : o = 15 := zE_inj X ho (by decide) (Option.some.inj hc_35)
        refine v_aload_n (pc' := 39) (i := 0) (j := 2) X dX7_perform_38 rfl rfl rfl ?_
        refine fk_X7_26 (pc' := 42) X dX7_perform_39 rfl ?_
        refine fk_X7_122 (pc' := 45) X (v := nI us) hu5 dX7_perform_42 rfl ?_
        refine v_sipush (pc' := 48) (v := 200) X dX7_perform_45 (by decide) rfl ?_
        refine v_icmp_lt (pc' := 51) (tgt := 71) X dX7_perform_48 (by decide) rfl (fun hc_48 => ?_) (fun hc_48 => ?_)
        -- taken 48
        · exact htail M N us ca e r w hS hU h1 hI hx hy hz9 gw0 gi10 gi20 gg20 gg30 (fun _ z9 => absurd hc_48 (by rw [← hU.g3, z9]; decide)) gq0
        -- not taken 48
        · refine v_aload_n (pc' := 52) (i := 0) (j := 2) X dX7_perform_51 rfl rfl rfl ?_
          refine v_callV (pc' := 55) X (st := []) (c_X7_markAndSlide (M := M) b52 hn16 hq.1 hq2 hu5 hu hS.2.2.1 (fun k hk => gl_ok hS hU hk) (fun j hj => cOK_of hS hU hj)) k_X7_markAndSlide w_ml_X7_145 w_im_X7_markAndSlide w_se_X7_X7_markAndSlide rw_X7 (by rw [hR]; exact ⟨Nat.le_of_ble_eq_true rfl, Nat.le_of_ble_eq_true rfl⟩) rfl rfl (Nat.le_of_ble_eq_true rfl) dX7_perform_52 rfl (⟨Nat.zero_le _, Nat.zero_le _⟩) ?_
          rintro _ _ ⟨rfl, rfl⟩
          obtain ⟨u2, hu2, hG3, hU2⟩ := iu_gather hU
          have hS2 := z_coll hS hU
          have hu25 : (gColl M n us).1 1 5 = nI u2 := (hS2.v hU2).1
          have hus : us = 200 := by
            rcases Nat.lt_or_ge us 200 with y9 | y9
            · exact absurd (nI_lt (b := 200) y9 (by decide)) hc_48
            · omega
          have hf3 : N.1 0 3 = 200 := by rw [hU.g3, hus]; rfl
          refine v_aload_n (pc' := 56) (i := 0) (j := 2) X dX7_perform_55 rfl rfl rfl ?_
          refine fk_X7_26 (pc' := 59) X dX7_perform_56 rfl ?_
          refine fk_X7_122 (pc' := 62) X (v := nI u2) hu25 dX7_perform_59 rfl ?_
          refine v_sipush (pc' := 65) (v := 200) X dX7_perform_62 (by decide) rfl ?_
          refine v_icmp_lt (pc' := 68) (tgt := 71) X dX7_perform_65 (by decide) rfl (fun hc_65 => ?_) (fun hc_65 => ?_)
          -- taken 65
          · obtain ⟨ca2, e2, r2, w2, hI2⟩ := hU2.at hi
            have r0 : (fGather N n us).1 (tb i) = N.1 (tb i) := fGather_1 (by unfold tb; omega) (by unfold tb; omega) (by unfold tb; omega) (by unfold tb; omega) (by unfold tb; omega)
            have c0 : (gColl M n us).1 (ib k9) = M.1 (ib k9) := gColl_1 (by unfold ib; omega) (by unfold ib; omega) (by unfold ib; omega) (by unfold ib; omega) (by unfold ib; omega) (fun q hq => by unfold ib tb; omega)
            have hg3 : ¬ (fGather N n us).1 0 3 = 200 := fun z9 => absurd hc_65 (by rw [← hG3, z9]; decide)
            refine htail (gColl M n us) (fGather N n us) u2 ca2 e2 r2 w2 hS2 hU2 (by rw [r0]; exact h1) hI2 (by rw [c0]; exact hx) (by rw [c0]; exact hy) (by rw [c0]; exact hz9) ?_ ?_ ?_ ?_ ?_ (fun _ => hg3) ?_
            · rw [ho15, fW_15] at gw0 ⊢; exact gw0
            · rw [ho15]; exact fun z9 => absurd z9 (by decide)
            · rw [ho15]; exact fun z9 => absurd z9 (by decide)
            · rw [ho15, show opM.getD 15 0 = 25 from by decide, gN2_x (by decide) (by decide) (by decide) (by decide)]; trivial
            · rw [ho15]; unfold gCall; rw [if_neg (by decide), if_neg (by decide)]; trivial
            · rw [ho15] at gq0 ⊢
              rw [← gq0, rest_p (by decide), rest_p (by decide)]
              subst hus
              exact made_go (ip := false) hf3 hg3
          -- not taken 65
          · refine v_bipush (pc' := 70) (v := (-3)) X dX7_perform_68 (by decide) rfl ?_
            refine v_ireturn X R (Nat.zero_le _) (Nat.zero_le _) dX7_perform_70 ?_
            have hg3 : (fGather N n us).1 0 3 = 200 := by
              have hu200 : u2 = 200 := by
                rcases Nat.lt_or_ge u2 200 with y9 | y9
                · exact absurd (nI_lt (b := 200) y9 (by decide)) hc_65
                · omega
              rw [hG3, hu200]; rfl
            refine finV (Q1 := (fGather N n us, -3)) ?_ rfl (Or.inr (show (-3 : Int32) < 0 by decide)) hS2 hq
            rw [ho15] at gq0
            rw [← gq0, rest_p (by decide)]
            subst hus
            exact (made_no (ip := false) hf3 hg3).symm
  -- not taken 7
  · refine v_iload_n (pc' := 11) (i := 3) (j := 0) X dX7_perform_10 rfl rfl rfl ?_
    refine v_ireturn X R (Nat.zero_le _) (Nat.zero_le _) dX7_perform_11 ?_
    obtain ⟨f1, f2⟩ := fQ_bad hS hi hI hc_7
    exact finV (Q1 := (N, gFault M (tb i) e num x y z)) f1.symm rfl (Or.inr f2) hS hq
