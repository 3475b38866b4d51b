/-! WRONG, PLAIN (reference), instruction by instruction -/
set_option maxHeartbeats 4000000 in
set_option maxRecDepth 100000 in
theorem c_X9_wrong_0 {l : Launch} {D : va_G} {Y : Nat → ClassId} {zz : Nat → Nat} {n : Nat} {ad : Nat → Nat} {M : vM} {i : Nat} (hi : i < n) {x y z : Int32} : Ct l D Y zz yX9_wrong cX9_wrong 8 (some FieldType.boolean) 1 20 [.ref (ad (0)), .ref (ad (tb i)), .int 0, .int x, .int y, .int z] (wM Y n ad M) 0 0 (fun r w => r = some (.int (bP (fWrong M (tb i) 0 x y z))) ∧ w = wM Y n ad M) := by
  refine v_entry (by decide +kernel) (Nat.le_of_ble_eq_true rfl) ?_
  intro K X R hR hnm hl hD hY hz
  subst hl hD hY hz
  refine v_sub (lv' := [(0, .ref (ad (0))), (1, .ref (ad (tb i))), (2, .int 0), (3, .int x), (4, .int y), (5, .int z)]) [0, 1, 2, 3, 4, 5] rfl ?_
  refine v_iload_n (pc' := 1) (i := 3) (j := 3) X dX9_wrong_0 rfl rfl rfl ?_
  refine v_callS (pc' := 4) X (st := []) (c_X9_noRegister (n := n) (ad := ad) (M := M) (k := x)) k_X9_noRegister w_ml_X9_101 w_st_X9_noRegister (by rw [hR]; exact ⟨Nat.le_of_ble_eq_true rfl, Nat.le_of_ble_eq_true rfl⟩) rfl rfl (Nat.le_of_ble_eq_true rfl) dX9_wrong_1 rfl (⟨Nat.zero_le _, Nat.zero_le _⟩) ?_
  rintro _ _ ⟨rfl, rfl⟩
  refine v_istore (pc' := 6) (lv' := [(6, .int (bP (nrg x))), (0, .ref (ad (0))), (1, .ref (ad (tb i))), (2, .int 0), (3, .int x), (4, .int y), (5, .int z)]) X dX9_wrong_4 (by decide) rfl rfl ?_
  refine v_iload (pc' := 8) (j := 5) X dX9_wrong_6 rfl rfl ?_
  refine v_callS (pc' := 11) X (st := []) (c_X9_noRegister (n := n) (ad := ad) (M := M) (k := y)) k_X9_noRegister w_ml_X9_101 w_st_X9_noRegister (by rw [hR]; exact ⟨Nat.le_of_ble_eq_true rfl, Nat.le_of_ble_eq_true rfl⟩) rfl rfl (Nat.le_of_ble_eq_true rfl) dX9_wrong_8 rfl (⟨Nat.zero_le _, Nat.zero_le _⟩) ?_
  rintro _ _ ⟨rfl, rfl⟩
  refine v_istore (pc' := 13) (lv' := [(7, .int (bP (nrg y))), (6, .int (bP (nrg x))), (0, .ref (ad (0))), (1, .ref (ad (tb i))), (2, .int 0), (3, .int x), (4, .int y), (5, .int z)]) X dX9_wrong_11 (by decide) rfl rfl ?_
  refine v_iload_n (pc' := 14) (i := 2) (j := 4) X dX9_wrong_13 rfl rfl rfl ?_
  refine v_tableOut (tgt := 419) X dX9_wrong_14 (by decide) (by decide) ?_
  refine v_iconst (pc' := 420) (v := 0) X dX9_wrong_419 (by decide) rfl ?_
  refine v_zreturn X R (by decide) (Nat.zero_le _) (Nat.zero_le _) dX9_wrong_420 ?_
  exact ⟨congrArg (fun q9 => some (Value.int q9)) (bP_f (c := fWrong M (tb i) 0 x y z) id).symm, rfl⟩
set_option maxHeartbeats 4000000 in
set_option maxRecDepth 100000 in
theorem c_X9_wrong_1 {l : Launch} {D : va_G} {Y : Nat → ClassId} {zz : Nat → Nat} {n : Nat} {ad : Nat → Nat} {M : vM} {i : Nat} (hi : i < n) {x y z : Int32} : Ct l D Y zz yX9_wrong cX9_wrong 8 (some FieldType.boolean) 1 20 [.ref (ad (0)), .ref (ad (tb i)), .int 1, .int x, .int y, .int z] (wM Y n ad M) 0 0 (fun r w => r = some (.int (bP (fWrong M (tb i) 1 x y z))) ∧ w = wM Y n ad M) := by
  refine v_entry (by decide +kernel) (Nat.le_of_ble_eq_true rfl) ?_
  intro K X R hR hnm hl hD hY hz
  subst hl hD hY hz
  refine v_sub (lv' := [(0, .ref (ad (0))), (1, .ref (ad (tb i))), (2, .int 1), (3, .int x), (4, .int y), (5, .int z)]) [0, 1, 2, 3, 4, 5] rfl ?_
  refine v_iload_n (pc' := 1) (i := 3) (j := 3) X dX9_wrong_0 rfl rfl rfl ?_
  refine v_callS (pc' := 4) X (st := []) (c_X9_noRegister (n := n) (ad := ad) (M := M) (k := x)) k_X9_noRegister w_ml_X9_101 w_st_X9_noRegister (by rw [hR]; exact ⟨Nat.le_of_ble_eq_true rfl, Nat.le_of_ble_eq_true rfl⟩) rfl rfl (Nat.le_of_ble_eq_true rfl) dX9_wrong_1 rfl (⟨Nat.zero_le _, Nat.zero_le _⟩) ?_
  rintro _ _ ⟨rfl, rfl⟩
  refine v_istore (pc' := 6) (lv' := [(6, .int (bP (nrg x))), (0, .ref (ad (0))), (1, .ref (ad (tb i))), (2, .int 1), (3, .int x), (4, .int y), (5, .int z)]) X dX9_wrong_4 (by decide) rfl rfl ?_
  refine v_iload (pc' := 8) (j := 5) X dX9_wrong_6 rfl rfl ?_
  refine v_callS (pc' := 11) X (st := []) (c_X9_noRegister (n := n) (ad := ad) (M := M) (k := y)) k_X9_noRegister w_ml_X9_101 w_st_X9_noRegister (by rw [hR]; exact ⟨Nat.le_of_ble_eq_true rfl, Nat.le_of_ble_eq_true rfl⟩) rfl rfl (Nat.le_of_ble_eq_true rfl) dX9_wrong_8 rfl (⟨Nat.zero_le _, Nat.zero_le _⟩) ?_
  rintro _ _ ⟨rfl, rfl⟩
  refine v_istore (pc' := 13) (lv' := [(7, .int (bP (nrg y))), (6, .int (bP (nrg x))), (0, .ref (ad (0))), (1, .ref (ad (tb i))), (2, .int 1), (3, .int x), (4, .int y), (5, .int z)]) X dX9_wrong_11 (by decide) rfl rfl ?_
  refine v_iload_n (pc' := 14) (i := 2) (j := 4) X dX9_wrong_13 rfl rfl rfl ?_
  refine v_tableIn (off := 130) (tgt := 144) X dX9_wrong_14 (by decide) (by decide) (by decide) (by decide) ?_
  refine v_iload (pc' := 146) (j := 1) X dX9_wrong_144 rfl rfl ?_
  refine v_zreturn X R (bP_nar _) (Nat.zero_le _) (Nat.zero_le _) dX9_wrong_146 ?_
  exact ⟨rfl, rfl⟩
set_option maxHeartbeats 4000000 in
set_option maxRecDepth 100000 in
theorem c_X9_wrong_2 {l : Launch} {D : va_G} {Y : Nat → ClassId} {zz : Nat → Nat} {n : Nat} {ad : Nat → Nat} {M : vM} {i : Nat} (hi : i < n) {x y z : Int32} : Ct l D Y zz yX9_wrong cX9_wrong 8 (some FieldType.boolean) 1 20 [.ref (ad (0)), .ref (ad (tb i)), .int 2, .int x, .int y, .int z] (wM Y n ad M) 0 0 (fun r w => r = some (.int (bP (fWrong M (tb i) 2 x y z))) ∧ w = wM Y n ad M) := by
  refine v_entry (by decide +kernel) (Nat.le_of_ble_eq_true rfl) ?_
  intro K X R hR hnm hl hD hY hz
  subst hl hD hY hz
  refine v_sub (lv' := [(0, .ref (ad (0))), (1, .ref (ad (tb i))), (2, .int 2), (3, .int x), (4, .int y), (5, .int z)]) [0, 1, 2, 3, 4, 5] rfl ?_
  refine v_iload_n (pc' := 1) (i := 3) (j := 3) X dX9_wrong_0 rfl rfl rfl ?_
  refine v_callS (pc' := 4) X (st := []) (c_X9_noRegister (n := n) (ad := ad) (M := M) (k := x)) k_X9_noRegister w_ml_X9_101 w_st_X9_noRegister (by rw [hR]; exact ⟨Nat.le_of_ble_eq_true rfl, Nat.le_of_ble_eq_true rfl⟩) rfl rfl (Nat.le_of_ble_eq_true rfl) dX9_wrong_1 rfl (⟨Nat.zero_le _, Nat.zero_le _⟩) ?_
  rintro _ _ ⟨rfl, rfl⟩
  refine v_istore (pc' := 6) (lv' := [(6, .int (bP (nrg x))), (0, .ref (ad (0))), (1, .ref (ad (tb i))), (2, .int 2), (3, .int x), (4, .int y), (5, .int z)]) X dX9_wrong_4 (by decide) rfl rfl ?_
  refine v_iload (pc' := 8) (j := 5) X dX9_wrong_6 rfl rfl ?_
  refine v_callS (pc' := 11) X (st := []) (c_X9_noRegister (n := n) (ad := ad) (M := M) (k := y)) k_X9_noRegister w_ml_X9_101 w_st_X9_noRegister (by rw [hR]; exact ⟨Nat.le_of_ble_eq_true rfl, Nat.le_of_ble_eq_true rfl⟩) rfl rfl (Nat.le_of_ble_eq_true rfl) dX9_wrong_8 rfl (⟨Nat.zero_le _, Nat.zero_le _⟩) ?_
  rintro _ _ ⟨rfl, rfl⟩
  refine v_istore (pc' := 13) (lv' := [(7, .int (bP (nrg y))), (6, .int (bP (nrg x))), (0, .ref (ad (0))), (1, .ref (ad (tb i))), (2, .int 2), (3, .int x), (4, .int y), (5, .int z)]) X dX9_wrong_11 (by decide) rfl rfl ?_
  refine v_iload_n (pc' := 14) (i := 2) (j := 4) X dX9_wrong_13 rfl rfl rfl ?_
  refine v_tableIn (off := 133) (tgt := 147) X dX9_wrong_14 (by decide) (by decide) (by decide) (by decide) ?_
  refine v_iload (pc' := 149) (j := 1) X dX9_wrong_147 rfl rfl ?_
  refine v_ifB_ne (pc' := 152) (tgt := 177) X dX9_wrong_149 (by decide) rfl (fun hc_149 => ?_) (fun hc_149 => ?_)
  -- taken 149
  · refine v_iconst (pc' := 178) (v := 1) X dX9_wrong_177 (by decide) rfl ?_
    refine v_goto (pc' := 182) X dX9_wrong_178 (by decide) ?_
    refine v_zreturn X R (by decide) (Nat.zero_le _) (Nat.zero_le _) dX9_wrong_182 ?_
    exact ⟨congrArg (fun q9 => some (Value.int q9)) (bP_t (c := fWrong M (tb i) 2 x y z) (Or.inl (hc_149))).symm, rfl⟩
  -- not taken 149
  · obtain ⟨hx1, hx2⟩ := nrg_not hc_149
    refine v_iload (pc' := 154) (j := 0) X dX9_wrong_152 rfl rfl ?_
    refine v_ifB_ne (pc' := 157) (tgt := 177) X dX9_wrong_154 (by decide) rfl (fun hc_154 => ?_) (fun hc_154 => ?_)
    -- taken 154
    · refine v_iconst (pc' := 178) (v := 1) X dX9_wrong_177 (by decide) rfl ?_
      refine v_goto (pc' := 182) X dX9_wrong_178 (by decide) ?_
      refine v_zreturn X R (by decide) (Nat.zero_le _) (Nat.zero_le _) dX9_wrong_182 ?_
      exact ⟨congrArg (fun q9 => some (Value.int q9)) (bP_t (c := fWrong M (tb i) 2 x y z) (Or.inr (hc_154))).symm, rfl⟩
    -- not taken 154
    · obtain ⟨hy1, hy2⟩ := nrg_not hc_154
      refine v_iload_n (pc' := 158) (i := 2) (j := 4) X dX9_wrong_157 rfl rfl rfl ?_
      refine v_bipush (pc' := 160) (v := 7) X dX9_wrong_158 (by decide) rfl ?_
      refine v_icmp_eq (pc' := 163) (tgt := 169) X dX9_wrong_160 (by decide) rfl (fun hc_160 => absurd hc_160 (by decide)) (fun _ => ?_)
      refine v_iload_n (pc' := 164) (i := 2) (j := 4) X dX9_wrong_163 rfl rfl rfl ?_
      refine v_bipush (pc' := 166) (v := 12) X dX9_wrong_164 (by decide) rfl ?_
      refine v_icmp_ne (pc' := 169) (tgt := 181) X dX9_wrong_166 (by decide) rfl (fun _ => ?_) (fun hc_166 => absurd hc_166 (by decide))
      refine v_iconst (pc' := 182) (v := 0) X dX9_wrong_181 (by decide) rfl ?_
      refine v_zreturn X R (by decide) (Nat.zero_le _) (Nat.zero_le _) dX9_wrong_182 ?_
      exact ⟨congrArg (fun q9 => some (Value.int q9)) (bP_f (c := fWrong M (tb i) 2 x y z) (fun y9 => y9.elim (fun y9 => absurd y9 hc_149) (fun y9 => absurd y9 hc_154))).symm, rfl⟩
set_option maxHeartbeats 4000000 in
set_option maxRecDepth 100000 in
theorem c_X9_wrong_3 {l : Launch} {D : va_G} {Y : Nat → ClassId} {zz : Nat → Nat} {n : Nat} {ad : Nat → Nat} {M : vM} {i : Nat} (hi : i < n) {x y z : Int32} : Ct l D Y zz yX9_wrong cX9_wrong 8 (some FieldType.boolean) 1 21 [.ref (ad (0)), .ref (ad (tb i)), .int 3, .int x, .int y, .int z] (wM Y n ad M) 0 0 (fun r w => r = some (.int (bP (fWrong M (tb i) 3 x y z))) ∧ w = wM Y n ad M) := by
  refine v_entry (by decide +kernel) (Nat.le_of_ble_eq_true rfl) ?_
  intro K X R hR hnm hl hD hY hz
  subst hl hD hY hz
  refine v_sub (lv' := [(0, .ref (ad (0))), (1, .ref (ad (tb i))), (2, .int 3), (3, .int x), (4, .int y), (5, .int z)]) [0, 1, 2, 3, 4, 5] rfl ?_
  refine v_iload_n (pc' := 1) (i := 3) (j := 3) X dX9_wrong_0 rfl rfl rfl ?_
  refine v_callS (pc' := 4) X (st := []) (c_X9_noRegister (n := n) (ad := ad) (M := M) (k := x)) k_X9_noRegister w_ml_X9_101 w_st_X9_noRegister (by rw [hR]; exact ⟨Nat.le_of_ble_eq_true rfl, Nat.le_of_ble_eq_true rfl⟩) rfl rfl (Nat.le_of_ble_eq_true rfl) dX9_wrong_1 rfl (⟨Nat.zero_le _, Nat.zero_le _⟩) ?_
  rintro _ _ ⟨rfl, rfl⟩
  refine v_istore (pc' := 6) (lv' := [(6, .int (bP (nrg x))), (0, .ref (ad (0))), (1, .ref (ad (tb i))), (2, .int 3), (3, .int x), (4, .int y), (5, .int z)]) X dX9_wrong_4 (by decide) rfl rfl ?_
  refine v_iload (pc' := 8) (j := 5) X dX9_wrong_6 rfl rfl ?_
  refine v_callS (pc' := 11) X (st := []) (c_X9_noRegister (n := n) (ad := ad) (M := M) (k := y)) k_X9_noRegister w_ml_X9_101 w_st_X9_noRegister (by rw [hR]; exact ⟨Nat.le_of_ble_eq_true rfl, Nat.le_of_ble_eq_true rfl⟩) rfl rfl (Nat.le_of_ble_eq_true rfl) dX9_wrong_8 rfl (⟨Nat.zero_le _, Nat.zero_le _⟩) ?_
  rintro _ _ ⟨rfl, rfl⟩
  refine v_istore (pc' := 13) (lv' := [(7, .int (bP (nrg y))), (6, .int (bP (nrg x))), (0, .ref (ad (0))), (1, .ref (ad (tb i))), (2, .int 3), (3, .int x), (4, .int y), (5, .int z)]) X dX9_wrong_11 (by decide) rfl rfl ?_
  refine v_iload_n (pc' := 14) (i := 2) (j := 4) X dX9_wrong_13 rfl rfl rfl ?_
  refine v_tableIn (off := 169) (tgt := 183) X dX9_wrong_14 (by decide) (by decide) (by decide) (by decide) ?_
  refine v_iload (pc' := 185) (j := 1) X dX9_wrong_183 rfl rfl ?_
  refine v_ifB_ne (pc' := 188) (tgt := 227) X dX9_wrong_185 (by decide) rfl (fun hc_185 => ?_) (fun hc_185 => ?_)
  -- taken 185
  · refine v_iconst (pc' := 228) (v := 1) X dX9_wrong_227 (by decide) rfl ?_
    refine v_goto (pc' := 232) X dX9_wrong_228 (by decide) ?_
    refine v_zreturn X R (by decide) (Nat.zero_le _) (Nat.zero_le _) dX9_wrong_232 ?_
    exact ⟨congrArg (fun q9 => some (Value.int q9)) (bP_t (c := fWrong M (tb i) 3 x y z) (Or.inl (hc_185))).symm, rfl⟩
  -- not taken 185
  · obtain ⟨hx1, hx2⟩ := nrg_not hc_185
    refine v_iload (pc' := 190) (j := 0) X dX9_wrong_188 rfl rfl ?_
    refine v_ifB_ne (pc' := 193) (tgt := 227) X dX9_wrong_190 (by decide) rfl (fun hc_190 => ?_) (fun hc_190 => ?_)
    -- taken 190
    · refine v_iconst (pc' := 228) (v := 1) X dX9_wrong_227 (by decide) rfl ?_
      refine v_goto (pc' := 232) X dX9_wrong_228 (by decide) ?_
      refine v_zreturn X R (by decide) (Nat.zero_le _) (Nat.zero_le _) dX9_wrong_232 ?_
      exact ⟨congrArg (fun q9 => some (Value.int q9)) (bP_t (c := fWrong M (tb i) 3 x y z) (Or.inr (Or.inl (hc_190)))).symm, rfl⟩
    -- not taken 190
    · obtain ⟨hy1, hy2⟩ := nrg_not hc_190
      refine v_iload (pc' := 195) (j := 7) X dX9_wrong_193 rfl rfl ?_
      refine v_callS (pc' := 198) X (st := []) (c_X9_noRegister (n := n) (ad := ad) (M := M) (k := z)) k_X9_noRegister w_ml_X9_101 w_st_X9_noRegister (by rw [hR]; exact ⟨Nat.le_of_ble_eq_true rfl, Nat.le_of_ble_eq_true rfl⟩) rfl rfl (Nat.le_of_ble_eq_true rfl) dX9_wrong_195 rfl (⟨Nat.zero_le _, Nat.zero_le _⟩) ?_
      rintro _ _ ⟨rfl, rfl⟩
      refine v_ifB_ne (pc' := 201) (tgt := 227) X dX9_wrong_198 (by decide) rfl (fun hc_198 => ?_) (fun hc_198 => ?_)
      -- taken 198
      · refine v_iconst (pc' := 228) (v := 1) X dX9_wrong_227 (by decide) rfl ?_
        refine v_goto (pc' := 232) X dX9_wrong_228 (by decide) ?_
        refine v_zreturn X R (by decide) (Nat.zero_le _) (Nat.zero_le _) dX9_wrong_232 ?_
        exact ⟨congrArg (fun q9 => some (Value.int q9)) (bP_t (c := fWrong M (tb i) 3 x y z) (Or.inr (Or.inr (Or.inl (hc_198))))).symm, rfl⟩
      -- not taken 198
      · obtain ⟨hz1, hz2⟩ := nrg_not hc_198
        refine v_aload_n (pc' := 202) (i := 1) (j := 3) X dX9_wrong_201 rfl rfl rfl ?_
        refine fg_X9_105 (pc' := 205) X hi dX9_wrong_202 rfl ?_
        refine v_iload (pc' := 207) (j := 6) X dX9_wrong_205 rfl rfl ?_
        refine ag_T8 (pc' := 208) X hi (v := M.2 (tb i + 8) (nn y)) (nn y) hy1 (by omega) rfl dX9_wrong_207 rfl ?_
        refine v_callS (pc' := 211) X (st := []) (c_X9_isInt (n := n) (ad := ad) (M := M) (v := M.2 (tb i + 8) (nn y))) k_X9_isInt w_ml_X9_108 w_st_X9_isInt (by rw [hR]; exact ⟨Nat.le_of_ble_eq_true rfl, Nat.le_of_ble_eq_true rfl⟩) rfl rfl (Nat.le_of_ble_eq_true rfl) dX9_wrong_208 rfl (⟨Nat.zero_le _, Nat.zero_le _⟩) ?_
        rintro _ _ ⟨rfl, rfl⟩
        refine v_ifB_eq (pc' := 214) (tgt := 227) X dX9_wrong_211 (by decide) rfl (fun hc_211 => ?_) (fun hc_211 => ?_)
        -- taken 211
        · refine v_iconst (pc' := 228) (v := 1) X dX9_wrong_227 (by decide) rfl ?_
          refine v_goto (pc' := 232) X dX9_wrong_228 (by decide) ?_
          refine v_zreturn X R (by decide) (Nat.zero_le _) (Nat.zero_le _) dX9_wrong_232 ?_
          exact ⟨congrArg (fun q9 => some (Value.int q9)) (bP_t (c := fWrong M (tb i) 3 x y z) (Or.inr (Or.inr (Or.inr (Or.inl (hc_211)))))).symm, rfl⟩
        -- not taken 211
        · refine v_aload_n (pc' := 215) (i := 1) (j := 3) X dX9_wrong_214 rfl rfl rfl ?_
          refine fg_X9_105 (pc' := 218) X hi dX9_wrong_215 rfl ?_
          refine v_iload (pc' := 220) (j := 7) X dX9_wrong_218 rfl rfl ?_
          refine ag_T8 (pc' := 221) X hi (v := M.2 (tb i + 8) (nn z)) (nn z) hz1 (by omega) rfl dX9_wrong_220 rfl ?_
          refine v_callS (pc' := 224) X (st := []) (c_X9_isInt (n := n) (ad := ad) (M := M) (v := M.2 (tb i + 8) (nn z))) k_X9_isInt w_ml_X9_108 w_st_X9_isInt (by rw [hR]; exact ⟨Nat.le_of_ble_eq_true rfl, Nat.le_of_ble_eq_true rfl⟩) rfl rfl (Nat.le_of_ble_eq_true rfl) dX9_wrong_221 rfl (⟨Nat.zero_le _, Nat.zero_le _⟩) ?_
          rintro _ _ ⟨rfl, rfl⟩
          refine v_ifB_ne (pc' := 227) (tgt := 231) X dX9_wrong_224 (by decide) rfl (fun hc_224 => ?_) (fun hc_224 => ?_)
          -- taken 224
          · refine v_iconst (pc' := 232) (v := 0) X dX9_wrong_231 (by decide) rfl ?_
            refine v_zreturn X R (by decide) (Nat.zero_le _) (Nat.zero_le _) dX9_wrong_232 ?_
            exact ⟨congrArg (fun q9 => some (Value.int q9)) (bP_f (c := fWrong M (tb i) 3 x y z) (fun y9 => y9.elim (fun y9 => absurd y9 hc_185) (fun y9 => y9.elim (fun y9 => absurd y9 hc_190) (fun y9 => y9.elim (fun y9 => absurd y9 hc_198) (fun y9 => y9.elim (fun y9 => absurd hc_211 y9) (fun y9 => absurd hc_224 y9)))))).symm, rfl⟩
          -- not taken 224
          · refine v_iconst (pc' := 228) (v := 1) X dX9_wrong_227 (by decide) rfl ?_
            refine v_goto (pc' := 232) X dX9_wrong_228 (by decide) ?_
            refine v_zreturn X R (by decide) (Nat.zero_le _) (Nat.zero_le _) dX9_wrong_232 ?_
            exact ⟨congrArg (fun q9 => some (Value.int q9)) (bP_t (c := fWrong M (tb i) 3 x y z) (Or.inr (Or.inr (Or.inr (Or.inr (hc_224)))))).symm, rfl⟩
set_option maxHeartbeats 4000000 in
set_option maxRecDepth 100000 in
theorem c_X9_wrong_4 {l : Launch} {D : va_G} {Y : Nat → ClassId} {zz : Nat → Nat} {n : Nat} {ad : Nat → Nat} {M : vM} {i : Nat} (hi : i < n) {x y z : Int32} : Ct l D Y zz yX9_wrong cX9_wrong 8 (some FieldType.boolean) 1 21 [.ref (ad (0)), .ref (ad (tb i)), .int 4, .int x, .int y, .int z] (wM Y n ad M) 0 0 (fun r w => r = some (.int (bP (fWrong M (tb i) 4 x y z))) ∧ w = wM Y n ad M) := by
  refine v_entry (by decide +kernel) (Nat.le_of_ble_eq_true rfl) ?_
  intro K X R hR hnm hl hD hY hz
  subst hl hD hY hz
  refine v_sub (lv' := [(0, .ref (ad (0))), (1, .ref (ad (tb i))), (2, .int 4), (3, .int x), (4, .int y), (5, .int z)]) [0, 1, 2, 3, 4, 5] rfl ?_
  refine v_iload_n (pc' := 1) (i := 3) (j := 3) X dX9_wrong_0 rfl rfl rfl ?_
  refine v_callS (pc' := 4) X (st := []) (c_X9_noRegister (n := n) (ad := ad) (M := M) (k := x)) k_X9_noRegister w_ml_X9_101 w_st_X9_noRegister (by rw [hR]; exact ⟨Nat.le_of_ble_eq_true rfl, Nat.le_of_ble_eq_true rfl⟩) rfl rfl (Nat.le_of_ble_eq_true rfl) dX9_wrong_1 rfl (⟨Nat.zero_le _, Nat.zero_le _⟩) ?_
  rintro _ _ ⟨rfl, rfl⟩
  refine v_istore (pc' := 6) (lv' := [(6, .int (bP (nrg x))), (0, .ref (ad (0))), (1, .ref (ad (tb i))), (2, .int 4), (3, .int x), (4, .int y), (5, .int z)]) X dX9_wrong_4 (by decide) rfl rfl ?_
  refine v_iload (pc' := 8) (j := 5) X dX9_wrong_6 rfl rfl ?_
  refine v_callS (pc' := 11) X (st := []) (c_X9_noRegister (n := n) (ad := ad) (M := M) (k := y)) k_X9_noRegister w_ml_X9_101 w_st_X9_noRegister (by rw [hR]; exact ⟨Nat.le_of_ble_eq_true rfl, Nat.le_of_ble_eq_true rfl⟩) rfl rfl (Nat.le_of_ble_eq_true rfl) dX9_wrong_8 rfl (⟨Nat.zero_le _, Nat.zero_le _⟩) ?_
  rintro _ _ ⟨rfl, rfl⟩
  refine v_istore (pc' := 13) (lv' := [(7, .int (bP (nrg y))), (6, .int (bP (nrg x))), (0, .ref (ad (0))), (1, .ref (ad (tb i))), (2, .int 4), (3, .int x), (4, .int y), (5, .int z)]) X dX9_wrong_11 (by decide) rfl rfl ?_
  refine v_iload_n (pc' := 14) (i := 2) (j := 4) X dX9_wrong_13 rfl rfl rfl ?_
  refine v_tableIn (off := 169) (tgt := 183) X dX9_wrong_14 (by decide) (by decide) (by decide) (by decide) ?_
  refine v_iload (pc' := 185) (j := 1) X dX9_wrong_183 rfl rfl ?_
  refine v_ifB_ne (pc' := 188) (tgt := 227) X dX9_wrong_185 (by decide) rfl (fun hc_185 => ?_) (fun hc_185 => ?_)
  -- taken 185
  · refine v_iconst (pc' := 228) (v := 1) X dX9_wrong_227 (by decide) rfl ?_
    refine v_goto (pc' := 232) X dX9_wrong_228 (by decide) ?_
    refine v_zreturn X R (by decide) (Nat.zero_le _) (Nat.zero_le _) dX9_wrong_232 ?_
    exact ⟨congrArg (fun q9 => some (Value.int q9)) (bP_t (c := fWrong M (tb i) 4 x y z) (Or.inl (hc_185))).symm, rfl⟩
  -- not taken 185
  · obtain ⟨hx1, hx2⟩ := nrg_not hc_185
    refine v_iload (pc' := 190) (j := 0) X dX9_wrong_188 rfl rfl ?_
    refine v_ifB_ne (pc' := 193) (tgt := 227) X dX9_wrong_190 (by decide) rfl (fun hc_190 => ?_) (fun hc_190 => ?_)
    -- taken 190
    · refine v_iconst (pc' := 228) (v := 1) X dX9_wrong_227 (by decide) rfl ?_
      refine v_goto (pc' := 232) X dX9_wrong_228 (by decide) ?_
      refine v_zreturn X R (by decide) (Nat.zero_le _) (Nat.zero_le _) dX9_wrong_232 ?_
      exact ⟨congrArg (fun q9 => some (Value.int q9)) (bP_t (c := fWrong M (tb i) 4 x y z) (Or.inr (Or.inl (hc_190)))).symm, rfl⟩
    -- not taken 190
    · obtain ⟨hy1, hy2⟩ := nrg_not hc_190
      refine v_iload (pc' := 195) (j := 7) X dX9_wrong_193 rfl rfl ?_
      refine v_callS (pc' := 198) X (st := []) (c_X9_noRegister (n := n) (ad := ad) (M := M) (k := z)) k_X9_noRegister w_ml_X9_101 w_st_X9_noRegister (by rw [hR]; exact ⟨Nat.le_of_ble_eq_true rfl, Nat.le_of_ble_eq_true rfl⟩) rfl rfl (Nat.le_of_ble_eq_true rfl) dX9_wrong_195 rfl (⟨Nat.zero_le _, Nat.zero_le _⟩) ?_
      rintro _ _ ⟨rfl, rfl⟩
      refine v_ifB_ne (pc' := 201) (tgt := 227) X dX9_wrong_198 (by decide) rfl (fun hc_198 => ?_) (fun hc_198 => ?_)
      -- taken 198
      · refine v_iconst (pc' := 228) (v := 1) X dX9_wrong_227 (by decide) rfl ?_
        refine v_goto (pc' := 232) X dX9_wrong_228 (by decide) ?_
        refine v_zreturn X R (by decide) (Nat.zero_le _) (Nat.zero_le _) dX9_wrong_232 ?_
        exact ⟨congrArg (fun q9 => some (Value.int q9)) (bP_t (c := fWrong M (tb i) 4 x y z) (Or.inr (Or.inr (Or.inl (hc_198))))).symm, rfl⟩
      -- not taken 198
      · obtain ⟨hz1, hz2⟩ := nrg_not hc_198
        refine v_aload_n (pc' := 202) (i := 1) (j := 3) X dX9_wrong_201 rfl rfl rfl ?_
        refine fg_X9_105 (pc' := 205) X hi dX9_wrong_202 rfl ?_
        refine v_iload (pc' := 207) (j := 6) X dX9_wrong_205 rfl rfl ?_
        refine ag_T8 (pc' := 208) X hi (v := M.2 (tb i + 8) (nn y)) (nn y) hy1 (by omega) rfl dX9_wrong_207 rfl ?_
        refine v_callS (pc' := 211) X (st := []) (c_X9_isInt (n := n) (ad := ad) (M := M) (v := M.2 (tb i + 8) (nn y))) k_X9_isInt w_ml_X9_108 w_st_X9_isInt (by rw [hR]; exact ⟨Nat.le_of_ble_eq_true rfl, Nat.le_of_ble_eq_true rfl⟩) rfl rfl (Nat.le_of_ble_eq_true rfl) dX9_wrong_208 rfl (⟨Nat.zero_le _, Nat.zero_le _⟩) ?_
        rintro _ _ ⟨rfl, rfl⟩
        refine v_ifB_eq (pc' := 214) (tgt := 227) X dX9_wrong_211 (by decide) rfl (fun hc_211 => ?_) (fun hc_211 => ?_)
        -- taken 211
        · refine v_iconst (pc' := 228) (v := 1) X dX9_wrong_227 (by decide) rfl ?_
          refine v_goto (pc' := 232) X dX9_wrong_228 (by decide) ?_
          refine v_zreturn X R (by decide) (Nat.zero_le _) (Nat.zero_le _) dX9_wrong_232 ?_
          exact ⟨congrArg (fun q9 => some (Value.int q9)) (bP_t (c := fWrong M (tb i) 4 x y z) (Or.inr (Or.inr (Or.inr (Or.inl (hc_211)))))).symm, rfl⟩
        -- not taken 211
        · refine v_aload_n (pc' := 215) (i := 1) (j := 3) X dX9_wrong_214 rfl rfl rfl ?_
          refine fg_X9_105 (pc' := 218) X hi dX9_wrong_215 rfl ?_
          refine v_iload (pc' := 220) (j := 7) X dX9_wrong_218 rfl rfl ?_
          refine ag_T8 (pc' := 221) X hi (v := M.2 (tb i + 8) (nn z)) (nn z) hz1 (by omega) rfl dX9_wrong_220 rfl ?_
          refine v_callS (pc' := 224) X (st := []) (c_X9_isInt (n := n) (ad := ad) (M := M) (v := M.2 (tb i + 8) (nn z))) k_X9_isInt w_ml_X9_108 w_st_X9_isInt (by rw [hR]; exact ⟨Nat.le_of_ble_eq_true rfl, Nat.le_of_ble_eq_true rfl⟩) rfl rfl (Nat.le_of_ble_eq_true rfl) dX9_wrong_221 rfl (⟨Nat.zero_le _, Nat.zero_le _⟩) ?_
          rintro _ _ ⟨rfl, rfl⟩
          refine v_ifB_ne (pc' := 227) (tgt := 231) X dX9_wrong_224 (by decide) rfl (fun hc_224 => ?_) (fun hc_224 => ?_)
          -- taken 224
          · refine v_iconst (pc' := 232) (v := 0) X dX9_wrong_231 (by decide) rfl ?_
            refine v_zreturn X R (by decide) (Nat.zero_le _) (Nat.zero_le _) dX9_wrong_232 ?_
            exact ⟨congrArg (fun q9 => some (Value.int q9)) (bP_f (c := fWrong M (tb i) 4 x y z) (fun y9 => y9.elim (fun y9 => absurd y9 hc_185) (fun y9 => y9.elim (fun y9 => absurd y9 hc_190) (fun y9 => y9.elim (fun y9 => absurd y9 hc_198) (fun y9 => y9.elim (fun y9 => absurd hc_211 y9) (fun y9 => absurd hc_224 y9)))))).symm, rfl⟩
          -- not taken 224
          · refine v_iconst (pc' := 228) (v := 1) X dX9_wrong_227 (by decide) rfl ?_
            refine v_goto (pc' := 232) X dX9_wrong_228 (by decide) ?_
            refine v_zreturn X R (by decide) (Nat.zero_le _) (Nat.zero_le _) dX9_wrong_232 ?_
            exact ⟨congrArg (fun q9 => some (Value.int q9)) (bP_t (c := fWrong M (tb i) 4 x y z) (Or.inr (Or.inr (Or.inr (Or.inr (hc_224)))))).symm, rfl⟩
set_option maxHeartbeats 4000000 in
set_option maxRecDepth 100000 in
theorem c_X9_wrong_5 {l : Launch} {D : va_G} {Y : Nat → ClassId} {zz : Nat → Nat} {n : Nat} {ad : Nat → Nat} {M : vM} {i : Nat} (hi : i < n) {x y z : Int32} : Ct l D Y zz yX9_wrong cX9_wrong 8 (some FieldType.boolean) 1 21 [.ref (ad (0)), .ref (ad (tb i)), .int 5, .int x, .int y, .int z] (wM Y n ad M) 0 0 (fun r w => r = some (.int (bP (fWrong M (tb i) 5 x y z))) ∧ w = wM Y n ad M) := by
  refine v_entry (by decide +kernel) (Nat.le_of_ble_eq_true rfl) ?_
  intro K X R hR hnm hl hD hY hz
  subst hl hD hY hz
  refine v_sub (lv' := [(0, .ref (ad (0))), (1, .ref (ad (tb i))), (2, .int 5), (3, .int x), (4, .int y), (5, .int z)]) [0, 1, 2, 3, 4, 5] rfl ?_
  refine v_iload_n (pc' := 1) (i := 3) (j := 3) X dX9_wrong_0 rfl rfl rfl ?_
  refine v_callS (pc' := 4) X (st := []) (c_X9_noRegister (n := n) (ad := ad) (M := M) (k := x)) k_X9_noRegister w_ml_X9_101 w_st_X9_noRegister (by rw [hR]; exact ⟨Nat.le_of_ble_eq_true rfl, Nat.le_of_ble_eq_true rfl⟩) rfl rfl (Nat.le_of_ble_eq_true rfl) dX9_wrong_1 rfl (⟨Nat.zero_le _, Nat.zero_le _⟩) ?_
  rintro _ _ ⟨rfl, rfl⟩
  refine v_istore (pc' := 6) (lv' := [(6, .int (bP (nrg x))), (0, .ref (ad (0))), (1, .ref (ad (tb i))), (2, .int 5), (3, .int x), (4, .int y), (5, .int z)]) X dX9_wrong_4 (by decide) rfl rfl ?_
  refine v_iload (pc' := 8) (j := 5) X dX9_wrong_6 rfl rfl ?_
  refine v_callS (pc' := 11) X (st := []) (c_X9_noRegister (n := n) (ad := ad) (M := M) (k := y)) k_X9_noRegister w_ml_X9_101 w_st_X9_noRegister (by rw [hR]; exact ⟨Nat.le_of_ble_eq_true rfl, Nat.le_of_ble_eq_true rfl⟩) rfl rfl (Nat.le_of_ble_eq_true rfl) dX9_wrong_8 rfl (⟨Nat.zero_le _, Nat.zero_le _⟩) ?_
  rintro _ _ ⟨rfl, rfl⟩
  refine v_istore (pc' := 13) (lv' := [(7, .int (bP (nrg y))), (6, .int (bP (nrg x))), (0, .ref (ad (0))), (1, .ref (ad (tb i))), (2, .int 5), (3, .int x), (4, .int y), (5, .int z)]) X dX9_wrong_11 (by decide) rfl rfl ?_
  refine v_iload_n (pc' := 14) (i := 2) (j := 4) X dX9_wrong_13 rfl rfl rfl ?_
  refine v_tableIn (off := 169) (tgt := 183) X dX9_wrong_14 (by decide) (by decide) (by decide) (by decide) ?_
  refine v_iload (pc' := 185) (j := 1) X dX9_wrong_183 rfl rfl ?_
  refine v_ifB_ne (pc' := 188) (tgt := 227) X dX9_wrong_185 (by decide) rfl (fun hc_185 => ?_) (fun hc_185 => ?_)
  -- taken 185
  · refine v_iconst (pc' := 228) (v := 1) X dX9_wrong_227 (by decide) rfl ?_
    refine v_goto (pc' := 232) X dX9_wrong_228 (by decide) ?_
    refine v_zreturn X R (by decide) (Nat.zero_le _) (Nat.zero_le _) dX9_wrong_232 ?_
    exact ⟨congrArg (fun q9 => some (Value.int q9)) (bP_t (c := fWrong M (tb i) 5 x y z) (Or.inl (hc_185))).symm, rfl⟩
  -- not taken 185
  · obtain ⟨hx1, hx2⟩ := nrg_not hc_185
    refine v_iload (pc' := 190) (j := 0) X dX9_wrong_188 rfl rfl ?_
    refine v_ifB_ne (pc' := 193) (tgt := 227) X dX9_wrong_190 (by decide) rfl (fun hc_190 => ?_) (fun hc_190 => ?_)
    -- taken 190
    · refine v_iconst (pc' := 228) (v := 1) X dX9_wrong_227 (by decide) rfl ?_
      refine v_goto (pc' := 232) X dX9_wrong_228 (by decide) ?_
      refine v_zreturn X R (by decide) (Nat.zero_le _) (Nat.zero_le _) dX9_wrong_232 ?_
      exact ⟨congrArg (fun q9 => some (Value.int q9)) (bP_t (c := fWrong M (tb i) 5 x y z) (Or.inr (Or.inl (hc_190)))).symm, rfl⟩
    -- not taken 190
    · obtain ⟨hy1, hy2⟩ := nrg_not hc_190
      refine v_iload (pc' := 195) (j := 7) X dX9_wrong_193 rfl rfl ?_
      refine v_callS (pc' := 198) X (st := []) (c_X9_noRegister (n := n) (ad := ad) (M := M) (k := z)) k_X9_noRegister w_ml_X9_101 w_st_X9_noRegister (by rw [hR]; exact ⟨Nat.le_of_ble_eq_true rfl, Nat.le_of_ble_eq_true rfl⟩) rfl rfl (Nat.le_of_ble_eq_true rfl) dX9_wrong_195 rfl (⟨Nat.zero_le _, Nat.zero_le _⟩) ?_
      rintro _ _ ⟨rfl, rfl⟩
      refine v_ifB_ne (pc' := 201) (tgt := 227) X dX9_wrong_198 (by decide) rfl (fun hc_198 => ?_) (fun hc_198 => ?_)
      -- taken 198
      · refine v_iconst (pc' := 228) (v := 1) X dX9_wrong_227 (by decide) rfl ?_
        refine v_goto (pc' := 232) X dX9_wrong_228 (by decide) ?_
        refine v_zreturn X R (by decide) (Nat.zero_le _) (Nat.zero_le _) dX9_wrong_232 ?_
        exact ⟨congrArg (fun q9 => some (Value.int q9)) (bP_t (c := fWrong M (tb i) 5 x y z) (Or.inr (Or.inr (Or.inl (hc_198))))).symm, rfl⟩
      -- not taken 198
      · obtain ⟨hz1, hz2⟩ := nrg_not hc_198
        refine v_aload_n (pc' := 202) (i := 1) (j := 3) X dX9_wrong_201 rfl rfl rfl ?_
        refine fg_X9_105 (pc' := 205) X hi dX9_wrong_202 rfl ?_
        refine v_iload (pc' := 207) (j := 6) X dX9_wrong_205 rfl rfl ?_
        refine ag_T8 (pc' := 208) X hi (v := M.2 (tb i + 8) (nn y)) (nn y) hy1 (by omega) rfl dX9_wrong_207 rfl ?_
        refine v_callS (pc' := 211) X (st := []) (c_X9_isInt (n := n) (ad := ad) (M := M) (v := M.2 (tb i + 8) (nn y))) k_X9_isInt w_ml_X9_108 w_st_X9_isInt (by rw [hR]; exact ⟨Nat.le_of_ble_eq_true rfl, Nat.le_of_ble_eq_true rfl⟩) rfl rfl (Nat.le_of_ble_eq_true rfl) dX9_wrong_208 rfl (⟨Nat.zero_le _, Nat.zero_le _⟩) ?_
        rintro _ _ ⟨rfl, rfl⟩
        refine v_ifB_eq (pc' := 214) (tgt := 227) X dX9_wrong_211 (by decide) rfl (fun hc_211 => ?_) (fun hc_211 => ?_)
        -- taken 211
        · refine v_iconst (pc' := 228) (v := 1) X dX9_wrong_227 (by decide) rfl ?_
          refine v_goto (pc' := 232) X dX9_wrong_228 (by decide) ?_
          refine v_zreturn X R (by decide) (Nat.zero_le _) (Nat.zero_le _) dX9_wrong_232 ?_
          exact ⟨congrArg (fun q9 => some (Value.int q9)) (bP_t (c := fWrong M (tb i) 5 x y z) (Or.inr (Or.inr (Or.inr (Or.inl (hc_211)))))).symm, rfl⟩
        -- not taken 211
        · refine v_aload_n (pc' := 215) (i := 1) (j := 3) X dX9_wrong_214 rfl rfl rfl ?_
          refine fg_X9_105 (pc' := 218) X hi dX9_wrong_215 rfl ?_
          refine v_iload (pc' := 220) (j := 7) X dX9_wrong_218 rfl rfl ?_
          refine ag_T8 (pc' := 221) X hi (v := M.2 (tb i + 8) (nn z)) (nn z) hz1 (by omega) rfl dX9_wrong_220 rfl ?_
          refine v_callS (pc' := 224) X (st := []) (c_X9_isInt (n := n) (ad := ad) (M := M) (v := M.2 (tb i + 8) (nn z))) k_X9_isInt w_ml_X9_108 w_st_X9_isInt (by rw [hR]; exact ⟨Nat.le_of_ble_eq_true rfl, Nat.le_of_ble_eq_true rfl⟩) rfl rfl (Nat.le_of_ble_eq_true rfl) dX9_wrong_221 rfl (⟨Nat.zero_le _, Nat.zero_le _⟩) ?_
          rintro _ _ ⟨rfl, rfl⟩
          refine v_ifB_ne (pc' := 227) (tgt := 231) X dX9_wrong_224 (by decide) rfl (fun hc_224 => ?_) (fun hc_224 => ?_)
          -- taken 224
          · refine v_iconst (pc' := 232) (v := 0) X dX9_wrong_231 (by decide) rfl ?_
            refine v_zreturn X R (by decide) (Nat.zero_le _) (Nat.zero_le _) dX9_wrong_232 ?_
            exact ⟨congrArg (fun q9 => some (Value.int q9)) (bP_f (c := fWrong M (tb i) 5 x y z) (fun y9 => y9.elim (fun y9 => absurd y9 hc_185) (fun y9 => y9.elim (fun y9 => absurd y9 hc_190) (fun y9 => y9.elim (fun y9 => absurd y9 hc_198) (fun y9 => y9.elim (fun y9 => absurd hc_211 y9) (fun y9 => absurd hc_224 y9)))))).symm, rfl⟩
          -- not taken 224
          · refine v_iconst (pc' := 228) (v := 1) X dX9_wrong_227 (by decide) rfl ?_
            refine v_goto (pc' := 232) X dX9_wrong_228 (by decide) ?_
            refine v_zreturn X R (by decide) (Nat.zero_le _) (Nat.zero_le _) dX9_wrong_232 ?_
            exact ⟨congrArg (fun q9 => some (Value.int q9)) (bP_t (c := fWrong M (tb i) 5 x y z) (Or.inr (Or.inr (Or.inr (Or.inr (hc_224)))))).symm, rfl⟩
set_option maxHeartbeats 4000000 in
set_option maxRecDepth 100000 in
theorem c_X9_wrong_6 {l : Launch} {D : va_G} {Y : Nat → ClassId} {zz : Nat → Nat} {n : Nat} {ad : Nat → Nat} {M : vM} {i : Nat} (hi : i < n) {x y z : Int32} : Ct l D Y zz yX9_wrong cX9_wrong 8 (some FieldType.boolean) 1 21 [.ref (ad (0)), .ref (ad (tb i)), .int 6, .int x, .int y, .int z] (wM Y n ad M) 0 0 (fun r w => r = some (.int (bP (fWrong M (tb i) 6 x y z))) ∧ w = wM Y n ad M) := by
  refine v_entry (by decide +kernel) (Nat.le_of_ble_eq_true rfl) ?_
  intro K X R hR hnm hl hD hY hz
  subst hl hD hY hz
  refine v_sub (lv' := [(0, .ref (ad (0))), (1, .ref (ad (tb i))), (2, .int 6), (3, .int x), (4, .int y), (5, .int z)]) [0, 1, 2, 3, 4, 5] rfl ?_
  refine v_iload_n (pc' := 1) (i := 3) (j := 3) X dX9_wrong_0 rfl rfl rfl ?_
  refine v_callS (pc' := 4) X (st := []) (c_X9_noRegister (n := n) (ad := ad) (M := M) (k := x)) k_X9_noRegister w_ml_X9_101 w_st_X9_noRegister (by rw [hR]; exact ⟨Nat.le_of_ble_eq_true rfl, Nat.le_of_ble_eq_true rfl⟩) rfl rfl (Nat.le_of_ble_eq_true rfl) dX9_wrong_1 rfl (⟨Nat.zero_le _, Nat.zero_le _⟩) ?_
  rintro _ _ ⟨rfl, rfl⟩
  refine v_istore (pc' := 6) (lv' := [(6, .int (bP (nrg x))), (0, .ref (ad (0))), (1, .ref (ad (tb i))), (2, .int 6), (3, .int x), (4, .int y), (5, .int z)]) X dX9_wrong_4 (by decide) rfl rfl ?_
  refine v_iload (pc' := 8) (j := 5) X dX9_wrong_6 rfl rfl ?_
  refine v_callS (pc' := 11) X (st := []) (c_X9_noRegister (n := n) (ad := ad) (M := M) (k := y)) k_X9_noRegister w_ml_X9_101 w_st_X9_noRegister (by rw [hR]; exact ⟨Nat.le_of_ble_eq_true rfl, Nat.le_of_ble_eq_true rfl⟩) rfl rfl (Nat.le_of_ble_eq_true rfl) dX9_wrong_8 rfl (⟨Nat.zero_le _, Nat.zero_le _⟩) ?_
  rintro _ _ ⟨rfl, rfl⟩
  refine v_istore (pc' := 13) (lv' := [(7, .int (bP (nrg y))), (6, .int (bP (nrg x))), (0, .ref (ad (0))), (1, .ref (ad (tb i))), (2, .int 6), (3, .int x), (4, .int y), (5, .int z)]) X dX9_wrong_11 (by decide) rfl rfl ?_
  refine v_iload_n (pc' := 14) (i := 2) (j := 4) X dX9_wrong_13 rfl rfl rfl ?_
  refine v_tableIn (off := 169) (tgt := 183) X dX9_wrong_14 (by decide) (by decide) (by decide) (by decide) ?_
  refine v_iload (pc' := 185) (j := 1) X dX9_wrong_183 rfl rfl ?_
  refine v_ifB_ne (pc' := 188) (tgt := 227) X dX9_wrong_185 (by decide) rfl (fun hc_185 => ?_) (fun hc_185 => ?_)
  -- taken 185
  · refine v_iconst (pc' := 228) (v := 1) X dX9_wrong_227 (by decide) rfl ?_
    refine v_goto (pc' := 232) X dX9_wrong_228 (by decide) ?_
    refine v_zreturn X R (by decide) (Nat.zero_le _) (Nat.zero_le _) dX9_wrong_232 ?_
    exact ⟨congrArg (fun q9 => some (Value.int q9)) (bP_t (c := fWrong M (tb i) 6 x y z) (Or.inl (hc_185))).symm, rfl⟩
  -- not taken 185
  · obtain ⟨hx1, hx2⟩ := nrg_not hc_185
    refine v_iload (pc' := 190) (j := 0) X dX9_wrong_188 rfl rfl ?_
    refine v_ifB_ne (pc' := 193) (tgt := 227) X dX9_wrong_190 (by decide) rfl (fun hc_190 => ?_) (fun hc_190 => ?_)
    -- taken 190
    · refine v_iconst (pc' := 228) (v := 1) X dX9_wrong_227 (by decide) rfl ?_
      refine v_goto (pc' := 232) X dX9_wrong_228 (by decide) ?_
      refine v_zreturn X R (by decide) (Nat.zero_le _) (Nat.zero_le _) dX9_wrong_232 ?_
      exact ⟨congrArg (fun q9 => some (Value.int q9)) (bP_t (c := fWrong M (tb i) 6 x y z) (Or.inr (Or.inl (hc_190)))).symm, rfl⟩
    -- not taken 190
    · obtain ⟨hy1, hy2⟩ := nrg_not hc_190
      refine v_iload (pc' := 195) (j := 7) X dX9_wrong_193 rfl rfl ?_
      refine v_callS (pc' := 198) X (st := []) (c_X9_noRegister (n := n) (ad := ad) (M := M) (k := z)) k_X9_noRegister w_ml_X9_101 w_st_X9_noRegister (by rw [hR]; exact ⟨Nat.le_of_ble_eq_true rfl, Nat.le_of_ble_eq_true rfl⟩) rfl rfl (Nat.le_of_ble_eq_true rfl) dX9_wrong_195 rfl (⟨Nat.zero_le _, Nat.zero_le _⟩) ?_
      rintro _ _ ⟨rfl, rfl⟩
      refine v_ifB_ne (pc' := 201) (tgt := 227) X dX9_wrong_198 (by decide) rfl (fun hc_198 => ?_) (fun hc_198 => ?_)
      -- taken 198
      · refine v_iconst (pc' := 228) (v := 1) X dX9_wrong_227 (by decide) rfl ?_
        refine v_goto (pc' := 232) X dX9_wrong_228 (by decide) ?_
        refine v_zreturn X R (by decide) (Nat.zero_le _) (Nat.zero_le _) dX9_wrong_232 ?_
        exact ⟨congrArg (fun q9 => some (Value.int q9)) (bP_t (c := fWrong M (tb i) 6 x y z) (Or.inr (Or.inr (Or.inl (hc_198))))).symm, rfl⟩
      -- not taken 198
      · obtain ⟨hz1, hz2⟩ := nrg_not hc_198
        refine v_aload_n (pc' := 202) (i := 1) (j := 3) X dX9_wrong_201 rfl rfl rfl ?_
        refine fg_X9_105 (pc' := 205) X hi dX9_wrong_202 rfl ?_
        refine v_iload (pc' := 207) (j := 6) X dX9_wrong_205 rfl rfl ?_
        refine ag_T8 (pc' := 208) X hi (v := M.2 (tb i + 8) (nn y)) (nn y) hy1 (by omega) rfl dX9_wrong_207 rfl ?_
        refine v_callS (pc' := 211) X (st := []) (c_X9_isInt (n := n) (ad := ad) (M := M) (v := M.2 (tb i + 8) (nn y))) k_X9_isInt w_ml_X9_108 w_st_X9_isInt (by rw [hR]; exact ⟨Nat.le_of_ble_eq_true rfl, Nat.le_of_ble_eq_true rfl⟩) rfl rfl (Nat.le_of_ble_eq_true rfl) dX9_wrong_208 rfl (⟨Nat.zero_le _, Nat.zero_le _⟩) ?_
        rintro _ _ ⟨rfl, rfl⟩
        refine v_ifB_eq (pc' := 214) (tgt := 227) X dX9_wrong_211 (by decide) rfl (fun hc_211 => ?_) (fun hc_211 => ?_)
        -- taken 211
        · refine v_iconst (pc' := 228) (v := 1) X dX9_wrong_227 (by decide) rfl ?_
          refine v_goto (pc' := 232) X dX9_wrong_228 (by decide) ?_
          refine v_zreturn X R (by decide) (Nat.zero_le _) (Nat.zero_le _) dX9_wrong_232 ?_
          exact ⟨congrArg (fun q9 => some (Value.int q9)) (bP_t (c := fWrong M (tb i) 6 x y z) (Or.inr (Or.inr (Or.inr (Or.inl (hc_211)))))).symm, rfl⟩
        -- not taken 211
        · refine v_aload_n (pc' := 215) (i := 1) (j := 3) X dX9_wrong_214 rfl rfl rfl ?_
          refine fg_X9_105 (pc' := 218) X hi dX9_wrong_215 rfl ?_
          refine v_iload (pc' := 220) (j := 7) X dX9_wrong_218 rfl rfl ?_
          refine ag_T8 (pc' := 221) X hi (v := M.2 (tb i + 8) (nn z)) (nn z) hz1 (by omega) rfl dX9_wrong_220 rfl ?_
          refine v_callS (pc' := 224) X (st := []) (c_X9_isInt (n := n) (ad := ad) (M := M) (v := M.2 (tb i + 8) (nn z))) k_X9_isInt w_ml_X9_108 w_st_X9_isInt (by rw [hR]; exact ⟨Nat.le_of_ble_eq_true rfl, Nat.le_of_ble_eq_true rfl⟩) rfl rfl (Nat.le_of_ble_eq_true rfl) dX9_wrong_221 rfl (⟨Nat.zero_le _, Nat.zero_le _⟩) ?_
          rintro _ _ ⟨rfl, rfl⟩
          refine v_ifB_ne (pc' := 227) (tgt := 231) X dX9_wrong_224 (by decide) rfl (fun hc_224 => ?_) (fun hc_224 => ?_)
          -- taken 224
          · refine v_iconst (pc' := 232) (v := 0) X dX9_wrong_231 (by decide) rfl ?_
            refine v_zreturn X R (by decide) (Nat.zero_le _) (Nat.zero_le _) dX9_wrong_232 ?_
            exact ⟨congrArg (fun q9 => some (Value.int q9)) (bP_f (c := fWrong M (tb i) 6 x y z) (fun y9 => y9.elim (fun y9 => absurd y9 hc_185) (fun y9 => y9.elim (fun y9 => absurd y9 hc_190) (fun y9 => y9.elim (fun y9 => absurd y9 hc_198) (fun y9 => y9.elim (fun y9 => absurd hc_211 y9) (fun y9 => absurd hc_224 y9)))))).symm, rfl⟩
          -- not taken 224
          · refine v_iconst (pc' := 228) (v := 1) X dX9_wrong_227 (by decide) rfl ?_
            refine v_goto (pc' := 232) X dX9_wrong_228 (by decide) ?_
            refine v_zreturn X R (by decide) (Nat.zero_le _) (Nat.zero_le _) dX9_wrong_232 ?_
            exact ⟨congrArg (fun q9 => some (Value.int q9)) (bP_t (c := fWrong M (tb i) 6 x y z) (Or.inr (Or.inr (Or.inr (Or.inr (hc_224)))))).symm, rfl⟩
set_option maxHeartbeats 4000000 in
set_option maxRecDepth 100000 in
theorem c_X9_wrong_7 {l : Launch} {D : va_G} {Y : Nat → ClassId} {zz : Nat → Nat} {n : Nat} {ad : Nat → Nat} {M : vM} {i : Nat} (hi : i < n) {x y z : Int32} : Ct l D Y zz yX9_wrong cX9_wrong 8 (some FieldType.boolean) 1 20 [.ref (ad (0)), .ref (ad (tb i)), .int 7, .int x, .int y, .int z] (wM Y n ad M) 0 0 (fun r w => r = some (.int (bP (fWrong M (tb i) 7 x y z))) ∧ w = wM Y n ad M) := by
  refine v_entry (by decide +kernel) (Nat.le_of_ble_eq_true rfl) ?_
  intro K X R hR hnm hl hD hY hz
  subst hl hD hY hz
  refine v_sub (lv' := [(0, .ref (ad (0))), (1, .ref (ad (tb i))), (2, .int 7), (3, .int x), (4, .int y), (5, .int z)]) [0, 1, 2, 3, 4, 5] rfl ?_
  refine v_iload_n (pc' := 1) (i := 3) (j := 3) X dX9_wrong_0 rfl rfl rfl ?_
  refine v_callS (pc' := 4) X (st := []) (c_X9_noRegister (n := n) (ad := ad) (M := M) (k := x)) k_X9_noRegister w_ml_X9_101 w_st_X9_noRegister (by rw [hR]; exact ⟨Nat.le_of_ble_eq_true rfl, Nat.le_of_ble_eq_true rfl⟩) rfl rfl (Nat.le_of_ble_eq_true rfl) dX9_wrong_1 rfl (⟨Nat.zero_le _, Nat.zero_le _⟩) ?_
  rintro _ _ ⟨rfl, rfl⟩
  refine v_istore (pc' := 6) (lv' := [(6, .int (bP (nrg x))), (0, .ref (ad (0))), (1, .ref (ad (tb i))), (2, .int 7), (3, .int x), (4, .int y), (5, .int z)]) X dX9_wrong_4 (by decide) rfl rfl ?_
  refine v_iload (pc' := 8) (j := 5) X dX9_wrong_6 rfl rfl ?_
  refine v_callS (pc' := 11) X (st := []) (c_X9_noRegister (n := n) (ad := ad) (M := M) (k := y)) k_X9_noRegister w_ml_X9_101 w_st_X9_noRegister (by rw [hR]; exact ⟨Nat.le_of_ble_eq_true rfl, Nat.le_of_ble_eq_true rfl⟩) rfl rfl (Nat.le_of_ble_eq_true rfl) dX9_wrong_8 rfl (⟨Nat.zero_le _, Nat.zero_le _⟩) ?_
  rintro _ _ ⟨rfl, rfl⟩
  refine v_istore (pc' := 13) (lv' := [(7, .int (bP (nrg y))), (6, .int (bP (nrg x))), (0, .ref (ad (0))), (1, .ref (ad (tb i))), (2, .int 7), (3, .int x), (4, .int y), (5, .int z)]) X dX9_wrong_11 (by decide) rfl rfl ?_
  refine v_iload_n (pc' := 14) (i := 2) (j := 4) X dX9_wrong_13 rfl rfl rfl ?_
  refine v_tableIn (off := 133) (tgt := 147) X dX9_wrong_14 (by decide) (by decide) (by decide) (by decide) ?_
  refine v_iload (pc' := 149) (j := 1) X dX9_wrong_147 rfl rfl ?_
  refine v_ifB_ne (pc' := 152) (tgt := 177) X dX9_wrong_149 (by decide) rfl (fun hc_149 => ?_) (fun hc_149 => ?_)
  -- taken 149
  · refine v_iconst (pc' := 178) (v := 1) X dX9_wrong_177 (by decide) rfl ?_
    refine v_goto (pc' := 182) X dX9_wrong_178 (by decide) ?_
    refine v_zreturn X R (by decide) (Nat.zero_le _) (Nat.zero_le _) dX9_wrong_182 ?_
    exact ⟨congrArg (fun q9 => some (Value.int q9)) (bP_t (c := fWrong M (tb i) 7 x y z) (Or.inl (hc_149))).symm, rfl⟩
  -- not taken 149
  · obtain ⟨hx1, hx2⟩ := nrg_not hc_149
    refine v_iload (pc' := 154) (j := 0) X dX9_wrong_152 rfl rfl ?_
    refine v_ifB_ne (pc' := 157) (tgt := 177) X dX9_wrong_154 (by decide) rfl (fun hc_154 => ?_) (fun hc_154 => ?_)
    -- taken 154
    · refine v_iconst (pc' := 178) (v := 1) X dX9_wrong_177 (by decide) rfl ?_
      refine v_goto (pc' := 182) X dX9_wrong_178 (by decide) ?_
      refine v_zreturn X R (by decide) (Nat.zero_le _) (Nat.zero_le _) dX9_wrong_182 ?_
      exact ⟨congrArg (fun q9 => some (Value.int q9)) (bP_t (c := fWrong M (tb i) 7 x y z) (Or.inr (Or.inl (hc_154)))).symm, rfl⟩
    -- not taken 154
    · obtain ⟨hy1, hy2⟩ := nrg_not hc_154
      refine v_iload_n (pc' := 158) (i := 2) (j := 4) X dX9_wrong_157 rfl rfl rfl ?_
      refine v_bipush (pc' := 160) (v := 7) X dX9_wrong_158 (by decide) rfl ?_
      refine v_icmp_eq (pc' := 163) (tgt := 169) X dX9_wrong_160 (by decide) rfl (fun _ => ?_) (fun hc_160 => absurd (by decide) hc_160)
      refine v_iload (pc' := 171) (j := 7) X dX9_wrong_169 rfl rfl ?_
      refine v_callS (pc' := 174) X (st := []) (c_X9_noRegister (n := n) (ad := ad) (M := M) (k := z)) k_X9_noRegister w_ml_X9_101 w_st_X9_noRegister (by rw [hR]; exact ⟨Nat.le_of_ble_eq_true rfl, Nat.le_of_ble_eq_true rfl⟩) rfl rfl (Nat.le_of_ble_eq_true rfl) dX9_wrong_171 rfl (⟨Nat.zero_le _, Nat.zero_le _⟩) ?_
      rintro _ _ ⟨rfl, rfl⟩
      refine v_ifB_eq (pc' := 177) (tgt := 181) X dX9_wrong_174 (by decide) rfl (fun hc_174 => ?_) (fun hc_174 => ?_)
      -- taken 174
      · obtain ⟨hz1, hz2⟩ := nrg_not hc_174
        refine v_iconst (pc' := 182) (v := 0) X dX9_wrong_181 (by decide) rfl ?_
        refine v_zreturn X R (by decide) (Nat.zero_le _) (Nat.zero_le _) dX9_wrong_182 ?_
        exact ⟨congrArg (fun q9 => some (Value.int q9)) (bP_f (c := fWrong M (tb i) 7 x y z) (fun y9 => y9.elim (fun y9 => absurd y9 hc_149) (fun y9 => y9.elim (fun y9 => absurd y9 hc_154) (fun y9 => absurd y9 hc_174)))).symm, rfl⟩
      -- not taken 174
      · refine v_iconst (pc' := 178) (v := 1) X dX9_wrong_177 (by decide) rfl ?_
        refine v_goto (pc' := 182) X dX9_wrong_178 (by decide) ?_
        refine v_zreturn X R (by decide) (Nat.zero_le _) (Nat.zero_le _) dX9_wrong_182 ?_
        exact ⟨congrArg (fun q9 => some (Value.int q9)) (bP_t (c := fWrong M (tb i) 7 x y z) (Or.inr (Or.inr (hc_174)))).symm, rfl⟩
set_option maxHeartbeats 4000000 in
set_option maxRecDepth 100000 in
theorem c_X9_wrong_8 {l : Launch} {D : va_G} {Y : Nat → ClassId} {zz : Nat → Nat} {n : Nat} {ad : Nat → Nat} {M : vM} {i : Nat} (hi : i < n) {x y z : Int32} : Ct l D Y zz yX9_wrong cX9_wrong 8 (some FieldType.boolean) 1 20 [.ref (ad (0)), .ref (ad (tb i)), .int 8, .int x, .int y, .int z] (wM Y n ad M) 0 0 (fun r w => r = some (.int (bP (fWrong M (tb i) 8 x y z))) ∧ w = wM Y n ad M) := by
  refine v_entry (by decide +kernel) (Nat.le_of_ble_eq_true rfl) ?_
  intro K X R hR hnm hl hD hY hz
  subst hl hD hY hz
  refine v_sub (lv' := [(0, .ref (ad (0))), (1, .ref (ad (tb i))), (2, .int 8), (3, .int x), (4, .int y), (5, .int z)]) [0, 1, 2, 3, 4, 5] rfl ?_
  refine v_iload_n (pc' := 1) (i := 3) (j := 3) X dX9_wrong_0 rfl rfl rfl ?_
  refine v_callS (pc' := 4) X (st := []) (c_X9_noRegister (n := n) (ad := ad) (M := M) (k := x)) k_X9_noRegister w_ml_X9_101 w_st_X9_noRegister (by rw [hR]; exact ⟨Nat.le_of_ble_eq_true rfl, Nat.le_of_ble_eq_true rfl⟩) rfl rfl (Nat.le_of_ble_eq_true rfl) dX9_wrong_1 rfl (⟨Nat.zero_le _, Nat.zero_le _⟩) ?_
  rintro _ _ ⟨rfl, rfl⟩
  refine v_istore (pc' := 6) (lv' := [(6, .int (bP (nrg x))), (0, .ref (ad (0))), (1, .ref (ad (tb i))), (2, .int 8), (3, .int x), (4, .int y), (5, .int z)]) X dX9_wrong_4 (by decide) rfl rfl ?_
  refine v_iload (pc' := 8) (j := 5) X dX9_wrong_6 rfl rfl ?_
  refine v_callS (pc' := 11) X (st := []) (c_X9_noRegister (n := n) (ad := ad) (M := M) (k := y)) k_X9_noRegister w_ml_X9_101 w_st_X9_noRegister (by rw [hR]; exact ⟨Nat.le_of_ble_eq_true rfl, Nat.le_of_ble_eq_true rfl⟩) rfl rfl (Nat.le_of_ble_eq_true rfl) dX9_wrong_8 rfl (⟨Nat.zero_le _, Nat.zero_le _⟩) ?_
  rintro _ _ ⟨rfl, rfl⟩
  refine v_istore (pc' := 13) (lv' := [(7, .int (bP (nrg y))), (6, .int (bP (nrg x))), (0, .ref (ad (0))), (1, .ref (ad (tb i))), (2, .int 8), (3, .int x), (4, .int y), (5, .int z)]) X dX9_wrong_11 (by decide) rfl rfl ?_
  refine v_iload_n (pc' := 14) (i := 2) (j := 4) X dX9_wrong_13 rfl rfl rfl ?_
  refine v_tableIn (off := 405) (tgt := 419) X dX9_wrong_14 (by decide) (by decide) (by decide) (by decide) ?_
  refine v_iconst (pc' := 420) (v := 0) X dX9_wrong_419 (by decide) rfl ?_
  refine v_zreturn X R (by decide) (Nat.zero_le _) (Nat.zero_le _) dX9_wrong_420 ?_
  exact ⟨congrArg (fun q9 => some (Value.int q9)) (bP_f (c := fWrong M (tb i) 8 x y z) id).symm, rfl⟩
set_option maxHeartbeats 4000000 in
set_option maxRecDepth 100000 in
theorem c_X9_wrong_9 {l : Launch} {D : va_G} {Y : Nat → ClassId} {zz : Nat → Nat} {n : Nat} {ad : Nat → Nat} {M : vM} {i : Nat} (hi : i < n) {x y z : Int32} : Ct l D Y zz yX9_wrong cX9_wrong 8 (some FieldType.boolean) 1 20 [.ref (ad (0)), .ref (ad (tb i)), .int 9, .int x, .int y, .int z] (wM Y n ad M) 0 0 (fun r w => r = some (.int (bP (fWrong M (tb i) 9 x y z))) ∧ w = wM Y n ad M) := by
  refine v_entry (by decide +kernel) (Nat.le_of_ble_eq_true rfl) ?_
  intro K X R hR hnm hl hD hY hz
  subst hl hD hY hz
  refine v_sub (lv' := [(0, .ref (ad (0))), (1, .ref (ad (tb i))), (2, .int 9), (3, .int x), (4, .int y), (5, .int z)]) [0, 1, 2, 3, 4, 5] rfl ?_
  refine v_iload_n (pc' := 1) (i := 3) (j := 3) X dX9_wrong_0 rfl rfl rfl ?_
  refine v_callS (pc' := 4) X (st := []) (c_X9_noRegister (n := n) (ad := ad) (M := M) (k := x)) k_X9_noRegister w_ml_X9_101 w_st_X9_noRegister (by rw [hR]; exact ⟨Nat.le_of_ble_eq_true rfl, Nat.le_of_ble_eq_true rfl⟩) rfl rfl (Nat.le_of_ble_eq_true rfl) dX9_wrong_1 rfl (⟨Nat.zero_le _, Nat.zero_le _⟩) ?_
  rintro _ _ ⟨rfl, rfl⟩
  refine v_istore (pc' := 6) (lv' := [(6, .int (bP (nrg x))), (0, .ref (ad (0))), (1, .ref (ad (tb i))), (2, .int 9), (3, .int x), (4, .int y), (5, .int z)]) X dX9_wrong_4 (by decide) rfl rfl ?_
  refine v_iload (pc' := 8) (j := 5) X dX9_wrong_6 rfl rfl ?_
  refine v_callS (pc' := 11) X (st := []) (c_X9_noRegister (n := n) (ad := ad) (M := M) (k := y)) k_X9_noRegister w_ml_X9_101 w_st_X9_noRegister (by rw [hR]; exact ⟨Nat.le_of_ble_eq_true rfl, Nat.le_of_ble_eq_true rfl⟩) rfl rfl (Nat.le_of_ble_eq_true rfl) dX9_wrong_8 rfl (⟨Nat.zero_le _, Nat.zero_le _⟩) ?_
  rintro _ _ ⟨rfl, rfl⟩
  refine v_istore (pc' := 13) (lv' := [(7, .int (bP (nrg y))), (6, .int (bP (nrg x))), (0, .ref (ad (0))), (1, .ref (ad (tb i))), (2, .int 9), (3, .int x), (4, .int y), (5, .int z)]) X dX9_wrong_11 (by decide) rfl rfl ?_
  refine v_iload_n (pc' := 14) (i := 2) (j := 4) X dX9_wrong_13 rfl rfl rfl ?_
  refine v_tableIn (off := 219) (tgt := 233) X dX9_wrong_14 (by decide) (by decide) (by decide) (by decide) ?_
  refine v_iload (pc' := 235) (j := 1) X dX9_wrong_233 rfl rfl ?_
  refine v_zreturn X R (bP_nar _) (Nat.zero_le _) (Nat.zero_le _) dX9_wrong_235 ?_
  exact ⟨rfl, rfl⟩
set_option maxHeartbeats 4000000 in
set_option maxRecDepth 100000 in
theorem c_X9_wrong_10 {l : Launch} {D : va_G} {Y : Nat → ClassId} {zz : Nat → Nat} {n : Nat} {ad : Nat → Nat} {M : vM} {i : Nat} (hi : i < n) {x y z : Int32} : Ct l D Y zz yX9_wrong cX9_wrong 8 (some FieldType.boolean) 1 20 [.ref (ad (0)), .ref (ad (tb i)), .int 10, .int x, .int y, .int z] (wM Y n ad M) 0 0 (fun r w => r = some (.int (bP (fWrong M (tb i) 10 x y z))) ∧ w = wM Y n ad M) := by
  refine v_entry (by decide +kernel) (Nat.le_of_ble_eq_true rfl) ?_
  intro K X R hR hnm hl hD hY hz
  subst hl hD hY hz
  refine v_sub (lv' := [(0, .ref (ad (0))), (1, .ref (ad (tb i))), (2, .int 10), (3, .int x), (4, .int y), (5, .int z)]) [0, 1, 2, 3, 4, 5] rfl ?_
  refine v_iload_n (pc' := 1) (i := 3) (j := 3) X dX9_wrong_0 rfl rfl rfl ?_
  refine v_callS (pc' := 4) X (st := []) (c_X9_noRegister (n := n) (ad := ad) (M := M) (k := x)) k_X9_noRegister w_ml_X9_101 w_st_X9_noRegister (by rw [hR]; exact ⟨Nat.le_of_ble_eq_true rfl, Nat.le_of_ble_eq_true rfl⟩) rfl rfl (Nat.le_of_ble_eq_true rfl) dX9_wrong_1 rfl (⟨Nat.zero_le _, Nat.zero_le _⟩) ?_
  rintro _ _ ⟨rfl, rfl⟩
  refine v_istore (pc' := 6) (lv' := [(6, .int (bP (nrg x))), (0, .ref (ad (0))), (1, .ref (ad (tb i))), (2, .int 10), (3, .int x), (4, .int y), (5, .int z)]) X dX9_wrong_4 (by decide) rfl rfl ?_
  refine v_iload (pc' := 8) (j := 5) X dX9_wrong_6 rfl rfl ?_
  refine v_callS (pc' := 11) X (st := []) (c_X9_noRegister (n := n) (ad := ad) (M := M) (k := y)) k_X9_noRegister w_ml_X9_101 w_st_X9_noRegister (by rw [hR]; exact ⟨Nat.le_of_ble_eq_true rfl, Nat.le_of_ble_eq_true rfl⟩) rfl rfl (Nat.le_of_ble_eq_true rfl) dX9_wrong_8 rfl (⟨Nat.zero_le _, Nat.zero_le _⟩) ?_
  rintro _ _ ⟨rfl, rfl⟩
  refine v_istore (pc' := 13) (lv' := [(7, .int (bP (nrg y))), (6, .int (bP (nrg x))), (0, .ref (ad (0))), (1, .ref (ad (tb i))), (2, .int 10), (3, .int x), (4, .int y), (5, .int z)]) X dX9_wrong_11 (by decide) rfl rfl ?_
  refine v_iload_n (pc' := 14) (i := 2) (j := 4) X dX9_wrong_13 rfl rfl rfl ?_
  refine v_tableIn (off := 405) (tgt := 419) X dX9_wrong_14 (by decide) (by decide) (by decide) (by decide) ?_
  refine v_iconst (pc' := 420) (v := 0) X dX9_wrong_419 (by decide) rfl ?_
  refine v_zreturn X R (by decide) (Nat.zero_le _) (Nat.zero_le _) dX9_wrong_420 ?_
  exact ⟨congrArg (fun q9 => some (Value.int q9)) (bP_f (c := fWrong M (tb i) 10 x y z) id).symm, rfl⟩
set_option maxHeartbeats 4000000 in
set_option maxRecDepth 100000 in
theorem c_X9_wrong_11 {l : Launch} {D : va_G} {Y : Nat → ClassId} {zz : Nat → Nat} {n : Nat} {ad : Nat → Nat} {M : vM} {i : Nat} (hi : i < n) {x y z : Int32} : Ct l D Y zz yX9_wrong cX9_wrong 8 (some FieldType.boolean) 1 20 [.ref (ad (0)), .ref (ad (tb i)), .int 11, .int x, .int y, .int z] (wM Y n ad M) 0 0 (fun r w => r = some (.int (bP (fWrong M (tb i) 11 x y z))) ∧ w = wM Y n ad M) := by
  refine v_entry (by decide +kernel) (Nat.le_of_ble_eq_true rfl) ?_
  intro K X R hR hnm hl hD hY hz
  subst hl hD hY hz
  refine v_sub (lv' := [(0, .ref (ad (0))), (1, .ref (ad (tb i))), (2, .int 11), (3, .int x), (4, .int y), (5, .int z)]) [0, 1, 2, 3, 4, 5] rfl ?_
  refine v_iload_n (pc' := 1) (i := 3) (j := 3) X dX9_wrong_0 rfl rfl rfl ?_
  refine v_callS (pc' := 4) X (st := []) (c_X9_noRegister (n := n) (ad := ad) (M := M) (k := x)) k_X9_noRegister w_ml_X9_101 w_st_X9_noRegister (by rw [hR]; exact ⟨Nat.le_of_ble_eq_true rfl, Nat.le_of_ble_eq_true rfl⟩) rfl rfl (Nat.le_of_ble_eq_true rfl) dX9_wrong_1 rfl (⟨Nat.zero_le _, Nat.zero_le _⟩) ?_
  rintro _ _ ⟨rfl, rfl⟩
  refine v_istore (pc' := 6) (lv' := [(6, .int (bP (nrg x))), (0, .ref (ad (0))), (1, .ref (ad (tb i))), (2, .int 11), (3, .int x), (4, .int y), (5, .int z)]) X dX9_wrong_4 (by decide) rfl rfl ?_
  refine v_iload (pc' := 8) (j := 5) X dX9_wrong_6 rfl rfl ?_
  refine v_callS (pc' := 11) X (st := []) (c_X9_noRegister (n := n) (ad := ad) (M := M) (k := y)) k_X9_noRegister w_ml_X9_101 w_st_X9_noRegister (by rw [hR]; exact ⟨Nat.le_of_ble_eq_true rfl, Nat.le_of_ble_eq_true rfl⟩) rfl rfl (Nat.le_of_ble_eq_true rfl) dX9_wrong_8 rfl (⟨Nat.zero_le _, Nat.zero_le _⟩) ?_
  rintro _ _ ⟨rfl, rfl⟩
  refine v_istore (pc' := 13) (lv' := [(7, .int (bP (nrg y))), (6, .int (bP (nrg x))), (0, .ref (ad (0))), (1, .ref (ad (tb i))), (2, .int 11), (3, .int x), (4, .int y), (5, .int z)]) X dX9_wrong_11 (by decide) rfl rfl ?_
  refine v_iload_n (pc' := 14) (i := 2) (j := 4) X dX9_wrong_13 rfl rfl rfl ?_
  refine v_tableIn (off := 405) (tgt := 419) X dX9_wrong_14 (by decide) (by decide) (by decide) (by decide) ?_
  refine v_iconst (pc' := 420) (v := 0) X dX9_wrong_419 (by decide) rfl ?_
  refine v_zreturn X R (by decide) (Nat.zero_le _) (Nat.zero_le _) dX9_wrong_420 ?_
  exact ⟨congrArg (fun q9 => some (Value.int q9)) (bP_f (c := fWrong M (tb i) 11 x y z) id).symm, rfl⟩
set_option maxHeartbeats 4000000 in
set_option maxRecDepth 100000 in
theorem c_X9_wrong_12 {l : Launch} {D : va_G} {Y : Nat → ClassId} {zz : Nat → Nat} {n : Nat} {ad : Nat → Nat} {M : vM} {i : Nat} (hi : i < n) {x y z : Int32} : Ct l D Y zz yX9_wrong cX9_wrong 8 (some FieldType.boolean) 1 20 [.ref (ad (0)), .ref (ad (tb i)), .int 12, .int x, .int y, .int z] (wM Y n ad M) 0 0 (fun r w => r = some (.int (bP (fWrong M (tb i) 12 x y z))) ∧ w = wM Y n ad M) := by
  refine v_entry (by decide +kernel) (Nat.le_of_ble_eq_true rfl) ?_
  intro K X R hR hnm hl hD hY hz
  subst hl hD hY hz
  refine v_sub (lv' := [(0, .ref (ad (0))), (1, .ref (ad (tb i))), (2, .int 12), (3, .int x), (4, .int y), (5, .int z)]) [0, 1, 2, 3, 4, 5] rfl ?_
  refine v_iload_n (pc' := 1) (i := 3) (j := 3) X dX9_wrong_0 rfl rfl rfl ?_
  refine v_callS (pc' := 4) X (st := []) (c_X9_noRegister (n := n) (ad := ad) (M := M) (k := x)) k_X9_noRegister w_ml_X9_101 w_st_X9_noRegister (by rw [hR]; exact ⟨Nat.le_of_ble_eq_true rfl, Nat.le_of_ble_eq_true rfl⟩) rfl rfl (Nat.le_of_ble_eq_true rfl) dX9_wrong_1 rfl (⟨Nat.zero_le _, Nat.zero_le _⟩) ?_
  rintro _ _ ⟨rfl, rfl⟩
  refine v_istore (pc' := 6) (lv' := [(6, .int (bP (nrg x))), (0, .ref (ad (0))), (1, .ref (ad (tb i))), (2, .int 12), (3, .int x), (4, .int y), (5, .int z)]) X dX9_wrong_4 (by decide) rfl rfl ?_
  refine v_iload (pc' := 8) (j := 5) X dX9_wrong_6 rfl rfl ?_
  refine v_callS (pc' := 11) X (st := []) (c_X9_noRegister (n := n) (ad := ad) (M := M) (k := y)) k_X9_noRegister w_ml_X9_101 w_st_X9_noRegister (by rw [hR]; exact ⟨Nat.le_of_ble_eq_true rfl, Nat.le_of_ble_eq_true rfl⟩) rfl rfl (Nat.le_of_ble_eq_true rfl) dX9_wrong_8 rfl (⟨Nat.zero_le _, Nat.zero_le _⟩) ?_
  rintro _ _ ⟨rfl, rfl⟩
  refine v_istore (pc' := 13) (lv' := [(7, .int (bP (nrg y))), (6, .int (bP (nrg x))), (0, .ref (ad (0))), (1, .ref (ad (tb i))), (2, .int 12), (3, .int x), (4, .int y), (5, .int z)]) X dX9_wrong_11 (by decide) rfl rfl ?_
  refine v_iload_n (pc' := 14) (i := 2) (j := 4) X dX9_wrong_13 rfl rfl rfl ?_
  refine v_tableIn (off := 133) (tgt := 147) X dX9_wrong_14 (by decide) (by decide) (by decide) (by decide) ?_
  refine v_iload (pc' := 149) (j := 1) X dX9_wrong_147 rfl rfl ?_
  refine v_ifB_ne (pc' := 152) (tgt := 177) X dX9_wrong_149 (by decide) rfl (fun hc_149 => ?_) (fun hc_149 => ?_)
  -- taken 149
  · refine v_iconst (pc' := 178) (v := 1) X dX9_wrong_177 (by decide) rfl ?_
    refine v_goto (pc' := 182) X dX9_wrong_178 (by decide) ?_
    refine v_zreturn X R (by decide) (Nat.zero_le _) (Nat.zero_le _) dX9_wrong_182 ?_
    exact ⟨congrArg (fun q9 => some (Value.int q9)) (bP_t (c := fWrong M (tb i) 12 x y z) (Or.inl (hc_149))).symm, rfl⟩
  -- not taken 149
  · obtain ⟨hx1, hx2⟩ := nrg_not hc_149
    refine v_iload (pc' := 154) (j := 0) X dX9_wrong_152 rfl rfl ?_
    refine v_ifB_ne (pc' := 157) (tgt := 177) X dX9_wrong_154 (by decide) rfl (fun hc_154 => ?_) (fun hc_154 => ?_)
    -- taken 154
    · refine v_iconst (pc' := 178) (v := 1) X dX9_wrong_177 (by decide) rfl ?_
      refine v_goto (pc' := 182) X dX9_wrong_178 (by decide) ?_
      refine v_zreturn X R (by decide) (Nat.zero_le _) (Nat.zero_le _) dX9_wrong_182 ?_
      exact ⟨congrArg (fun q9 => some (Value.int q9)) (bP_t (c := fWrong M (tb i) 12 x y z) (Or.inr (Or.inl (hc_154)))).symm, rfl⟩
    -- not taken 154
    · obtain ⟨hy1, hy2⟩ := nrg_not hc_154
      refine v_iload_n (pc' := 158) (i := 2) (j := 4) X dX9_wrong_157 rfl rfl rfl ?_
      refine v_bipush (pc' := 160) (v := 7) X dX9_wrong_158 (by decide) rfl ?_
      refine v_icmp_eq (pc' := 163) (tgt := 169) X dX9_wrong_160 (by decide) rfl (fun hc_160 => absurd hc_160 (by decide)) (fun _ => ?_)
      refine v_iload_n (pc' := 164) (i := 2) (j := 4) X dX9_wrong_163 rfl rfl rfl ?_
      refine v_bipush (pc' := 166) (v := 12) X dX9_wrong_164 (by decide) rfl ?_
      refine v_icmp_ne (pc' := 169) (tgt := 181) X dX9_wrong_166 (by decide) rfl (fun hc_166 => absurd (by decide) hc_166) (fun _ => ?_)
      refine v_iload (pc' := 171) (j := 7) X dX9_wrong_169 rfl rfl ?_
      refine v_callS (pc' := 174) X (st := []) (c_X9_noRegister (n := n) (ad := ad) (M := M) (k := z)) k_X9_noRegister w_ml_X9_101 w_st_X9_noRegister (by rw [hR]; exact ⟨Nat.le_of_ble_eq_true rfl, Nat.le_of_ble_eq_true rfl⟩) rfl rfl (Nat.le_of_ble_eq_true rfl) dX9_wrong_171 rfl (⟨Nat.zero_le _, Nat.zero_le _⟩) ?_
      rintro _ _ ⟨rfl, rfl⟩
      refine v_ifB_eq (pc' := 177) (tgt := 181) X dX9_wrong_174 (by decide) rfl (fun hc_174 => ?_) (fun hc_174 => ?_)
      -- taken 174
      · obtain ⟨hz1, hz2⟩ := nrg_not hc_174
        refine v_iconst (pc' := 182) (v := 0) X dX9_wrong_181 (by decide) rfl ?_
        refine v_zreturn X R (by decide) (Nat.zero_le _) (Nat.zero_le _) dX9_wrong_182 ?_
        exact ⟨congrArg (fun q9 => some (Value.int q9)) (bP_f (c := fWrong M (tb i) 12 x y z) (fun y9 => y9.elim (fun y9 => absurd y9 hc_149) (fun y9 => y9.elim (fun y9 => absurd y9 hc_154) (fun y9 => absurd y9 hc_174)))).symm, rfl⟩
      -- not taken 174
      · refine v_iconst (pc' := 178) (v := 1) X dX9_wrong_177 (by decide) rfl ?_
        refine v_goto (pc' := 182) X dX9_wrong_178 (by decide) ?_
        refine v_zreturn X R (by decide) (Nat.zero_le _) (Nat.zero_le _) dX9_wrong_182 ?_
        exact ⟨congrArg (fun q9 => some (Value.int q9)) (bP_t (c := fWrong M (tb i) 12 x y z) (Or.inr (Or.inr (hc_174)))).symm, rfl⟩
set_option maxHeartbeats 4000000 in
set_option maxRecDepth 100000 in
theorem c_X9_wrong_13 {l : Launch} {D : va_G} {Y : Nat → ClassId} {zz : Nat → Nat} {n : Nat} {ad : Nat → Nat} {M : vM} {i : Nat} (hi : i < n) {x y z : Int32} : Ct l D Y zz yX9_wrong cX9_wrong 8 (some FieldType.boolean) 1 21 [.ref (ad (0)), .ref (ad (tb i)), .int 13, .int x, .int y, .int z] (wM Y n ad M) 0 0 (fun r w => r = some (.int (bP (fWrong M (tb i) 13 x y z))) ∧ w = wM Y n ad M) := by
  refine v_entry (by decide +kernel) (Nat.le_of_ble_eq_true rfl) ?_
  intro K X R hR hnm hl hD hY hz
  subst hl hD hY hz
  refine v_sub (lv' := [(0, .ref (ad (0))), (1, .ref (ad (tb i))), (2, .int 13), (3, .int x), (4, .int y), (5, .int z)]) [0, 1, 2, 3, 4, 5] rfl ?_
  refine v_iload_n (pc' := 1) (i := 3) (j := 3) X dX9_wrong_0 rfl rfl rfl ?_
  refine v_callS (pc' := 4) X (st := []) (c_X9_noRegister (n := n) (ad := ad) (M := M) (k := x)) k_X9_noRegister w_ml_X9_101 w_st_X9_noRegister (by rw [hR]; exact ⟨Nat.le_of_ble_eq_true rfl, Nat.le_of_ble_eq_true rfl⟩) rfl rfl (Nat.le_of_ble_eq_true rfl) dX9_wrong_1 rfl (⟨Nat.zero_le _, Nat.zero_le _⟩) ?_
  rintro _ _ ⟨rfl, rfl⟩
  refine v_istore (pc' := 6) (lv' := [(6, .int (bP (nrg x))), (0, .ref (ad (0))), (1, .ref (ad (tb i))), (2, .int 13), (3, .int x), (4, .int y), (5, .int z)]) X dX9_wrong_4 (by decide) rfl rfl ?_
  refine v_iload (pc' := 8) (j := 5) X dX9_wrong_6 rfl rfl ?_
  refine v_callS (pc' := 11) X (st := []) (c_X9_noRegister (n := n) (ad := ad) (M := M) (k := y)) k_X9_noRegister w_ml_X9_101 w_st_X9_noRegister (by rw [hR]; exact ⟨Nat.le_of_ble_eq_true rfl, Nat.le_of_ble_eq_true rfl⟩) rfl rfl (Nat.le_of_ble_eq_true rfl) dX9_wrong_8 rfl (⟨Nat.zero_le _, Nat.zero_le _⟩) ?_
  rintro _ _ ⟨rfl, rfl⟩
  refine v_istore (pc' := 13) (lv' := [(7, .int (bP (nrg y))), (6, .int (bP (nrg x))), (0, .ref (ad (0))), (1, .ref (ad (tb i))), (2, .int 13), (3, .int x), (4, .int y), (5, .int z)]) X dX9_wrong_11 (by decide) rfl rfl ?_
  refine v_iload_n (pc' := 14) (i := 2) (j := 4) X dX9_wrong_13 rfl rfl rfl ?_
  refine v_tableIn (off := 222) (tgt := 236) X dX9_wrong_14 (by decide) (by decide) (by decide) (by decide) ?_
  refine v_iload (pc' := 238) (j := 1) X dX9_wrong_236 rfl rfl ?_
  refine v_ifB_ne (pc' := 241) (tgt := 259) X dX9_wrong_238 (by decide) rfl (fun hc_238 => ?_) (fun hc_238 => ?_)
  -- taken 238
  · refine v_iconst (pc' := 260) (v := 1) X dX9_wrong_259 (by decide) rfl ?_
    refine v_goto (pc' := 264) X dX9_wrong_260 (by decide) ?_
    refine v_zreturn X R (by decide) (Nat.zero_le _) (Nat.zero_le _) dX9_wrong_264 ?_
    exact ⟨congrArg (fun q9 => some (Value.int q9)) (bP_t (c := fWrong M (tb i) 13 x y z) (Or.inl (hc_238))).symm, rfl⟩
  -- not taken 238
  · obtain ⟨hx1, hx2⟩ := nrg_not hc_238
    refine v_iload (pc' := 243) (j := 0) X dX9_wrong_241 rfl rfl ?_
    refine v_ifB_ne (pc' := 246) (tgt := 259) X dX9_wrong_243 (by decide) rfl (fun hc_243 => ?_) (fun hc_243 => ?_)
    -- taken 243
    · refine v_iconst (pc' := 260) (v := 1) X dX9_wrong_259 (by decide) rfl ?_
      refine v_goto (pc' := 264) X dX9_wrong_260 (by decide) ?_
      refine v_zreturn X R (by decide) (Nat.zero_le _) (Nat.zero_le _) dX9_wrong_264 ?_
      exact ⟨congrArg (fun q9 => some (Value.int q9)) (bP_t (c := fWrong M (tb i) 13 x y z) (Or.inr (Or.inl (hc_243)))).symm, rfl⟩
    -- not taken 243
    · obtain ⟨hy1, hy2⟩ := nrg_not hc_243
      refine v_aload_n (pc' := 247) (i := 1) (j := 3) X dX9_wrong_246 rfl rfl rfl ?_
      refine fg_X9_105 (pc' := 250) X hi dX9_wrong_247 rfl ?_
      refine v_iload (pc' := 252) (j := 6) X dX9_wrong_250 rfl rfl ?_
      refine ag_T8 (pc' := 253) X hi (v := M.2 (tb i + 8) (nn y)) (nn y) hy1 (by omega) rfl dX9_wrong_252 rfl ?_
      refine v_callS (pc' := 256) X (st := []) (c_X9_isPair (n := n) (ad := ad) (M := M) (v := M.2 (tb i + 8) (nn y))) k_X9_isPair w_ml_X9_112 w_st_X9_isPair (by rw [hR]; exact ⟨Nat.le_of_ble_eq_true rfl, Nat.le_of_ble_eq_true rfl⟩) rfl rfl (Nat.le_of_ble_eq_true rfl) dX9_wrong_253 rfl (⟨Nat.zero_le _, Nat.zero_le _⟩) ?_
      rintro _ _ ⟨rfl, rfl⟩
      refine v_ifB_ne (pc' := 259) (tgt := 263) X dX9_wrong_256 (by decide) rfl (fun hc_256 => ?_) (fun hc_256 => ?_)
      -- taken 256
      · refine v_iconst (pc' := 264) (v := 0) X dX9_wrong_263 (by decide) rfl ?_
        refine v_zreturn X R (by decide) (Nat.zero_le _) (Nat.zero_le _) dX9_wrong_264 ?_
        exact ⟨congrArg (fun q9 => some (Value.int q9)) (bP_f (c := fWrong M (tb i) 13 x y z) (fun y9 => y9.elim (fun y9 => absurd y9 hc_238) (fun y9 => y9.elim (fun y9 => absurd y9 hc_243) (fun y9 => absurd hc_256 y9)))).symm, rfl⟩
      -- not taken 256
      · refine v_iconst (pc' := 260) (v := 1) X dX9_wrong_259 (by decide) rfl ?_
        refine v_goto (pc' := 264) X dX9_wrong_260 (by decide) ?_
        refine v_zreturn X R (by decide) (Nat.zero_le _) (Nat.zero_le _) dX9_wrong_264 ?_
        exact ⟨congrArg (fun q9 => some (Value.int q9)) (bP_t (c := fWrong M (tb i) 13 x y z) (Or.inr (Or.inr (hc_256)))).symm, rfl⟩
set_option maxHeartbeats 4000000 in
set_option maxRecDepth 100000 in
theorem c_X9_wrong_14 {l : Launch} {D : va_G} {Y : Nat → ClassId} {zz : Nat → Nat} {n : Nat} {ad : Nat → Nat} {M : vM} {i : Nat} (hi : i < n) {x y z : Int32} : Ct l D Y zz yX9_wrong cX9_wrong 8 (some FieldType.boolean) 1 21 [.ref (ad (0)), .ref (ad (tb i)), .int 14, .int x, .int y, .int z] (wM Y n ad M) 0 0 (fun r w => r = some (.int (bP (fWrong M (tb i) 14 x y z))) ∧ w = wM Y n ad M) := by
  refine v_entry (by decide +kernel) (Nat.le_of_ble_eq_true rfl) ?_
  intro K X R hR hnm hl hD hY hz
  subst hl hD hY hz
  refine v_sub (lv' := [(0, .ref (ad (0))), (1, .ref (ad (tb i))), (2, .int 14), (3, .int x), (4, .int y), (5, .int z)]) [0, 1, 2, 3, 4, 5] rfl ?_
  refine v_iload_n (pc' := 1) (i := 3) (j := 3) X dX9_wrong_0 rfl rfl rfl ?_
  refine v_callS (pc' := 4) X (st := []) (c_X9_noRegister (n := n) (ad := ad) (M := M) (k := x)) k_X9_noRegister w_ml_X9_101 w_st_X9_noRegister (by rw [hR]; exact ⟨Nat.le_of_ble_eq_true rfl, Nat.le_of_ble_eq_true rfl⟩) rfl rfl (Nat.le_of_ble_eq_true rfl) dX9_wrong_1 rfl (⟨Nat.zero_le _, Nat.zero_le _⟩) ?_
  rintro _ _ ⟨rfl, rfl⟩
  refine v_istore (pc' := 6) (lv' := [(6, .int (bP (nrg x))), (0, .ref (ad (0))), (1, .ref (ad (tb i))), (2, .int 14), (3, .int x), (4, .int y), (5, .int z)]) X dX9_wrong_4 (by decide) rfl rfl ?_
  refine v_iload (pc' := 8) (j := 5) X dX9_wrong_6 rfl rfl ?_
  refine v_callS (pc' := 11) X (st := []) (c_X9_noRegister (n := n) (ad := ad) (M := M) (k := y)) k_X9_noRegister w_ml_X9_101 w_st_X9_noRegister (by rw [hR]; exact ⟨Nat.le_of_ble_eq_true rfl, Nat.le_of_ble_eq_true rfl⟩) rfl rfl (Nat.le_of_ble_eq_true rfl) dX9_wrong_8 rfl (⟨Nat.zero_le _, Nat.zero_le _⟩) ?_
  rintro _ _ ⟨rfl, rfl⟩
  refine v_istore (pc' := 13) (lv' := [(7, .int (bP (nrg y))), (6, .int (bP (nrg x))), (0, .ref (ad (0))), (1, .ref (ad (tb i))), (2, .int 14), (3, .int x), (4, .int y), (5, .int z)]) X dX9_wrong_11 (by decide) rfl rfl ?_
  refine v_iload_n (pc' := 14) (i := 2) (j := 4) X dX9_wrong_13 rfl rfl rfl ?_
  refine v_tableIn (off := 222) (tgt := 236) X dX9_wrong_14 (by decide) (by decide) (by decide) (by decide) ?_
  refine v_iload (pc' := 238) (j := 1) X dX9_wrong_236 rfl rfl ?_
  refine v_ifB_ne (pc' := 241) (tgt := 259) X dX9_wrong_238 (by decide) rfl (fun hc_238 => ?_) (fun hc_238 => ?_)
  -- taken 238
  · refine v_iconst (pc' := 260) (v := 1) X dX9_wrong_259 (by decide) rfl ?_
    refine v_goto (pc' := 264) X dX9_wrong_260 (by decide) ?_
    refine v_zreturn X R (by decide) (Nat.zero_le _) (Nat.zero_le _) dX9_wrong_264 ?_
    exact ⟨congrArg (fun q9 => some (Value.int q9)) (bP_t (c := fWrong M (tb i) 14 x y z) (Or.inl (hc_238))).symm, rfl⟩
  -- not taken 238
  · obtain ⟨hx1, hx2⟩ := nrg_not hc_238
    refine v_iload (pc' := 243) (j := 0) X dX9_wrong_241 rfl rfl ?_
    refine v_ifB_ne (pc' := 246) (tgt := 259) X dX9_wrong_243 (by decide) rfl (fun hc_243 => ?_) (fun hc_243 => ?_)
    -- taken 243
    · refine v_iconst (pc' := 260) (v := 1) X dX9_wrong_259 (by decide) rfl ?_
      refine v_goto (pc' := 264) X dX9_wrong_260 (by decide) ?_
      refine v_zreturn X R (by decide) (Nat.zero_le _) (Nat.zero_le _) dX9_wrong_264 ?_
      exact ⟨congrArg (fun q9 => some (Value.int q9)) (bP_t (c := fWrong M (tb i) 14 x y z) (Or.inr (Or.inl (hc_243)))).symm, rfl⟩
    -- not taken 243
    · obtain ⟨hy1, hy2⟩ := nrg_not hc_243
      refine v_aload_n (pc' := 247) (i := 1) (j := 3) X dX9_wrong_246 rfl rfl rfl ?_
      refine fg_X9_105 (pc' := 250) X hi dX9_wrong_247 rfl ?_
      refine v_iload (pc' := 252) (j := 6) X dX9_wrong_250 rfl rfl ?_
      refine ag_T8 (pc' := 253) X hi (v := M.2 (tb i + 8) (nn y)) (nn y) hy1 (by omega) rfl dX9_wrong_252 rfl ?_
      refine v_callS (pc' := 256) X (st := []) (c_X9_isPair (n := n) (ad := ad) (M := M) (v := M.2 (tb i + 8) (nn y))) k_X9_isPair w_ml_X9_112 w_st_X9_isPair (by rw [hR]; exact ⟨Nat.le_of_ble_eq_true rfl, Nat.le_of_ble_eq_true rfl⟩) rfl rfl (Nat.le_of_ble_eq_true rfl) dX9_wrong_253 rfl (⟨Nat.zero_le _, Nat.zero_le _⟩) ?_
      rintro _ _ ⟨rfl, rfl⟩
      refine v_ifB_ne (pc' := 259) (tgt := 263) X dX9_wrong_256 (by decide) rfl (fun hc_256 => ?_) (fun hc_256 => ?_)
      -- taken 256
      · refine v_iconst (pc' := 264) (v := 0) X dX9_wrong_263 (by decide) rfl ?_
        refine v_zreturn X R (by decide) (Nat.zero_le _) (Nat.zero_le _) dX9_wrong_264 ?_
        exact ⟨congrArg (fun q9 => some (Value.int q9)) (bP_f (c := fWrong M (tb i) 14 x y z) (fun y9 => y9.elim (fun y9 => absurd y9 hc_238) (fun y9 => y9.elim (fun y9 => absurd y9 hc_243) (fun y9 => absurd hc_256 y9)))).symm, rfl⟩
      -- not taken 256
      · refine v_iconst (pc' := 260) (v := 1) X dX9_wrong_259 (by decide) rfl ?_
        refine v_goto (pc' := 264) X dX9_wrong_260 (by decide) ?_
        refine v_zreturn X R (by decide) (Nat.zero_le _) (Nat.zero_le _) dX9_wrong_264 ?_
        exact ⟨congrArg (fun q9 => some (Value.int q9)) (bP_t (c := fWrong M (tb i) 14 x y z) (Or.inr (Or.inr (hc_256)))).symm, rfl⟩
set_option maxHeartbeats 4000000 in
set_option maxRecDepth 100000 in
theorem c_X9_wrong_15 {l : Launch} {D : va_G} {Y : Nat → ClassId} {zz : Nat → Nat} {n : Nat} {ad : Nat → Nat} {M : vM} {i : Nat} (hi : i < n) {x y z : Int32} : Ct l D Y zz yX9_wrong cX9_wrong 8 (some FieldType.boolean) 1 20 [.ref (ad (0)), .ref (ad (tb i)), .int 15, .int x, .int y, .int z] (wM Y n ad M) 0 0 (fun r w => r = some (.int (bP (fWrong M (tb i) 15 x y z))) ∧ w = wM Y n ad M) := by
  refine v_entry (by decide +kernel) (Nat.le_of_ble_eq_true rfl) ?_
  intro K X R hR hnm hl hD hY hz
  subst hl hD hY hz
  refine v_sub (lv' := [(0, .ref (ad (0))), (1, .ref (ad (tb i))), (2, .int 15), (3, .int x), (4, .int y), (5, .int z)]) [0, 1, 2, 3, 4, 5] rfl ?_
  refine v_iload_n (pc' := 1) (i := 3) (j := 3) X dX9_wrong_0 rfl rfl rfl ?_
  refine v_callS (pc' := 4) X (st := []) (c_X9_noRegister (n := n) (ad := ad) (M := M) (k := x)) k_X9_noRegister w_ml_X9_101 w_st_X9_noRegister (by rw [hR]; exact ⟨Nat.le_of_ble_eq_true rfl, Nat.le_of_ble_eq_true rfl⟩) rfl rfl (Nat.le_of_ble_eq_true rfl) dX9_wrong_1 rfl (⟨Nat.zero_le _, Nat.zero_le _⟩) ?_
  rintro _ _ ⟨rfl, rfl⟩
  refine v_istore (pc' := 6) (lv' := [(6, .int (bP (nrg x))), (0, .ref (ad (0))), (1, .ref (ad (tb i))), (2, .int 15), (3, .int x), (4, .int y), (5, .int z)]) X dX9_wrong_4 (by decide) rfl rfl ?_
  refine v_iload (pc' := 8) (j := 5) X dX9_wrong_6 rfl rfl ?_
  refine v_callS (pc' := 11) X (st := []) (c_X9_noRegister (n := n) (ad := ad) (M := M) (k := y)) k_X9_noRegister w_ml_X9_101 w_st_X9_noRegister (by rw [hR]; exact ⟨Nat.le_of_ble_eq_true rfl, Nat.le_of_ble_eq_true rfl⟩) rfl rfl (Nat.le_of_ble_eq_true rfl) dX9_wrong_8 rfl (⟨Nat.zero_le _, Nat.zero_le _⟩) ?_
  rintro _ _ ⟨rfl, rfl⟩
  refine v_istore (pc' := 13) (lv' := [(7, .int (bP (nrg y))), (6, .int (bP (nrg x))), (0, .ref (ad (0))), (1, .ref (ad (tb i))), (2, .int 15), (3, .int x), (4, .int y), (5, .int z)]) X dX9_wrong_11 (by decide) rfl rfl ?_
  refine v_iload_n (pc' := 14) (i := 2) (j := 4) X dX9_wrong_13 rfl rfl rfl ?_
  refine v_tableIn (off := 133) (tgt := 147) X dX9_wrong_14 (by decide) (by decide) (by decide) (by decide) ?_
  refine v_iload (pc' := 149) (j := 1) X dX9_wrong_147 rfl rfl ?_
  refine v_ifB_ne (pc' := 152) (tgt := 177) X dX9_wrong_149 (by decide) rfl (fun hc_149 => ?_) (fun hc_149 => ?_)
  -- taken 149
  · refine v_iconst (pc' := 178) (v := 1) X dX9_wrong_177 (by decide) rfl ?_
    refine v_goto (pc' := 182) X dX9_wrong_178 (by decide) ?_
    refine v_zreturn X R (by decide) (Nat.zero_le _) (Nat.zero_le _) dX9_wrong_182 ?_
    exact ⟨congrArg (fun q9 => some (Value.int q9)) (bP_t (c := fWrong M (tb i) 15 x y z) (Or.inl (hc_149))).symm, rfl⟩
  -- not taken 149
  · obtain ⟨hx1, hx2⟩ := nrg_not hc_149
    refine v_iload (pc' := 154) (j := 0) X dX9_wrong_152 rfl rfl ?_
    refine v_ifB_ne (pc' := 157) (tgt := 177) X dX9_wrong_154 (by decide) rfl (fun hc_154 => ?_) (fun hc_154 => ?_)
    -- taken 154
    · refine v_iconst (pc' := 178) (v := 1) X dX9_wrong_177 (by decide) rfl ?_
      refine v_goto (pc' := 182) X dX9_wrong_178 (by decide) ?_
      refine v_zreturn X R (by decide) (Nat.zero_le _) (Nat.zero_le _) dX9_wrong_182 ?_
      exact ⟨congrArg (fun q9 => some (Value.int q9)) (bP_t (c := fWrong M (tb i) 15 x y z) (Or.inr (hc_154))).symm, rfl⟩
    -- not taken 154
    · obtain ⟨hy1, hy2⟩ := nrg_not hc_154
      refine v_iload_n (pc' := 158) (i := 2) (j := 4) X dX9_wrong_157 rfl rfl rfl ?_
      refine v_bipush (pc' := 160) (v := 7) X dX9_wrong_158 (by decide) rfl ?_
      refine v_icmp_eq (pc' := 163) (tgt := 169) X dX9_wrong_160 (by decide) rfl (fun hc_160 => absurd hc_160 (by decide)) (fun _ => ?_)
      refine v_iload_n (pc' := 164) (i := 2) (j := 4) X dX9_wrong_163 rfl rfl rfl ?_
      refine v_bipush (pc' := 166) (v := 12) X dX9_wrong_164 (by decide) rfl ?_
      refine v_icmp_ne (pc' := 169) (tgt := 181) X dX9_wrong_166 (by decide) rfl (fun _ => ?_) (fun hc_166 => absurd hc_166 (by decide))
      refine v_iconst (pc' := 182) (v := 0) X dX9_wrong_181 (by decide) rfl ?_
      refine v_zreturn X R (by decide) (Nat.zero_le _) (Nat.zero_le _) dX9_wrong_182 ?_
      exact ⟨congrArg (fun q9 => some (Value.int q9)) (bP_f (c := fWrong M (tb i) 15 x y z) (fun y9 => y9.elim (fun y9 => absurd y9 hc_149) (fun y9 => absurd y9 hc_154))).symm, rfl⟩
set_option maxHeartbeats 4000000 in
set_option maxRecDepth 100000 in
theorem c_X9_wrong_16 {l : Launch} {D : va_G} {Y : Nat → ClassId} {zz : Nat → Nat} {n : Nat} {ad : Nat → Nat} {M : vM} {i : Nat} (hi : i < n) {x y z : Int32} : Ct l D Y zz yX9_wrong cX9_wrong 8 (some FieldType.boolean) 1 21 [.ref (ad (0)), .ref (ad (tb i)), .int 16, .int x, .int y, .int z] (wM Y n ad M) 0 0 (fun r w => r = some (.int (bP (fWrong M (tb i) 16 x y z))) ∧ w = wM Y n ad M) := by
  refine v_entry (by decide +kernel) (Nat.le_of_ble_eq_true rfl) ?_
  intro K X R hR hnm hl hD hY hz
  subst hl hD hY hz
  refine v_sub (lv' := [(0, .ref (ad (0))), (1, .ref (ad (tb i))), (2, .int 16), (3, .int x), (4, .int y), (5, .int z)]) [0, 1, 2, 3, 4, 5] rfl ?_
  refine v_iload_n (pc' := 1) (i := 3) (j := 3) X dX9_wrong_0 rfl rfl rfl ?_
  refine v_callS (pc' := 4) X (st := []) (c_X9_noRegister (n := n) (ad := ad) (M := M) (k := x)) k_X9_noRegister w_ml_X9_101 w_st_X9_noRegister (by rw [hR]; exact ⟨Nat.le_of_ble_eq_true rfl, Nat.le_of_ble_eq_true rfl⟩) rfl rfl (Nat.le_of_ble_eq_true rfl) dX9_wrong_1 rfl (⟨Nat.zero_le _, Nat.zero_le _⟩) ?_
  rintro _ _ ⟨rfl, rfl⟩
  refine v_istore (pc' := 6) (lv' := [(6, .int (bP (nrg x))), (0, .ref (ad (0))), (1, .ref (ad (tb i))), (2, .int 16), (3, .int x), (4, .int y), (5, .int z)]) X dX9_wrong_4 (by decide) rfl rfl ?_
  refine v_iload (pc' := 8) (j := 5) X dX9_wrong_6 rfl rfl ?_
  refine v_callS (pc' := 11) X (st := []) (c_X9_noRegister (n := n) (ad := ad) (M := M) (k := y)) k_X9_noRegister w_ml_X9_101 w_st_X9_noRegister (by rw [hR]; exact ⟨Nat.le_of_ble_eq_true rfl, Nat.le_of_ble_eq_true rfl⟩) rfl rfl (Nat.le_of_ble_eq_true rfl) dX9_wrong_8 rfl (⟨Nat.zero_le _, Nat.zero_le _⟩) ?_
  rintro _ _ ⟨rfl, rfl⟩
  refine v_istore (pc' := 13) (lv' := [(7, .int (bP (nrg y))), (6, .int (bP (nrg x))), (0, .ref (ad (0))), (1, .ref (ad (tb i))), (2, .int 16), (3, .int x), (4, .int y), (5, .int z)]) X dX9_wrong_11 (by decide) rfl rfl ?_
  refine v_iload_n (pc' := 14) (i := 2) (j := 4) X dX9_wrong_13 rfl rfl rfl ?_
  refine v_tableIn (off := 251) (tgt := 265) X dX9_wrong_14 (by decide) (by decide) (by decide) (by decide) ?_
  refine v_iload (pc' := 267) (j := 1) X dX9_wrong_265 rfl rfl ?_
  refine v_ifB_ne (pc' := 270) (tgt := 288) X dX9_wrong_267 (by decide) rfl (fun hc_267 => ?_) (fun hc_267 => ?_)
  -- taken 267
  · refine v_iconst (pc' := 289) (v := 1) X dX9_wrong_288 (by decide) rfl ?_
    refine v_goto (pc' := 293) X dX9_wrong_289 (by decide) ?_
    refine v_zreturn X R (by decide) (Nat.zero_le _) (Nat.zero_le _) dX9_wrong_293 ?_
    exact ⟨congrArg (fun q9 => some (Value.int q9)) (bP_t (c := fWrong M (tb i) 16 x y z) (Or.inl (hc_267))).symm, rfl⟩
  -- not taken 267
  · obtain ⟨hx1, hx2⟩ := nrg_not hc_267
    refine v_iload (pc' := 272) (j := 0) X dX9_wrong_270 rfl rfl ?_
    refine v_ifB_ne (pc' := 275) (tgt := 288) X dX9_wrong_272 (by decide) rfl (fun hc_272 => ?_) (fun hc_272 => ?_)
    -- taken 272
    · refine v_iconst (pc' := 289) (v := 1) X dX9_wrong_288 (by decide) rfl ?_
      refine v_goto (pc' := 293) X dX9_wrong_289 (by decide) ?_
      refine v_zreturn X R (by decide) (Nat.zero_le _) (Nat.zero_le _) dX9_wrong_293 ?_
      exact ⟨congrArg (fun q9 => some (Value.int q9)) (bP_t (c := fWrong M (tb i) 16 x y z) (Or.inr (Or.inl (hc_272)))).symm, rfl⟩
    -- not taken 272
    · obtain ⟨hy1, hy2⟩ := nrg_not hc_272
      refine v_aload_n (pc' := 276) (i := 1) (j := 3) X dX9_wrong_275 rfl rfl rfl ?_
      refine fg_X9_105 (pc' := 279) X hi dX9_wrong_276 rfl ?_
      refine v_iload (pc' := 281) (j := 6) X dX9_wrong_279 rfl rfl ?_
      refine ag_T8 (pc' := 282) X hi (v := M.2 (tb i + 8) (nn y)) (nn y) hy1 (by omega) rfl dX9_wrong_281 rfl ?_
      refine v_callS (pc' := 285) X (st := []) (c_X9_isVar (n := n) (ad := ad) (M := M) (v := M.2 (tb i + 8) (nn y))) k_X9_isVar w_ml_X9_115 w_st_X9_isVar (by rw [hR]; exact ⟨Nat.le_of_ble_eq_true rfl, Nat.le_of_ble_eq_true rfl⟩) rfl rfl (Nat.le_of_ble_eq_true rfl) dX9_wrong_282 rfl (⟨Nat.zero_le _, Nat.zero_le _⟩) ?_
      rintro _ _ ⟨rfl, rfl⟩
      refine v_ifB_ne (pc' := 288) (tgt := 292) X dX9_wrong_285 (by decide) rfl (fun hc_285 => ?_) (fun hc_285 => ?_)
      -- taken 285
      · refine v_iconst (pc' := 293) (v := 0) X dX9_wrong_292 (by decide) rfl ?_
        refine v_zreturn X R (by decide) (Nat.zero_le _) (Nat.zero_le _) dX9_wrong_293 ?_
        exact ⟨congrArg (fun q9 => some (Value.int q9)) (bP_f (c := fWrong M (tb i) 16 x y z) (fun y9 => y9.elim (fun y9 => absurd y9 hc_267) (fun y9 => y9.elim (fun y9 => absurd y9 hc_272) (fun y9 => absurd hc_285 y9)))).symm, rfl⟩
      -- not taken 285
      · refine v_iconst (pc' := 289) (v := 1) X dX9_wrong_288 (by decide) rfl ?_
        refine v_goto (pc' := 293) X dX9_wrong_289 (by decide) ?_
        refine v_zreturn X R (by decide) (Nat.zero_le _) (Nat.zero_le _) dX9_wrong_293 ?_
        exact ⟨congrArg (fun q9 => some (Value.int q9)) (bP_t (c := fWrong M (tb i) 16 x y z) (Or.inr (Or.inr (hc_285)))).symm, rfl⟩
set_option maxHeartbeats 4000000 in
set_option maxRecDepth 100000 in
theorem c_X9_wrong_17 {l : Launch} {D : va_G} {Y : Nat → ClassId} {zz : Nat → Nat} {n : Nat} {ad : Nat → Nat} {M : vM} {i : Nat} (hi : i < n) {x y z : Int32} : Ct l D Y zz yX9_wrong cX9_wrong 8 (some FieldType.boolean) 1 21 [.ref (ad (0)), .ref (ad (tb i)), .int 17, .int x, .int y, .int z] (wM Y n ad M) 0 0 (fun r w => r = some (.int (bP (fWrong M (tb i) 17 x y z))) ∧ w = wM Y n ad M) := by
  refine v_entry (by decide +kernel) (Nat.le_of_ble_eq_true rfl) ?_
  intro K X R hR hnm hl hD hY hz
  subst hl hD hY hz
  refine v_sub (lv' := [(0, .ref (ad (0))), (1, .ref (ad (tb i))), (2, .int 17), (3, .int x), (4, .int y), (5, .int z)]) [0, 1, 2, 3, 4, 5] rfl ?_
  refine v_iload_n (pc' := 1) (i := 3) (j := 3) X dX9_wrong_0 rfl rfl rfl ?_
  refine v_callS (pc' := 4) X (st := []) (c_X9_noRegister (n := n) (ad := ad) (M := M) (k := x)) k_X9_noRegister w_ml_X9_101 w_st_X9_noRegister (by rw [hR]; exact ⟨Nat.le_of_ble_eq_true rfl, Nat.le_of_ble_eq_true rfl⟩) rfl rfl (Nat.le_of_ble_eq_true rfl) dX9_wrong_1 rfl (⟨Nat.zero_le _, Nat.zero_le _⟩) ?_
  rintro _ _ ⟨rfl, rfl⟩
  refine v_istore (pc' := 6) (lv' := [(6, .int (bP (nrg x))), (0, .ref (ad (0))), (1, .ref (ad (tb i))), (2, .int 17), (3, .int x), (4, .int y), (5, .int z)]) X dX9_wrong_4 (by decide) rfl rfl ?_
  refine v_iload (pc' := 8) (j := 5) X dX9_wrong_6 rfl rfl ?_
  refine v_callS (pc' := 11) X (st := []) (c_X9_noRegister (n := n) (ad := ad) (M := M) (k := y)) k_X9_noRegister w_ml_X9_101 w_st_X9_noRegister (by rw [hR]; exact ⟨Nat.le_of_ble_eq_true rfl, Nat.le_of_ble_eq_true rfl⟩) rfl rfl (Nat.le_of_ble_eq_true rfl) dX9_wrong_8 rfl (⟨Nat.zero_le _, Nat.zero_le _⟩) ?_
  rintro _ _ ⟨rfl, rfl⟩
  refine v_istore (pc' := 13) (lv' := [(7, .int (bP (nrg y))), (6, .int (bP (nrg x))), (0, .ref (ad (0))), (1, .ref (ad (tb i))), (2, .int 17), (3, .int x), (4, .int y), (5, .int z)]) X dX9_wrong_11 (by decide) rfl rfl ?_
  refine v_iload_n (pc' := 14) (i := 2) (j := 4) X dX9_wrong_13 rfl rfl rfl ?_
  refine v_tableIn (off := 280) (tgt := 294) X dX9_wrong_14 (by decide) (by decide) (by decide) (by decide) ?_
  refine v_iload (pc' := 296) (j := 1) X dX9_wrong_294 rfl rfl ?_
  refine v_ifB_ne (pc' := 299) (tgt := 316) X dX9_wrong_296 (by decide) rfl (fun hc_296 => ?_) (fun hc_296 => ?_)
  -- taken 296
  · refine v_iconst (pc' := 317) (v := 1) X dX9_wrong_316 (by decide) rfl ?_
    refine v_goto (pc' := 321) X dX9_wrong_317 (by decide) ?_
    refine v_zreturn X R (by decide) (Nat.zero_le _) (Nat.zero_le _) dX9_wrong_321 ?_
    exact ⟨congrArg (fun q9 => some (Value.int q9)) (bP_t (c := fWrong M (tb i) 17 x y z) (Or.inl (hc_296))).symm, rfl⟩
  -- not taken 296
  · obtain ⟨hx1, hx2⟩ := nrg_not hc_296
    refine v_iload (pc' := 301) (j := 0) X dX9_wrong_299 rfl rfl ?_
    refine v_ifB_ne (pc' := 304) (tgt := 316) X dX9_wrong_301 (by decide) rfl (fun hc_301 => ?_) (fun hc_301 => ?_)
    -- taken 301
    · refine v_iconst (pc' := 317) (v := 1) X dX9_wrong_316 (by decide) rfl ?_
      refine v_goto (pc' := 321) X dX9_wrong_317 (by decide) ?_
      refine v_zreturn X R (by decide) (Nat.zero_le _) (Nat.zero_le _) dX9_wrong_321 ?_
      exact ⟨congrArg (fun q9 => some (Value.int q9)) (bP_t (c := fWrong M (tb i) 17 x y z) (Or.inr (Or.inl (hc_301)))).symm, rfl⟩
    -- not taken 301
    · obtain ⟨hy1, hy2⟩ := nrg_not hc_301
      refine v_aload_n (pc' := 305) (i := 1) (j := 3) X dX9_wrong_304 rfl rfl rfl ?_
      refine fg_X9_105 (pc' := 308) X hi dX9_wrong_305 rfl ?_
      refine v_iload_n (pc' := 309) (i := 3) (j := 5) X dX9_wrong_308 rfl rfl rfl ?_
      refine ag_T8 (pc' := 310) X hi (v := M.2 (tb i + 8) (nn x)) (nn x) hx1 (by omega) rfl dX9_wrong_309 rfl ?_
      refine v_callS (pc' := 313) X (st := []) (c_X9_isVar (n := n) (ad := ad) (M := M) (v := M.2 (tb i + 8) (nn x))) k_X9_isVar w_ml_X9_115 w_st_X9_isVar (by rw [hR]; exact ⟨Nat.le_of_ble_eq_true rfl, Nat.le_of_ble_eq_true rfl⟩) rfl rfl (Nat.le_of_ble_eq_true rfl) dX9_wrong_310 rfl (⟨Nat.zero_le _, Nat.zero_le _⟩) ?_
      rintro _ _ ⟨rfl, rfl⟩
      refine v_ifB_ne (pc' := 316) (tgt := 320) X dX9_wrong_313 (by decide) rfl (fun hc_313 => ?_) (fun hc_313 => ?_)
      -- taken 313
      · refine v_iconst (pc' := 321) (v := 0) X dX9_wrong_320 (by decide) rfl ?_
        refine v_zreturn X R (by decide) (Nat.zero_le _) (Nat.zero_le _) dX9_wrong_321 ?_
        exact ⟨congrArg (fun q9 => some (Value.int q9)) (bP_f (c := fWrong M (tb i) 17 x y z) (fun y9 => y9.elim (fun y9 => absurd y9 hc_296) (fun y9 => y9.elim (fun y9 => absurd y9 hc_301) (fun y9 => absurd hc_313 y9)))).symm, rfl⟩
      -- not taken 313
      · refine v_iconst (pc' := 317) (v := 1) X dX9_wrong_316 (by decide) rfl ?_
        refine v_goto (pc' := 321) X dX9_wrong_317 (by decide) ?_
        refine v_zreturn X R (by decide) (Nat.zero_le _) (Nat.zero_le _) dX9_wrong_321 ?_
        exact ⟨congrArg (fun q9 => some (Value.int q9)) (bP_t (c := fWrong M (tb i) 17 x y z) (Or.inr (Or.inr (hc_313)))).symm, rfl⟩
set_option maxHeartbeats 4000000 in
set_option maxRecDepth 100000 in
theorem c_X9_wrong_18 {l : Launch} {D : va_G} {Y : Nat → ClassId} {zz : Nat → Nat} {n : Nat} {ad : Nat → Nat} {M : vM} {i : Nat} (hi : i < n) {x y z : Int32} : Ct l D Y zz yX9_wrong cX9_wrong 8 (some FieldType.boolean) 1 20 [.ref (ad (0)), .ref (ad (tb i)), .int 18, .int x, .int y, .int z] (wM Y n ad M) 0 0 (fun r w => r = some (.int (bP (fWrong M (tb i) 18 x y z))) ∧ w = wM Y n ad M) := by
  refine v_entry (by decide +kernel) (Nat.le_of_ble_eq_true rfl) ?_
  intro K X R hR hnm hl hD hY hz
  subst hl hD hY hz
  refine v_sub (lv' := [(0, .ref (ad (0))), (1, .ref (ad (tb i))), (2, .int 18), (3, .int x), (4, .int y), (5, .int z)]) [0, 1, 2, 3, 4, 5] rfl ?_
  refine v_iload_n (pc' := 1) (i := 3) (j := 3) X dX9_wrong_0 rfl rfl rfl ?_
  refine v_callS (pc' := 4) X (st := []) (c_X9_noRegister (n := n) (ad := ad) (M := M) (k := x)) k_X9_noRegister w_ml_X9_101 w_st_X9_noRegister (by rw [hR]; exact ⟨Nat.le_of_ble_eq_true rfl, Nat.le_of_ble_eq_true rfl⟩) rfl rfl (Nat.le_of_ble_eq_true rfl) dX9_wrong_1 rfl (⟨Nat.zero_le _, Nat.zero_le _⟩) ?_
  rintro _ _ ⟨rfl, rfl⟩
  refine v_istore (pc' := 6) (lv' := [(6, .int (bP (nrg x))), (0, .ref (ad (0))), (1, .ref (ad (tb i))), (2, .int 18), (3, .int x), (4, .int y), (5, .int z)]) X dX9_wrong_4 (by decide) rfl rfl ?_
  refine v_iload (pc' := 8) (j := 5) X dX9_wrong_6 rfl rfl ?_
  refine v_callS (pc' := 11) X (st := []) (c_X9_noRegister (n := n) (ad := ad) (M := M) (k := y)) k_X9_noRegister w_ml_X9_101 w_st_X9_noRegister (by rw [hR]; exact ⟨Nat.le_of_ble_eq_true rfl, Nat.le_of_ble_eq_true rfl⟩) rfl rfl (Nat.le_of_ble_eq_true rfl) dX9_wrong_8 rfl (⟨Nat.zero_le _, Nat.zero_le _⟩) ?_
  rintro _ _ ⟨rfl, rfl⟩
  refine v_istore (pc' := 13) (lv' := [(7, .int (bP (nrg y))), (6, .int (bP (nrg x))), (0, .ref (ad (0))), (1, .ref (ad (tb i))), (2, .int 18), (3, .int x), (4, .int y), (5, .int z)]) X dX9_wrong_11 (by decide) rfl rfl ?_
  refine v_iload_n (pc' := 14) (i := 2) (j := 4) X dX9_wrong_13 rfl rfl rfl ?_
  refine v_tableIn (off := 405) (tgt := 419) X dX9_wrong_14 (by decide) (by decide) (by decide) (by decide) ?_
  refine v_iconst (pc' := 420) (v := 0) X dX9_wrong_419 (by decide) rfl ?_
  refine v_zreturn X R (by decide) (Nat.zero_le _) (Nat.zero_le _) dX9_wrong_420 ?_
  exact ⟨congrArg (fun q9 => some (Value.int q9)) (bP_f (c := fWrong M (tb i) 18 x y z) id).symm, rfl⟩
set_option maxHeartbeats 4000000 in
set_option maxRecDepth 100000 in
theorem c_X9_wrong_19 {l : Launch} {D : va_G} {Y : Nat → ClassId} {zz : Nat → Nat} {n : Nat} {ad : Nat → Nat} {M : vM} {i : Nat} (hi : i < n) {x y z : Int32} : Ct l D Y zz yX9_wrong cX9_wrong 8 (some FieldType.boolean) 1 20 [.ref (ad (0)), .ref (ad (tb i)), .int 19, .int x, .int y, .int z] (wM Y n ad M) 0 0 (fun r w => r = some (.int (bP (fWrong M (tb i) 19 x y z))) ∧ w = wM Y n ad M) := by
  refine v_entry (by decide +kernel) (Nat.le_of_ble_eq_true rfl) ?_
  intro K X R hR hnm hl hD hY hz
  subst hl hD hY hz
  refine v_sub (lv' := [(0, .ref (ad (0))), (1, .ref (ad (tb i))), (2, .int 19), (3, .int x), (4, .int y), (5, .int z)]) [0, 1, 2, 3, 4, 5] rfl ?_
  refine v_iload_n (pc' := 1) (i := 3) (j := 3) X dX9_wrong_0 rfl rfl rfl ?_
  refine v_callS (pc' := 4) X (st := []) (c_X9_noRegister (n := n) (ad := ad) (M := M) (k := x)) k_X9_noRegister w_ml_X9_101 w_st_X9_noRegister (by rw [hR]; exact ⟨Nat.le_of_ble_eq_true rfl, Nat.le_of_ble_eq_true rfl⟩) rfl rfl (Nat.le_of_ble_eq_true rfl) dX9_wrong_1 rfl (⟨Nat.zero_le _, Nat.zero_le _⟩) ?_
  rintro _ _ ⟨rfl, rfl⟩
  refine v_istore (pc' := 6) (lv' := [(6, .int (bP (nrg x))), (0, .ref (ad (0))), (1, .ref (ad (tb i))), (2, .int 19), (3, .int x), (4, .int y), (5, .int z)]) X dX9_wrong_4 (by decide) rfl rfl ?_
  refine v_iload (pc' := 8) (j := 5) X dX9_wrong_6 rfl rfl ?_
  refine v_callS (pc' := 11) X (st := []) (c_X9_noRegister (n := n) (ad := ad) (M := M) (k := y)) k_X9_noRegister w_ml_X9_101 w_st_X9_noRegister (by rw [hR]; exact ⟨Nat.le_of_ble_eq_true rfl, Nat.le_of_ble_eq_true rfl⟩) rfl rfl (Nat.le_of_ble_eq_true rfl) dX9_wrong_8 rfl (⟨Nat.zero_le _, Nat.zero_le _⟩) ?_
  rintro _ _ ⟨rfl, rfl⟩
  refine v_istore (pc' := 13) (lv' := [(7, .int (bP (nrg y))), (6, .int (bP (nrg x))), (0, .ref (ad (0))), (1, .ref (ad (tb i))), (2, .int 19), (3, .int x), (4, .int y), (5, .int z)]) X dX9_wrong_11 (by decide) rfl rfl ?_
  refine v_iload_n (pc' := 14) (i := 2) (j := 4) X dX9_wrong_13 rfl rfl rfl ?_
  refine v_tableIn (off := 405) (tgt := 419) X dX9_wrong_14 (by decide) (by decide) (by decide) (by decide) ?_
  refine v_iconst (pc' := 420) (v := 0) X dX9_wrong_419 (by decide) rfl ?_
  refine v_zreturn X R (by decide) (Nat.zero_le _) (Nat.zero_le _) dX9_wrong_420 ?_
  exact ⟨congrArg (fun q9 => some (Value.int q9)) (bP_f (c := fWrong M (tb i) 19 x y z) id).symm, rfl⟩
set_option maxHeartbeats 4000000 in
set_option maxRecDepth 100000 in
theorem c_X9_wrong_20 {l : Launch} {D : va_G} {Y : Nat → ClassId} {zz : Nat → Nat} {n : Nat} {ad : Nat → Nat} {M : vM} {i : Nat} (hi : i < n) {x y z : Int32} : Ct l D Y zz yX9_wrong cX9_wrong 8 (some FieldType.boolean) 1 20 [.ref (ad (0)), .ref (ad (tb i)), .int 20, .int x, .int y, .int z] (wM Y n ad M) 0 0 (fun r w => r = some (.int (bP (fWrong M (tb i) 20 x y z))) ∧ w = wM Y n ad M) := by
  refine v_entry (by decide +kernel) (Nat.le_of_ble_eq_true rfl) ?_
  intro K X R hR hnm hl hD hY hz
  subst hl hD hY hz
  refine v_sub (lv' := [(0, .ref (ad (0))), (1, .ref (ad (tb i))), (2, .int 20), (3, .int x), (4, .int y), (5, .int z)]) [0, 1, 2, 3, 4, 5] rfl ?_
  refine v_iload_n (pc' := 1) (i := 3) (j := 3) X dX9_wrong_0 rfl rfl rfl ?_
  refine v_callS (pc' := 4) X (st := []) (c_X9_noRegister (n := n) (ad := ad) (M := M) (k := x)) k_X9_noRegister w_ml_X9_101 w_st_X9_noRegister (by rw [hR]; exact ⟨Nat.le_of_ble_eq_true rfl, Nat.le_of_ble_eq_true rfl⟩) rfl rfl (Nat.le_of_ble_eq_true rfl) dX9_wrong_1 rfl (⟨Nat.zero_le _, Nat.zero_le _⟩) ?_
  rintro _ _ ⟨rfl, rfl⟩
  refine v_istore (pc' := 6) (lv' := [(6, .int (bP (nrg x))), (0, .ref (ad (0))), (1, .ref (ad (tb i))), (2, .int 20), (3, .int x), (4, .int y), (5, .int z)]) X dX9_wrong_4 (by decide) rfl rfl ?_
  refine v_iload (pc' := 8) (j := 5) X dX9_wrong_6 rfl rfl ?_
  refine v_callS (pc' := 11) X (st := []) (c_X9_noRegister (n := n) (ad := ad) (M := M) (k := y)) k_X9_noRegister w_ml_X9_101 w_st_X9_noRegister (by rw [hR]; exact ⟨Nat.le_of_ble_eq_true rfl, Nat.le_of_ble_eq_true rfl⟩) rfl rfl (Nat.le_of_ble_eq_true rfl) dX9_wrong_8 rfl (⟨Nat.zero_le _, Nat.zero_le _⟩) ?_
  rintro _ _ ⟨rfl, rfl⟩
  refine v_istore (pc' := 13) (lv' := [(7, .int (bP (nrg y))), (6, .int (bP (nrg x))), (0, .ref (ad (0))), (1, .ref (ad (tb i))), (2, .int 20), (3, .int x), (4, .int y), (5, .int z)]) X dX9_wrong_11 (by decide) rfl rfl ?_
  refine v_iload_n (pc' := 14) (i := 2) (j := 4) X dX9_wrong_13 rfl rfl rfl ?_
  refine v_tableIn (off := 405) (tgt := 419) X dX9_wrong_14 (by decide) (by decide) (by decide) (by decide) ?_
  refine v_iconst (pc' := 420) (v := 0) X dX9_wrong_419 (by decide) rfl ?_
  refine v_zreturn X R (by decide) (Nat.zero_le _) (Nat.zero_le _) dX9_wrong_420 ?_
  exact ⟨congrArg (fun q9 => some (Value.int q9)) (bP_f (c := fWrong M (tb i) 20 x y z) id).symm, rfl⟩
set_option maxHeartbeats 4000000 in
set_option maxRecDepth 100000 in
theorem c_X9_wrong_21 {l : Launch} {D : va_G} {Y : Nat → ClassId} {zz : Nat → Nat} {n : Nat} {ad : Nat → Nat} {M : vM} {i : Nat} (hi : i < n) {x y z : Int32} : Ct l D Y zz yX9_wrong cX9_wrong 8 (some FieldType.boolean) 1 20 [.ref (ad (0)), .ref (ad (tb i)), .int 21, .int x, .int y, .int z] (wM Y n ad M) 0 0 (fun r w => r = some (.int (bP (fWrong M (tb i) 21 x y z))) ∧ w = wM Y n ad M) := by
  refine v_entry (by decide +kernel) (Nat.le_of_ble_eq_true rfl) ?_
  intro K X R hR hnm hl hD hY hz
  subst hl hD hY hz
  refine v_sub (lv' := [(0, .ref (ad (0))), (1, .ref (ad (tb i))), (2, .int 21), (3, .int x), (4, .int y), (5, .int z)]) [0, 1, 2, 3, 4, 5] rfl ?_
  refine v_iload_n (pc' := 1) (i := 3) (j := 3) X dX9_wrong_0 rfl rfl rfl ?_
  refine v_callS (pc' := 4) X (st := []) (c_X9_noRegister (n := n) (ad := ad) (M := M) (k := x)) k_X9_noRegister w_ml_X9_101 w_st_X9_noRegister (by rw [hR]; exact ⟨Nat.le_of_ble_eq_true rfl, Nat.le_of_ble_eq_true rfl⟩) rfl rfl (Nat.le_of_ble_eq_true rfl) dX9_wrong_1 rfl (⟨Nat.zero_le _, Nat.zero_le _⟩) ?_
  rintro _ _ ⟨rfl, rfl⟩
  refine v_istore (pc' := 6) (lv' := [(6, .int (bP (nrg x))), (0, .ref (ad (0))), (1, .ref (ad (tb i))), (2, .int 21), (3, .int x), (4, .int y), (5, .int z)]) X dX9_wrong_4 (by decide) rfl rfl ?_
  refine v_iload (pc' := 8) (j := 5) X dX9_wrong_6 rfl rfl ?_
  refine v_callS (pc' := 11) X (st := []) (c_X9_noRegister (n := n) (ad := ad) (M := M) (k := y)) k_X9_noRegister w_ml_X9_101 w_st_X9_noRegister (by rw [hR]; exact ⟨Nat.le_of_ble_eq_true rfl, Nat.le_of_ble_eq_true rfl⟩) rfl rfl (Nat.le_of_ble_eq_true rfl) dX9_wrong_8 rfl (⟨Nat.zero_le _, Nat.zero_le _⟩) ?_
  rintro _ _ ⟨rfl, rfl⟩
  refine v_istore (pc' := 13) (lv' := [(7, .int (bP (nrg y))), (6, .int (bP (nrg x))), (0, .ref (ad (0))), (1, .ref (ad (tb i))), (2, .int 21), (3, .int x), (4, .int y), (5, .int z)]) X dX9_wrong_11 (by decide) rfl rfl ?_
  refine v_iload_n (pc' := 14) (i := 2) (j := 4) X dX9_wrong_13 rfl rfl rfl ?_
  refine v_tableIn (off := 405) (tgt := 419) X dX9_wrong_14 (by decide) (by decide) (by decide) (by decide) ?_
  refine v_iconst (pc' := 420) (v := 0) X dX9_wrong_419 (by decide) rfl ?_
  refine v_zreturn X R (by decide) (Nat.zero_le _) (Nat.zero_le _) dX9_wrong_420 ?_
  exact ⟨congrArg (fun q9 => some (Value.int q9)) (bP_f (c := fWrong M (tb i) 21 x y z) id).symm, rfl⟩
set_option maxHeartbeats 4000000 in
set_option maxRecDepth 100000 in
theorem c_X9_wrong_22 {l : Launch} {D : va_G} {Y : Nat → ClassId} {zz : Nat → Nat} {n : Nat} {ad : Nat → Nat} {M : vM} {i : Nat} (hi : i < n) {x y z : Int32} : Ct l D Y zz yX9_wrong cX9_wrong 8 (some FieldType.boolean) 1 20 [.ref (ad (0)), .ref (ad (tb i)), .int 22, .int x, .int y, .int z] (wM Y n ad M) 0 0 (fun r w => r = some (.int (bP (fWrong M (tb i) 22 x y z))) ∧ w = wM Y n ad M) := by
  refine v_entry (by decide +kernel) (Nat.le_of_ble_eq_true rfl) ?_
  intro K X R hR hnm hl hD hY hz
  subst hl hD hY hz
  refine v_sub (lv' := [(0, .ref (ad (0))), (1, .ref (ad (tb i))), (2, .int 22), (3, .int x), (4, .int y), (5, .int z)]) [0, 1, 2, 3, 4, 5] rfl ?_
  refine v_iload_n (pc' := 1) (i := 3) (j := 3) X dX9_wrong_0 rfl rfl rfl ?_
  refine v_callS (pc' := 4) X (st := []) (c_X9_noRegister (n := n) (ad := ad) (M := M) (k := x)) k_X9_noRegister w_ml_X9_101 w_st_X9_noRegister (by rw [hR]; exact ⟨Nat.le_of_ble_eq_true rfl, Nat.le_of_ble_eq_true rfl⟩) rfl rfl (Nat.le_of_ble_eq_true rfl) dX9_wrong_1 rfl (⟨Nat.zero_le _, Nat.zero_le _⟩) ?_
  rintro _ _ ⟨rfl, rfl⟩
  refine v_istore (pc' := 6) (lv' := [(6, .int (bP (nrg x))), (0, .ref (ad (0))), (1, .ref (ad (tb i))), (2, .int 22), (3, .int x), (4, .int y), (5, .int z)]) X dX9_wrong_4 (by decide) rfl rfl ?_
  refine v_iload (pc' := 8) (j := 5) X dX9_wrong_6 rfl rfl ?_
  refine v_callS (pc' := 11) X (st := []) (c_X9_noRegister (n := n) (ad := ad) (M := M) (k := y)) k_X9_noRegister w_ml_X9_101 w_st_X9_noRegister (by rw [hR]; exact ⟨Nat.le_of_ble_eq_true rfl, Nat.le_of_ble_eq_true rfl⟩) rfl rfl (Nat.le_of_ble_eq_true rfl) dX9_wrong_8 rfl (⟨Nat.zero_le _, Nat.zero_le _⟩) ?_
  rintro _ _ ⟨rfl, rfl⟩
  refine v_istore (pc' := 13) (lv' := [(7, .int (bP (nrg y))), (6, .int (bP (nrg x))), (0, .ref (ad (0))), (1, .ref (ad (tb i))), (2, .int 22), (3, .int x), (4, .int y), (5, .int z)]) X dX9_wrong_11 (by decide) rfl rfl ?_
  refine v_iload_n (pc' := 14) (i := 2) (j := 4) X dX9_wrong_13 rfl rfl rfl ?_
  refine v_tableIn (off := 405) (tgt := 419) X dX9_wrong_14 (by decide) (by decide) (by decide) (by decide) ?_
  refine v_iconst (pc' := 420) (v := 0) X dX9_wrong_419 (by decide) rfl ?_
  refine v_zreturn X R (by decide) (Nat.zero_le _) (Nat.zero_le _) dX9_wrong_420 ?_
  exact ⟨congrArg (fun q9 => some (Value.int q9)) (bP_f (c := fWrong M (tb i) 22 x y z) id).symm, rfl⟩
set_option maxHeartbeats 4000000 in
set_option maxRecDepth 100000 in
theorem c_X9_wrong_23 {l : Launch} {D : va_G} {Y : Nat → ClassId} {zz : Nat → Nat} {n : Nat} {ad : Nat → Nat} {M : vM} {i : Nat} (hi : i < n) {x y z : Int32} : Ct l D Y zz yX9_wrong cX9_wrong 8 (some FieldType.boolean) 1 20 [.ref (ad (0)), .ref (ad (tb i)), .int 23, .int x, .int y, .int z] (wM Y n ad M) 0 0 (fun r w => r = some (.int (bP (fWrong M (tb i) 23 x y z))) ∧ w = wM Y n ad M) := by
  refine v_entry (by decide +kernel) (Nat.le_of_ble_eq_true rfl) ?_
  intro K X R hR hnm hl hD hY hz
  subst hl hD hY hz
  refine v_sub (lv' := [(0, .ref (ad (0))), (1, .ref (ad (tb i))), (2, .int 23), (3, .int x), (4, .int y), (5, .int z)]) [0, 1, 2, 3, 4, 5] rfl ?_
  refine v_iload_n (pc' := 1) (i := 3) (j := 3) X dX9_wrong_0 rfl rfl rfl ?_
  refine v_callS (pc' := 4) X (st := []) (c_X9_noRegister (n := n) (ad := ad) (M := M) (k := x)) k_X9_noRegister w_ml_X9_101 w_st_X9_noRegister (by rw [hR]; exact ⟨Nat.le_of_ble_eq_true rfl, Nat.le_of_ble_eq_true rfl⟩) rfl rfl (Nat.le_of_ble_eq_true rfl) dX9_wrong_1 rfl (⟨Nat.zero_le _, Nat.zero_le _⟩) ?_
  rintro _ _ ⟨rfl, rfl⟩
  refine v_istore (pc' := 6) (lv' := [(6, .int (bP (nrg x))), (0, .ref (ad (0))), (1, .ref (ad (tb i))), (2, .int 23), (3, .int x), (4, .int y), (5, .int z)]) X dX9_wrong_4 (by decide) rfl rfl ?_
  refine v_iload (pc' := 8) (j := 5) X dX9_wrong_6 rfl rfl ?_
  refine v_callS (pc' := 11) X (st := []) (c_X9_noRegister (n := n) (ad := ad) (M := M) (k := y)) k_X9_noRegister w_ml_X9_101 w_st_X9_noRegister (by rw [hR]; exact ⟨Nat.le_of_ble_eq_true rfl, Nat.le_of_ble_eq_true rfl⟩) rfl rfl (Nat.le_of_ble_eq_true rfl) dX9_wrong_8 rfl (⟨Nat.zero_le _, Nat.zero_le _⟩) ?_
  rintro _ _ ⟨rfl, rfl⟩
  refine v_istore (pc' := 13) (lv' := [(7, .int (bP (nrg y))), (6, .int (bP (nrg x))), (0, .ref (ad (0))), (1, .ref (ad (tb i))), (2, .int 23), (3, .int x), (4, .int y), (5, .int z)]) X dX9_wrong_11 (by decide) rfl rfl ?_
  refine v_iload_n (pc' := 14) (i := 2) (j := 4) X dX9_wrong_13 rfl rfl rfl ?_
  refine v_tableIn (off := 405) (tgt := 419) X dX9_wrong_14 (by decide) (by decide) (by decide) (by decide) ?_
  refine v_iconst (pc' := 420) (v := 0) X dX9_wrong_419 (by decide) rfl ?_
  refine v_zreturn X R (by decide) (Nat.zero_le _) (Nat.zero_le _) dX9_wrong_420 ?_
  exact ⟨congrArg (fun q9 => some (Value.int q9)) (bP_f (c := fWrong M (tb i) 23 x y z) id).symm, rfl⟩
set_option maxHeartbeats 4000000 in
set_option maxRecDepth 100000 in
theorem c_X9_wrong_24 {l : Launch} {D : va_G} {Y : Nat → ClassId} {zz : Nat → Nat} {n : Nat} {ad : Nat → Nat} {M : vM} {i : Nat} (hi : i < n) {x y z : Int32} : Ct l D Y zz yX9_wrong cX9_wrong 8 (some FieldType.boolean) 1 21 [.ref (ad (0)), .ref (ad (tb i)), .int 24, .int x, .int y, .int z] (wM Y n ad M) 0 0 (fun r w => r = some (.int (bP (fWrong M (tb i) 24 x y z))) ∧ w = wM Y n ad M) := by
  refine v_entry (by decide +kernel) (Nat.le_of_ble_eq_true rfl) ?_
  intro K X R hR hnm hl hD hY hz
  subst hl hD hY hz
  refine v_sub (lv' := [(0, .ref (ad (0))), (1, .ref (ad (tb i))), (2, .int 24), (3, .int x), (4, .int y), (5, .int z)]) [0, 1, 2, 3, 4, 5] rfl ?_
  refine v_iload_n (pc' := 1) (i := 3) (j := 3) X dX9_wrong_0 rfl rfl rfl ?_
  refine v_callS (pc' := 4) X (st := []) (c_X9_noRegister (n := n) (ad := ad) (M := M) (k := x)) k_X9_noRegister w_ml_X9_101 w_st_X9_noRegister (by rw [hR]; exact ⟨Nat.le_of_ble_eq_true rfl, Nat.le_of_ble_eq_true rfl⟩) rfl rfl (Nat.le_of_ble_eq_true rfl) dX9_wrong_1 rfl (⟨Nat.zero_le _, Nat.zero_le _⟩) ?_
  rintro _ _ ⟨rfl, rfl⟩
  refine v_istore (pc' := 6) (lv' := [(6, .int (bP (nrg x))), (0, .ref (ad (0))), (1, .ref (ad (tb i))), (2, .int 24), (3, .int x), (4, .int y), (5, .int z)]) X dX9_wrong_4 (by decide) rfl rfl ?_
  refine v_iload (pc' := 8) (j := 5) X dX9_wrong_6 rfl rfl ?_
  refine v_callS (pc' := 11) X (st := []) (c_X9_noRegister (n := n) (ad := ad) (M := M) (k := y)) k_X9_noRegister w_ml_X9_101 w_st_X9_noRegister (by rw [hR]; exact ⟨Nat.le_of_ble_eq_true rfl, Nat.le_of_ble_eq_true rfl⟩) rfl rfl (Nat.le_of_ble_eq_true rfl) dX9_wrong_8 rfl (⟨Nat.zero_le _, Nat.zero_le _⟩) ?_
  rintro _ _ ⟨rfl, rfl⟩
  refine v_istore (pc' := 13) (lv' := [(7, .int (bP (nrg y))), (6, .int (bP (nrg x))), (0, .ref (ad (0))), (1, .ref (ad (tb i))), (2, .int 24), (3, .int x), (4, .int y), (5, .int z)]) X dX9_wrong_11 (by decide) rfl rfl ?_
  refine v_iload_n (pc' := 14) (i := 2) (j := 4) X dX9_wrong_13 rfl rfl rfl ?_
  refine v_tableIn (off := 308) (tgt := 322) X dX9_wrong_14 (by decide) (by decide) (by decide) (by decide) ?_
  refine v_iload (pc' := 324) (j := 1) X dX9_wrong_322 rfl rfl ?_
  refine v_ifB_ne (pc' := 327) (tgt := 350) X dX9_wrong_324 (by decide) rfl (fun hc_324 => ?_) (fun hc_324 => ?_)
  -- taken 324
  · refine v_iconst (pc' := 351) (v := 1) X dX9_wrong_350 (by decide) rfl ?_
    refine v_goto (pc' := 355) X dX9_wrong_351 (by decide) ?_
    refine v_zreturn X R (by decide) (Nat.zero_le _) (Nat.zero_le _) dX9_wrong_355 ?_
    exact ⟨congrArg (fun q9 => some (Value.int q9)) (bP_t (c := fWrong M (tb i) 24 x y z) (Or.inl (hc_324))).symm, rfl⟩
  -- not taken 324
  · obtain ⟨hx1, hx2⟩ := nrg_not hc_324
    refine v_aload_n (pc' := 328) (i := 1) (j := 3) X dX9_wrong_327 rfl rfl rfl ?_
    refine fg_X9_105 (pc' := 331) X hi dX9_wrong_328 rfl ?_
    refine v_iload_n (pc' := 332) (i := 3) (j := 5) X dX9_wrong_331 rfl rfl rfl ?_
    refine ag_T8 (pc' := 333) X hi (v := M.2 (tb i + 8) (nn x)) (nn x) hx1 (by omega) rfl dX9_wrong_332 rfl ?_
    refine v_callS (pc' := 336) X (st := []) (c_X9_isInt (n := n) (ad := ad) (M := M) (v := M.2 (tb i + 8) (nn x))) k_X9_isInt w_ml_X9_108 w_st_X9_isInt (by rw [hR]; exact ⟨Nat.le_of_ble_eq_true rfl, Nat.le_of_ble_eq_true rfl⟩) rfl rfl (Nat.le_of_ble_eq_true rfl) dX9_wrong_333 rfl (⟨Nat.zero_le _, Nat.zero_le _⟩) ?_
    rintro _ _ ⟨rfl, rfl⟩
    refine v_ifB_eq (pc' := 339) (tgt := 350) X dX9_wrong_336 (by decide) rfl (fun hc_336 => ?_) (fun hc_336 => ?_)
    -- taken 336
    · refine v_iconst (pc' := 351) (v := 1) X dX9_wrong_350 (by decide) rfl ?_
      refine v_goto (pc' := 355) X dX9_wrong_351 (by decide) ?_
      refine v_zreturn X R (by decide) (Nat.zero_le _) (Nat.zero_le _) dX9_wrong_355 ?_
      exact ⟨congrArg (fun q9 => some (Value.int q9)) (bP_t (c := fWrong M (tb i) 24 x y z) (Or.inr (Or.inl (hc_336)))).symm, rfl⟩
    -- not taken 336
    · refine v_aload_n (pc' := 340) (i := 1) (j := 3) X dX9_wrong_339 rfl rfl rfl ?_
      refine fg_X9_105 (pc' := 343) X hi dX9_wrong_340 rfl ?_
      refine v_iload_n (pc' := 344) (i := 3) (j := 5) X dX9_wrong_343 rfl rfl rfl ?_
      refine ag_T8 (pc' := 345) X hi (v := M.2 (tb i + 8) (nn x)) (nn x) hx1 (by omega) rfl dX9_wrong_344 rfl ?_
      refine v_lconst (pc' := 346) (v := 0) X dX9_wrong_345 (by decide) rfl ?_
      refine v_lcmp (pc' := 347) X dX9_wrong_346 rfl ?_
      refine v_lif_ge (pc' := 350) (tgt := 354) X dX9_wrong_347 (by decide) rfl (fun hc_347 => ?_) (fun hc_347 => ?_)
      -- taken 347
      · refine v_iconst (pc' := 355) (v := 0) X dX9_wrong_354 (by decide) rfl ?_
        refine v_zreturn X R (by decide) (Nat.zero_le _) (Nat.zero_le _) dX9_wrong_355 ?_
        exact ⟨congrArg (fun q9 => some (Value.int q9)) (bP_f (c := fWrong M (tb i) 24 x y z) (fun y9 => y9.elim (fun y9 => absurd y9 hc_324) (fun y9 => y9.elim (fun y9 => absurd hc_336 y9) (fun y9 => absurd y9 (Int64.not_lt.mpr hc_347))))).symm, rfl⟩
      -- not taken 347
      · refine v_iconst (pc' := 351) (v := 1) X dX9_wrong_350 (by decide) rfl ?_
        refine v_goto (pc' := 355) X dX9_wrong_351 (by decide) ?_
        refine v_zreturn X R (by decide) (Nat.zero_le _) (Nat.zero_le _) dX9_wrong_355 ?_
        exact ⟨congrArg (fun q9 => some (Value.int q9)) (bP_t (c := fWrong M (tb i) 24 x y z) (Or.inr (Or.inr (hc_347)))).symm, rfl⟩
set_option maxHeartbeats 4000000 in
set_option maxRecDepth 100000 in
theorem c_X9_wrong_25 {l : Launch} {D : va_G} {Y : Nat → ClassId} {zz : Nat → Nat} {n : Nat} {ad : Nat → Nat} {M : vM} {i : Nat} (hi : i < n) {x y z : Int32} : Ct l D Y zz yX9_wrong cX9_wrong 8 (some FieldType.boolean) 1 20 [.ref (ad (0)), .ref (ad (tb i)), .int 25, .int x, .int y, .int z] (wM Y n ad M) 0 0 (fun r w => r = some (.int (bP (fWrong M (tb i) 25 x y z))) ∧ w = wM Y n ad M) := by
  refine v_entry (by decide +kernel) (Nat.le_of_ble_eq_true rfl) ?_
  intro K X R hR hnm hl hD hY hz
  subst hl hD hY hz
  refine v_sub (lv' := [(0, .ref (ad (0))), (1, .ref (ad (tb i))), (2, .int 25), (3, .int x), (4, .int y), (5, .int z)]) [0, 1, 2, 3, 4, 5] rfl ?_
  refine v_iload_n (pc' := 1) (i := 3) (j := 3) X dX9_wrong_0 rfl rfl rfl ?_
  refine v_callS (pc' := 4) X (st := []) (c_X9_noRegister (n := n) (ad := ad) (M := M) (k := x)) k_X9_noRegister w_ml_X9_101 w_st_X9_noRegister (by rw [hR]; exact ⟨Nat.le_of_ble_eq_true rfl, Nat.le_of_ble_eq_true rfl⟩) rfl rfl (Nat.le_of_ble_eq_true rfl) dX9_wrong_1 rfl (⟨Nat.zero_le _, Nat.zero_le _⟩) ?_
  rintro _ _ ⟨rfl, rfl⟩
  refine v_istore (pc' := 6) (lv' := [(6, .int (bP (nrg x))), (0, .ref (ad (0))), (1, .ref (ad (tb i))), (2, .int 25), (3, .int x), (4, .int y), (5, .int z)]) X dX9_wrong_4 (by decide) rfl rfl ?_
  refine v_iload (pc' := 8) (j := 5) X dX9_wrong_6 rfl rfl ?_
  refine v_callS (pc' := 11) X (st := []) (c_X9_noRegister (n := n) (ad := ad) (M := M) (k := y)) k_X9_noRegister w_ml_X9_101 w_st_X9_noRegister (by rw [hR]; exact ⟨Nat.le_of_ble_eq_true rfl, Nat.le_of_ble_eq_true rfl⟩) rfl rfl (Nat.le_of_ble_eq_true rfl) dX9_wrong_8 rfl (⟨Nat.zero_le _, Nat.zero_le _⟩) ?_
  rintro _ _ ⟨rfl, rfl⟩
  refine v_istore (pc' := 13) (lv' := [(7, .int (bP (nrg y))), (6, .int (bP (nrg x))), (0, .ref (ad (0))), (1, .ref (ad (tb i))), (2, .int 25), (3, .int x), (4, .int y), (5, .int z)]) X dX9_wrong_11 (by decide) rfl rfl ?_
  refine v_iload_n (pc' := 14) (i := 2) (j := 4) X dX9_wrong_13 rfl rfl rfl ?_
  refine v_tableIn (off := 342) (tgt := 356) X dX9_wrong_14 (by decide) (by decide) (by decide) (by decide) ?_
  refine v_iload (pc' := 358) (j := 1) X dX9_wrong_356 rfl rfl ?_
  refine v_zreturn X R (bP_nar _) (Nat.zero_le _) (Nat.zero_le _) dX9_wrong_358 ?_
  exact ⟨rfl, rfl⟩
set_option maxHeartbeats 4000000 in
set_option maxRecDepth 100000 in
theorem c_X9_wrong_26 {l : Launch} {D : va_G} {Y : Nat → ClassId} {zz : Nat → Nat} {n : Nat} {ad : Nat → Nat} {M : vM} {i : Nat} (hi : i < n) {x y z : Int32} : Ct l D Y zz yX9_wrong cX9_wrong 8 (some FieldType.boolean) 1 21 [.ref (ad (0)), .ref (ad (tb i)), .int 26, .int x, .int y, .int z] (wM Y n ad M) 0 0 (fun r w => r = some (.int (bP (fWrong M (tb i) 26 x y z))) ∧ w = wM Y n ad M) := by
  refine v_entry (by decide +kernel) (Nat.le_of_ble_eq_true rfl) ?_
  intro K X R hR hnm hl hD hY hz
  subst hl hD hY hz
  refine v_sub (lv' := [(0, .ref (ad (0))), (1, .ref (ad (tb i))), (2, .int 26), (3, .int x), (4, .int y), (5, .int z)]) [0, 1, 2, 3, 4, 5] rfl ?_
  refine v_iload_n (pc' := 1) (i := 3) (j := 3) X dX9_wrong_0 rfl rfl rfl ?_
  refine v_callS (pc' := 4) X (st := []) (c_X9_noRegister (n := n) (ad := ad) (M := M) (k := x)) k_X9_noRegister w_ml_X9_101 w_st_X9_noRegister (by rw [hR]; exact ⟨Nat.le_of_ble_eq_true rfl, Nat.le_of_ble_eq_true rfl⟩) rfl rfl (Nat.le_of_ble_eq_true rfl) dX9_wrong_1 rfl (⟨Nat.zero_le _, Nat.zero_le _⟩) ?_
  rintro _ _ ⟨rfl, rfl⟩
  refine v_istore (pc' := 6) (lv' := [(6, .int (bP (nrg x))), (0, .ref (ad (0))), (1, .ref (ad (tb i))), (2, .int 26), (3, .int x), (4, .int y), (5, .int z)]) X dX9_wrong_4 (by decide) rfl rfl ?_
  refine v_iload (pc' := 8) (j := 5) X dX9_wrong_6 rfl rfl ?_
  refine v_callS (pc' := 11) X (st := []) (c_X9_noRegister (n := n) (ad := ad) (M := M) (k := y)) k_X9_noRegister w_ml_X9_101 w_st_X9_noRegister (by rw [hR]; exact ⟨Nat.le_of_ble_eq_true rfl, Nat.le_of_ble_eq_true rfl⟩) rfl rfl (Nat.le_of_ble_eq_true rfl) dX9_wrong_8 rfl (⟨Nat.zero_le _, Nat.zero_le _⟩) ?_
  rintro _ _ ⟨rfl, rfl⟩
  refine v_istore (pc' := 13) (lv' := [(7, .int (bP (nrg y))), (6, .int (bP (nrg x))), (0, .ref (ad (0))), (1, .ref (ad (tb i))), (2, .int 26), (3, .int x), (4, .int y), (5, .int z)]) X dX9_wrong_11 (by decide) rfl rfl ?_
  refine v_iload_n (pc' := 14) (i := 2) (j := 4) X dX9_wrong_13 rfl rfl rfl ?_
  refine v_tableIn (off := 345) (tgt := 359) X dX9_wrong_14 (by decide) (by decide) (by decide) (by decide) ?_
  refine v_iload (pc' := 361) (j := 1) X dX9_wrong_359 rfl rfl ?_
  refine v_ifB_ne (pc' := 364) (tgt := 376) X dX9_wrong_361 (by decide) rfl (fun hc_361 => ?_) (fun hc_361 => ?_)
  -- taken 361
  · refine v_iconst (pc' := 377) (v := 1) X dX9_wrong_376 (by decide) rfl ?_
    refine v_goto (pc' := 381) X dX9_wrong_377 (by decide) ?_
    refine v_zreturn X R (by decide) (Nat.zero_le _) (Nat.zero_le _) dX9_wrong_381 ?_
    exact ⟨congrArg (fun q9 => some (Value.int q9)) (bP_t (c := fWrong M (tb i) 26 x y z) (Or.inl (hc_361))).symm, rfl⟩
  -- not taken 361
  · obtain ⟨hx1, hx2⟩ := nrg_not hc_361
    refine v_aload_n (pc' := 365) (i := 1) (j := 3) X dX9_wrong_364 rfl rfl rfl ?_
    refine fg_X9_105 (pc' := 368) X hi dX9_wrong_365 rfl ?_
    refine v_iload_n (pc' := 369) (i := 3) (j := 5) X dX9_wrong_368 rfl rfl rfl ?_
    refine ag_T8 (pc' := 370) X hi (v := M.2 (tb i + 8) (nn x)) (nn x) hx1 (by omega) rfl dX9_wrong_369 rfl ?_
    refine v_callS (pc' := 373) X (st := []) (c_X9_isInt (n := n) (ad := ad) (M := M) (v := M.2 (tb i + 8) (nn x))) k_X9_isInt w_ml_X9_108 w_st_X9_isInt (by rw [hR]; exact ⟨Nat.le_of_ble_eq_true rfl, Nat.le_of_ble_eq_true rfl⟩) rfl rfl (Nat.le_of_ble_eq_true rfl) dX9_wrong_370 rfl (⟨Nat.zero_le _, Nat.zero_le _⟩) ?_
    rintro _ _ ⟨rfl, rfl⟩
    refine v_ifB_ne (pc' := 376) (tgt := 380) X dX9_wrong_373 (by decide) rfl (fun hc_373 => ?_) (fun hc_373 => ?_)
    -- taken 373
    · refine v_iconst (pc' := 381) (v := 0) X dX9_wrong_380 (by decide) rfl ?_
      refine v_zreturn X R (by decide) (Nat.zero_le _) (Nat.zero_le _) dX9_wrong_381 ?_
      exact ⟨congrArg (fun q9 => some (Value.int q9)) (bP_f (c := fWrong M (tb i) 26 x y z) (fun y9 => y9.elim (fun y9 => absurd y9 hc_361) (fun y9 => absurd hc_373 y9))).symm, rfl⟩
    -- not taken 373
    · refine v_iconst (pc' := 377) (v := 1) X dX9_wrong_376 (by decide) rfl ?_
      refine v_goto (pc' := 381) X dX9_wrong_377 (by decide) ?_
      refine v_zreturn X R (by decide) (Nat.zero_le _) (Nat.zero_le _) dX9_wrong_381 ?_
      exact ⟨congrArg (fun q9 => some (Value.int q9)) (bP_t (c := fWrong M (tb i) 26 x y z) (Or.inr (hc_373))).symm, rfl⟩
set_option maxHeartbeats 4000000 in
set_option maxRecDepth 100000 in
theorem c_X9_wrong_27 {l : Launch} {D : va_G} {Y : Nat → ClassId} {zz : Nat → Nat} {n : Nat} {ad : Nat → Nat} {M : vM} {i : Nat} (hi : i < n) {x y z : Int32} : Ct l D Y zz yX9_wrong cX9_wrong 8 (some FieldType.boolean) 1 20 [.ref (ad (0)), .ref (ad (tb i)), .int 27, .int x, .int y, .int z] (wM Y n ad M) 0 0 (fun r w => r = some (.int (bP (fWrong M (tb i) 27 x y z))) ∧ w = wM Y n ad M) := by
  refine v_entry (by decide +kernel) (Nat.le_of_ble_eq_true rfl) ?_
  intro K X R hR hnm hl hD hY hz
  subst hl hD hY hz
  refine v_sub (lv' := [(0, .ref (ad (0))), (1, .ref (ad (tb i))), (2, .int 27), (3, .int x), (4, .int y), (5, .int z)]) [0, 1, 2, 3, 4, 5] rfl ?_
  refine v_iload_n (pc' := 1) (i := 3) (j := 3) X dX9_wrong_0 rfl rfl rfl ?_
  refine v_callS (pc' := 4) X (st := []) (c_X9_noRegister (n := n) (ad := ad) (M := M) (k := x)) k_X9_noRegister w_ml_X9_101 w_st_X9_noRegister (by rw [hR]; exact ⟨Nat.le_of_ble_eq_true rfl, Nat.le_of_ble_eq_true rfl⟩) rfl rfl (Nat.le_of_ble_eq_true rfl) dX9_wrong_1 rfl (⟨Nat.zero_le _, Nat.zero_le _⟩) ?_
  rintro _ _ ⟨rfl, rfl⟩
  refine v_istore (pc' := 6) (lv' := [(6, .int (bP (nrg x))), (0, .ref (ad (0))), (1, .ref (ad (tb i))), (2, .int 27), (3, .int x), (4, .int y), (5, .int z)]) X dX9_wrong_4 (by decide) rfl rfl ?_
  refine v_iload (pc' := 8) (j := 5) X dX9_wrong_6 rfl rfl ?_
  refine v_callS (pc' := 11) X (st := []) (c_X9_noRegister (n := n) (ad := ad) (M := M) (k := y)) k_X9_noRegister w_ml_X9_101 w_st_X9_noRegister (by rw [hR]; exact ⟨Nat.le_of_ble_eq_true rfl, Nat.le_of_ble_eq_true rfl⟩) rfl rfl (Nat.le_of_ble_eq_true rfl) dX9_wrong_8 rfl (⟨Nat.zero_le _, Nat.zero_le _⟩) ?_
  rintro _ _ ⟨rfl, rfl⟩
  refine v_istore (pc' := 13) (lv' := [(7, .int (bP (nrg y))), (6, .int (bP (nrg x))), (0, .ref (ad (0))), (1, .ref (ad (tb i))), (2, .int 27), (3, .int x), (4, .int y), (5, .int z)]) X dX9_wrong_11 (by decide) rfl rfl ?_
  refine v_iload_n (pc' := 14) (i := 2) (j := 4) X dX9_wrong_13 rfl rfl rfl ?_
  refine v_tableIn (off := 368) (tgt := 382) X dX9_wrong_14 (by decide) (by decide) (by decide) (by decide) ?_
  refine v_iload_n (pc' := 383) (i := 3) (j := 5) X dX9_wrong_382 rfl rfl rfl ?_
  refine v_callS (pc' := 386) X (st := []) (c_X9_noGlobal (n := n) (ad := ad) (M := M) (k := x)) k_X9_noGlobal w_ml_X9_118 w_st_X9_noGlobal (by rw [hR]; exact ⟨Nat.le_of_ble_eq_true rfl, Nat.le_of_ble_eq_true rfl⟩) rfl rfl (Nat.le_of_ble_eq_true rfl) dX9_wrong_383 rfl (⟨Nat.zero_le _, Nat.zero_le _⟩) ?_
  rintro _ _ ⟨rfl, rfl⟩
  refine v_ifB_ne (pc' := 389) (tgt := 394) X dX9_wrong_386 (by decide) rfl (fun hc_386 => ?_) (fun hc_386 => ?_)
  -- taken 386
  · refine v_iconst (pc' := 395) (v := 1) X dX9_wrong_394 (by decide) rfl ?_
    refine v_goto (pc' := 399) X dX9_wrong_395 (by decide) ?_
    refine v_zreturn X R (by decide) (Nat.zero_le _) (Nat.zero_le _) dX9_wrong_399 ?_
    exact ⟨congrArg (fun q9 => some (Value.int q9)) (bP_t (c := fWrong M (tb i) 27 x y z) (Or.inl (hc_386))).symm, rfl⟩
  -- not taken 386
  · obtain ⟨hx1, hx2⟩ := ngl_not hc_386
    refine v_iload (pc' := 391) (j := 0) X dX9_wrong_389 rfl rfl ?_
    refine v_ifB_eq (pc' := 394) (tgt := 398) X dX9_wrong_391 (by decide) rfl (fun hc_391 => ?_) (fun hc_391 => ?_)
    -- taken 391
    · obtain ⟨hy1, hy2⟩ := nrg_not hc_391
      refine v_iconst (pc' := 399) (v := 0) X dX9_wrong_398 (by decide) rfl ?_
      refine v_zreturn X R (by decide) (Nat.zero_le _) (Nat.zero_le _) dX9_wrong_399 ?_
      exact ⟨congrArg (fun q9 => some (Value.int q9)) (bP_f (c := fWrong M (tb i) 27 x y z) (fun y9 => y9.elim (fun y9 => absurd y9 hc_386) (fun y9 => absurd y9 hc_391))).symm, rfl⟩
    -- not taken 391
    · refine v_iconst (pc' := 395) (v := 1) X dX9_wrong_394 (by decide) rfl ?_
      refine v_goto (pc' := 399) X dX9_wrong_395 (by decide) ?_
      refine v_zreturn X R (by decide) (Nat.zero_le _) (Nat.zero_le _) dX9_wrong_399 ?_
      exact ⟨congrArg (fun q9 => some (Value.int q9)) (bP_t (c := fWrong M (tb i) 27 x y z) (Or.inr (hc_391))).symm, rfl⟩
set_option maxHeartbeats 4000000 in
set_option maxRecDepth 100000 in
theorem c_X9_wrong_28 {l : Launch} {D : va_G} {Y : Nat → ClassId} {zz : Nat → Nat} {n : Nat} {ad : Nat → Nat} {M : vM} {i : Nat} (hi : i < n) {x y z : Int32} : Ct l D Y zz yX9_wrong cX9_wrong 8 (some FieldType.boolean) 1 20 [.ref (ad (0)), .ref (ad (tb i)), .int 28, .int x, .int y, .int z] (wM Y n ad M) 0 0 (fun r w => r = some (.int (bP (fWrong M (tb i) 28 x y z))) ∧ w = wM Y n ad M) := by
  refine v_entry (by decide +kernel) (Nat.le_of_ble_eq_true rfl) ?_
  intro K X R hR hnm hl hD hY hz
  subst hl hD hY hz
  refine v_sub (lv' := [(0, .ref (ad (0))), (1, .ref (ad (tb i))), (2, .int 28), (3, .int x), (4, .int y), (5, .int z)]) [0, 1, 2, 3, 4, 5] rfl ?_
  refine v_iload_n (pc' := 1) (i := 3) (j := 3) X dX9_wrong_0 rfl rfl rfl ?_
  refine v_callS (pc' := 4) X (st := []) (c_X9_noRegister (n := n) (ad := ad) (M := M) (k := x)) k_X9_noRegister w_ml_X9_101 w_st_X9_noRegister (by rw [hR]; exact ⟨Nat.le_of_ble_eq_true rfl, Nat.le_of_ble_eq_true rfl⟩) rfl rfl (Nat.le_of_ble_eq_true rfl) dX9_wrong_1 rfl (⟨Nat.zero_le _, Nat.zero_le _⟩) ?_
  rintro _ _ ⟨rfl, rfl⟩
  refine v_istore (pc' := 6) (lv' := [(6, .int (bP (nrg x))), (0, .ref (ad (0))), (1, .ref (ad (tb i))), (2, .int 28), (3, .int x), (4, .int y), (5, .int z)]) X dX9_wrong_4 (by decide) rfl rfl ?_
  refine v_iload (pc' := 8) (j := 5) X dX9_wrong_6 rfl rfl ?_
  refine v_callS (pc' := 11) X (st := []) (c_X9_noRegister (n := n) (ad := ad) (M := M) (k := y)) k_X9_noRegister w_ml_X9_101 w_st_X9_noRegister (by rw [hR]; exact ⟨Nat.le_of_ble_eq_true rfl, Nat.le_of_ble_eq_true rfl⟩) rfl rfl (Nat.le_of_ble_eq_true rfl) dX9_wrong_8 rfl (⟨Nat.zero_le _, Nat.zero_le _⟩) ?_
  rintro _ _ ⟨rfl, rfl⟩
  refine v_istore (pc' := 13) (lv' := [(7, .int (bP (nrg y))), (6, .int (bP (nrg x))), (0, .ref (ad (0))), (1, .ref (ad (tb i))), (2, .int 28), (3, .int x), (4, .int y), (5, .int z)]) X dX9_wrong_11 (by decide) rfl rfl ?_
  refine v_iload_n (pc' := 14) (i := 2) (j := 4) X dX9_wrong_13 rfl rfl rfl ?_
  refine v_tableIn (off := 386) (tgt := 400) X dX9_wrong_14 (by decide) (by decide) (by decide) (by decide) ?_
  refine v_iload (pc' := 402) (j := 1) X dX9_wrong_400 rfl rfl ?_
  refine v_ifB_ne (pc' := 405) (tgt := 413) X dX9_wrong_402 (by decide) rfl (fun hc_402 => ?_) (fun hc_402 => ?_)
  -- taken 402
  · refine v_iconst (pc' := 414) (v := 1) X dX9_wrong_413 (by decide) rfl ?_
    refine v_goto (pc' := 418) X dX9_wrong_414 (by decide) ?_
    refine v_zreturn X R (by decide) (Nat.zero_le _) (Nat.zero_le _) dX9_wrong_418 ?_
    exact ⟨congrArg (fun q9 => some (Value.int q9)) (bP_t (c := fWrong M (tb i) 28 x y z) (Or.inl (hc_402))).symm, rfl⟩
  -- not taken 402
  · obtain ⟨hx1, hx2⟩ := nrg_not hc_402
    refine v_iload (pc' := 407) (j := 6) X dX9_wrong_405 rfl rfl ?_
    refine v_callS (pc' := 410) X (st := []) (c_X9_noGlobal (n := n) (ad := ad) (M := M) (k := y)) k_X9_noGlobal w_ml_X9_118 w_st_X9_noGlobal (by rw [hR]; exact ⟨Nat.le_of_ble_eq_true rfl, Nat.le_of_ble_eq_true rfl⟩) rfl rfl (Nat.le_of_ble_eq_true rfl) dX9_wrong_407 rfl (⟨Nat.zero_le _, Nat.zero_le _⟩) ?_
    rintro _ _ ⟨rfl, rfl⟩
    refine v_ifB_eq (pc' := 413) (tgt := 417) X dX9_wrong_410 (by decide) rfl (fun hc_410 => ?_) (fun hc_410 => ?_)
    -- taken 410
    · obtain ⟨hy1, hy2⟩ := ngl_not hc_410
      refine v_iconst (pc' := 418) (v := 0) X dX9_wrong_417 (by decide) rfl ?_
      refine v_zreturn X R (by decide) (Nat.zero_le _) (Nat.zero_le _) dX9_wrong_418 ?_
      exact ⟨congrArg (fun q9 => some (Value.int q9)) (bP_f (c := fWrong M (tb i) 28 x y z) (fun y9 => y9.elim (fun y9 => absurd y9 hc_402) (fun y9 => absurd y9 hc_410))).symm, rfl⟩
    -- not taken 410
    · refine v_iconst (pc' := 414) (v := 1) X dX9_wrong_413 (by decide) rfl ?_
      refine v_goto (pc' := 418) X dX9_wrong_414 (by decide) ?_
      refine v_zreturn X R (by decide) (Nat.zero_le _) (Nat.zero_le _) dX9_wrong_418 ?_
      exact ⟨congrArg (fun q9 => some (Value.int q9)) (bP_t (c := fWrong M (tb i) 28 x y z) (Or.inr (hc_410))).symm, rfl⟩
set_option maxHeartbeats 4000000 in
set_option maxRecDepth 100000 in
theorem c_X9_wrong_29 {l : Launch} {D : va_G} {Y : Nat → ClassId} {zz : Nat → Nat} {n : Nat} {ad : Nat → Nat} {M : vM} {i : Nat} (hi : i < n) {x y z : Int32} : Ct l D Y zz yX9_wrong cX9_wrong 8 (some FieldType.boolean) 1 20 [.ref (ad (0)), .ref (ad (tb i)), .int 29, .int x, .int y, .int z] (wM Y n ad M) 0 0 (fun r w => r = some (.int (bP (fWrong M (tb i) 29 x y z))) ∧ w = wM Y n ad M) := by
  refine v_entry (by decide +kernel) (Nat.le_of_ble_eq_true rfl) ?_
  intro K X R hR hnm hl hD hY hz
  subst hl hD hY hz
  refine v_sub (lv' := [(0, .ref (ad (0))), (1, .ref (ad (tb i))), (2, .int 29), (3, .int x), (4, .int y), (5, .int z)]) [0, 1, 2, 3, 4, 5] rfl ?_
  refine v_iload_n (pc' := 1) (i := 3) (j := 3) X dX9_wrong_0 rfl rfl rfl ?_
  refine v_callS (pc' := 4) X (st := []) (c_X9_noRegister (n := n) (ad := ad) (M := M) (k := x)) k_X9_noRegister w_ml_X9_101 w_st_X9_noRegister (by rw [hR]; exact ⟨Nat.le_of_ble_eq_true rfl, Nat.le_of_ble_eq_true rfl⟩) rfl rfl (Nat.le_of_ble_eq_true rfl) dX9_wrong_1 rfl (⟨Nat.zero_le _, Nat.zero_le _⟩) ?_
  rintro _ _ ⟨rfl, rfl⟩
  refine v_istore (pc' := 6) (lv' := [(6, .int (bP (nrg x))), (0, .ref (ad (0))), (1, .ref (ad (tb i))), (2, .int 29), (3, .int x), (4, .int y), (5, .int z)]) X dX9_wrong_4 (by decide) rfl rfl ?_
  refine v_iload (pc' := 8) (j := 5) X dX9_wrong_6 rfl rfl ?_
  refine v_callS (pc' := 11) X (st := []) (c_X9_noRegister (n := n) (ad := ad) (M := M) (k := y)) k_X9_noRegister w_ml_X9_101 w_st_X9_noRegister (by rw [hR]; exact ⟨Nat.le_of_ble_eq_true rfl, Nat.le_of_ble_eq_true rfl⟩) rfl rfl (Nat.le_of_ble_eq_true rfl) dX9_wrong_8 rfl (⟨Nat.zero_le _, Nat.zero_le _⟩) ?_
  rintro _ _ ⟨rfl, rfl⟩
  refine v_istore (pc' := 13) (lv' := [(7, .int (bP (nrg y))), (6, .int (bP (nrg x))), (0, .ref (ad (0))), (1, .ref (ad (tb i))), (2, .int 29), (3, .int x), (4, .int y), (5, .int z)]) X dX9_wrong_11 (by decide) rfl rfl ?_
  refine v_iload_n (pc' := 14) (i := 2) (j := 4) X dX9_wrong_13 rfl rfl rfl ?_
  refine v_tableIn (off := 133) (tgt := 147) X dX9_wrong_14 (by decide) (by decide) (by decide) (by decide) ?_
  refine v_iload (pc' := 149) (j := 1) X dX9_wrong_147 rfl rfl ?_
  refine v_ifB_ne (pc' := 152) (tgt := 177) X dX9_wrong_149 (by decide) rfl (fun hc_149 => ?_) (fun hc_149 => ?_)
  -- taken 149
  · refine v_iconst (pc' := 178) (v := 1) X dX9_wrong_177 (by decide) rfl ?_
    refine v_goto (pc' := 182) X dX9_wrong_178 (by decide) ?_
    refine v_zreturn X R (by decide) (Nat.zero_le _) (Nat.zero_le _) dX9_wrong_182 ?_
    exact ⟨congrArg (fun q9 => some (Value.int q9)) (bP_t (c := fWrong M (tb i) 29 x y z) (Or.inl (hc_149))).symm, rfl⟩
  -- not taken 149
  · obtain ⟨hx1, hx2⟩ := nrg_not hc_149
    refine v_iload (pc' := 154) (j := 0) X dX9_wrong_152 rfl rfl ?_
    refine v_ifB_ne (pc' := 157) (tgt := 177) X dX9_wrong_154 (by decide) rfl (fun hc_154 => ?_) (fun hc_154 => ?_)
    -- taken 154
    · refine v_iconst (pc' := 178) (v := 1) X dX9_wrong_177 (by decide) rfl ?_
      refine v_goto (pc' := 182) X dX9_wrong_178 (by decide) ?_
      refine v_zreturn X R (by decide) (Nat.zero_le _) (Nat.zero_le _) dX9_wrong_182 ?_
      exact ⟨congrArg (fun q9 => some (Value.int q9)) (bP_t (c := fWrong M (tb i) 29 x y z) (Or.inr (hc_154))).symm, rfl⟩
    -- not taken 154
    · obtain ⟨hy1, hy2⟩ := nrg_not hc_154
      refine v_iload_n (pc' := 158) (i := 2) (j := 4) X dX9_wrong_157 rfl rfl rfl ?_
      refine v_bipush (pc' := 160) (v := 7) X dX9_wrong_158 (by decide) rfl ?_
      refine v_icmp_eq (pc' := 163) (tgt := 169) X dX9_wrong_160 (by decide) rfl (fun hc_160 => absurd hc_160 (by decide)) (fun _ => ?_)
      refine v_iload_n (pc' := 164) (i := 2) (j := 4) X dX9_wrong_163 rfl rfl rfl ?_
      refine v_bipush (pc' := 166) (v := 12) X dX9_wrong_164 (by decide) rfl ?_
      refine v_icmp_ne (pc' := 169) (tgt := 181) X dX9_wrong_166 (by decide) rfl (fun _ => ?_) (fun hc_166 => absurd hc_166 (by decide))
      refine v_iconst (pc' := 182) (v := 0) X dX9_wrong_181 (by decide) rfl ?_
      refine v_zreturn X R (by decide) (Nat.zero_le _) (Nat.zero_le _) dX9_wrong_182 ?_
      exact ⟨congrArg (fun q9 => some (Value.int q9)) (bP_f (c := fWrong M (tb i) 29 x y z) (fun y9 => y9.elim (fun y9 => absurd y9 hc_149) (fun y9 => absurd y9 hc_154))).symm, rfl⟩
