/-! THE CLASS: FAULTS BEFORE -/
theorem sw_3_10 (x : Int32) : x = 3 ∨ x = 4 ∨ x = 5 ∨ x = 6 ∨ x = 7 ∨ x = 8 ∨ x = 9 ∨ x = 10 ∨ (x.toInt < 3 ∨ 10 < x.toInt) := by
  by_cases h1 : x.toInt < 3
  · exact Or.inr (Or.inr (Or.inr (Or.inr (Or.inr (Or.inr (Or.inr (Or.inr (Or.inl h1))))))))
  · by_cases h2 : 10 < x.toInt
    · exact Or.inr (Or.inr (Or.inr (Or.inr (Or.inr (Or.inr (Or.inr (Or.inr (Or.inr h2))))))))
    · have h3 : x.toInt = 3 ∨ x.toInt = 4 ∨ x.toInt = 5 ∨ x.toInt = 6 ∨ x.toInt = 7 ∨ x.toInt = 8 ∨ x.toInt = 9 ∨ x.toInt = 10 := by omega
      rcases h3 with h3 | h3 | h3 | h3 | h3 | h3 | h3 | h3
      · have e9 : x = 3 := Int32.toInt_inj.mp (h3.trans (by decide))
        subst e9; decide
      · have e9 : x = 4 := Int32.toInt_inj.mp (h3.trans (by decide))
        subst e9; decide
      · have e9 : x = 5 := Int32.toInt_inj.mp (h3.trans (by decide))
        subst e9; decide
      · have e9 : x = 6 := Int32.toInt_inj.mp (h3.trans (by decide))
        subst e9; decide
      · have e9 : x = 7 := Int32.toInt_inj.mp (h3.trans (by decide))
        subst e9; decide
      · have e9 : x = 8 := Int32.toInt_inj.mp (h3.trans (by decide))
        subst e9; decide
      · have e9 : x = 9 := Int32.toInt_inj.mp (h3.trans (by decide))
        subst e9; decide
      · have e9 : x = 10 := Int32.toInt_inj.mp (h3.trans (by decide))
        subst e9; decide
theorem sw_1_9 (x : Int32) : x = 1 ∨ x = 2 ∨ x = 3 ∨ x = 4 ∨ x = 5 ∨ x = 6 ∨ x = 7 ∨ x = 8 ∨ x = 9 ∨ (x.toInt < 1 ∨ 9 < x.toInt) := by
  by_cases h1 : x.toInt < 1
  · exact Or.inr (Or.inr (Or.inr (Or.inr (Or.inr (Or.inr (Or.inr (Or.inr (Or.inr (Or.inl h1)))))))))
  · by_cases h2 : 9 < x.toInt
    · exact Or.inr (Or.inr (Or.inr (Or.inr (Or.inr (Or.inr (Or.inr (Or.inr (Or.inr (Or.inr h2)))))))))
    · have h3 : x.toInt = 1 ∨ x.toInt = 2 ∨ x.toInt = 3 ∨ x.toInt = 4 ∨ x.toInt = 5 ∨ x.toInt = 6 ∨ x.toInt = 7 ∨ x.toInt = 8 ∨ x.toInt = 9 := by omega
      rcases h3 with h3 | h3 | h3 | h3 | h3 | h3 | h3 | h3 | h3
      · have e9 : x = 1 := Int32.toInt_inj.mp (h3.trans (by decide))
        subst e9; decide
      · have e9 : x = 2 := Int32.toInt_inj.mp (h3.trans (by decide))
        subst e9; decide
      · have e9 : x = 3 := Int32.toInt_inj.mp (h3.trans (by decide))
        subst e9; decide
      · have e9 : x = 4 := Int32.toInt_inj.mp (h3.trans (by decide))
        subst e9; decide
      · have e9 : x = 5 := Int32.toInt_inj.mp (h3.trans (by decide))
        subst e9; decide
      · have e9 : x = 6 := Int32.toInt_inj.mp (h3.trans (by decide))
        subst e9; decide
      · have e9 : x = 7 := Int32.toInt_inj.mp (h3.trans (by decide))
        subst e9; decide
      · have e9 : x = 8 := Int32.toInt_inj.mp (h3.trans (by decide))
        subst e9; decide
      · have e9 : x = 9 := Int32.toInt_inj.mp (h3.trans (by decide))
        subst e9; decide
theorem sw_6_8 (x : Int32) : x = 6 ∨ x = 7 ∨ x = 8 ∨ (x.toInt < 6 ∨ 8 < x.toInt) := by
  by_cases h1 : x.toInt < 6
  · exact Or.inr (Or.inr (Or.inr (Or.inl h1)))
  · by_cases h2 : 8 < x.toInt
    · exact Or.inr (Or.inr (Or.inr (Or.inr h2)))
    · have h3 : x.toInt = 6 ∨ x.toInt = 7 ∨ x.toInt = 8 := by omega
      rcases h3 with h3 | h3 | h3
      · have e9 : x = 6 := Int32.toInt_inj.mp (h3.trans (by decide))
        subst e9; decide
      · have e9 : x = 7 := Int32.toInt_inj.mp (h3.trans (by decide))
        subst e9; decide
      · have e9 : x = 8 := Int32.toInt_inj.mp (h3.trans (by decide))
        subst e9; decide
theorem sw_10_30 (x : Int32) : x = 10 ∨ x = 11 ∨ x = 12 ∨ x = 13 ∨ x = 14 ∨ x = 15 ∨ x = 16 ∨ x = 17 ∨ x = 18 ∨ x = 19 ∨ x = 20 ∨ x = 21 ∨ x = 22 ∨ x = 23 ∨ x = 24 ∨ x = 25 ∨ x = 26 ∨ x = 27 ∨ x = 28 ∨ x = 29 ∨ x = 30 ∨ (x.toInt < 10 ∨ 30 < x.toInt) := by
  by_cases h1 : x.toInt < 10
  · exact Or.inr (Or.inr (Or.inr (Or.inr (Or.inr (Or.inr (Or.inr (Or.inr (Or.inr (Or.inr (Or.inr (Or.inr (Or.inr (Or.inr (Or.inr (Or.inr (Or.inr (Or.inr (Or.inr (Or.inr (Or.inr (Or.inl h1)))))))))))))))))))))
  · by_cases h2 : 30 < x.toInt
    · exact Or.inr (Or.inr (Or.inr (Or.inr (Or.inr (Or.inr (Or.inr (Or.inr (Or.inr (Or.inr (Or.inr (Or.inr (Or.inr (Or.inr (Or.inr (Or.inr (Or.inr (Or.inr (Or.inr (Or.inr (Or.inr (Or.inr h2)))))))))))))))))))))
    · have h3 : x.toInt = 10 ∨ x.toInt = 11 ∨ x.toInt = 12 ∨ x.toInt = 13 ∨ x.toInt = 14 ∨ x.toInt = 15 ∨ x.toInt = 16 ∨ x.toInt = 17 ∨ x.toInt = 18 ∨ x.toInt = 19 ∨ x.toInt = 20 ∨ x.toInt = 21 ∨ x.toInt = 22 ∨ x.toInt = 23 ∨ x.toInt = 24 ∨ x.toInt = 25 ∨ x.toInt = 26 ∨ x.toInt = 27 ∨ x.toInt = 28 ∨ x.toInt = 29 ∨ x.toInt = 30 := by omega
      rcases h3 with h3 | h3 | h3 | h3 | h3 | h3 | h3 | h3 | h3 | h3 | h3 | h3 | h3 | h3 | h3 | h3 | h3 | h3 | h3 | h3 | h3
      · have e9 : x = 10 := Int32.toInt_inj.mp (h3.trans (by decide))
        subst e9; decide
      · have e9 : x = 11 := Int32.toInt_inj.mp (h3.trans (by decide))
        subst e9; decide
      · have e9 : x = 12 := Int32.toInt_inj.mp (h3.trans (by decide))
        subst e9; decide
      · have e9 : x = 13 := Int32.toInt_inj.mp (h3.trans (by decide))
        subst e9; decide
      · have e9 : x = 14 := Int32.toInt_inj.mp (h3.trans (by decide))
        subst e9; decide
      · have e9 : x = 15 := Int32.toInt_inj.mp (h3.trans (by decide))
        subst e9; decide
      · have e9 : x = 16 := Int32.toInt_inj.mp (h3.trans (by decide))
        subst e9; decide
      · have e9 : x = 17 := Int32.toInt_inj.mp (h3.trans (by decide))
        subst e9; decide
      · have e9 : x = 18 := Int32.toInt_inj.mp (h3.trans (by decide))
        subst e9; decide
      · have e9 : x = 19 := Int32.toInt_inj.mp (h3.trans (by decide))
        subst e9; decide
      · have e9 : x = 20 := Int32.toInt_inj.mp (h3.trans (by decide))
        subst e9; decide
      · have e9 : x = 21 := Int32.toInt_inj.mp (h3.trans (by decide))
        subst e9; decide
      · have e9 : x = 22 := Int32.toInt_inj.mp (h3.trans (by decide))
        subst e9; decide
      · have e9 : x = 23 := Int32.toInt_inj.mp (h3.trans (by decide))
        subst e9; decide
      · have e9 : x = 24 := Int32.toInt_inj.mp (h3.trans (by decide))
        subst e9; decide
      · have e9 : x = 25 := Int32.toInt_inj.mp (h3.trans (by decide))
        subst e9; decide
      · have e9 : x = 26 := Int32.toInt_inj.mp (h3.trans (by decide))
        subst e9; decide
      · have e9 : x = 27 := Int32.toInt_inj.mp (h3.trans (by decide))
        subst e9; decide
      · have e9 : x = 28 := Int32.toInt_inj.mp (h3.trans (by decide))
        subst e9; decide
      · have e9 : x = 29 := Int32.toInt_inj.mp (h3.trans (by decide))
        subst e9; decide
      · have e9 : x = 30 := Int32.toInt_inj.mp (h3.trans (by decide))
        subst e9; decide
noncomputable def gN1 (M : vM) (b : Nat) (wh : Int32) : Prop := if wh = 2 then 0 ≤ M.1 b 13 else if wh = 1 then ¬ 0 ≤ M.1 b 13 else True
def gN2 (M : vM) (b : Nat) (m : Int32) : Prop := if m = 10 then M.1 b 12 = 0 else if m = 6 ∨ m = 7 ∨ m = 8 then M.1 b 12 < 24 else if m = 3 then M.1 b 13 = M.1 b 12 - 1 else if m = 9 then 0 < M.1 b 12 ∧ M.1 b 13 ≠ M.1 b 12 - 1 else True
theorem gN2_10 {M : vM} {b : Nat} : gN2 M b 10 = (M.1 b 12 = 0) := if_pos rfl
theorem gN2_6 {M : vM} {b : Nat} : gN2 M b 6 = (M.1 b 12 < 24) := by unfold gN2; rw [if_neg (by decide), if_pos (Or.inl rfl)]
theorem gN2_7 {M : vM} {b : Nat} : gN2 M b 7 = (M.1 b 12 < 24) := by unfold gN2; rw [if_neg (by decide), if_pos (Or.inr (Or.inl rfl))]
theorem gN2_8 {M : vM} {b : Nat} : gN2 M b 8 = (M.1 b 12 < 24) := by unfold gN2; rw [if_neg (by decide), if_pos (Or.inr (Or.inr rfl))]
theorem gN2_3 {M : vM} {b : Nat} : gN2 M b 3 = (M.1 b 13 = M.1 b 12 - 1) := by unfold gN2; rw [if_neg (by decide), if_neg (by decide), if_pos rfl]
theorem gN2_9 {M : vM} {b : Nat} : gN2 M b 9 = (0 < M.1 b 12 ∧ M.1 b 13 ≠ M.1 b 12 - 1) := by unfold gN2; rw [if_neg (by decide), if_neg (by decide), if_neg (by decide), if_pos rfl]
theorem gN2_x {M : vM} {b : Nat} {m : Int32} (h10 : m ≠ 10) (h6 : ¬ (m = 6 ∨ m = 7 ∨ m = 8)) (h3 : m ≠ 3) (h9 : m ≠ 9) : gN2 M b m = True := by unfold gN2; rw [if_neg h10, if_neg h6, if_neg h3, if_neg h9]
theorem gN2_o {M : vM} {b : Nat} {m : Int32} (h : m.toInt < 3 ∨ 10 < m.toInt) : gN2 M b m = True := gN2_x (fun z9 => by subst z9; revert h; decide) (fun z9 => by rcases z9 with z9 | z9 | z9 <;> (subst z9; revert h; decide)) (fun z9 => by subst z9; revert h; decide) (fun z9 => by subst z9; revert h; decide)
noncomputable def gNest (M : vM) (b : Nat) (wh m : Int32) : Prop := gN1 M b wh ∧ gN2 M b m
noncomputable def gCall (M : vM) (b e o : Nat) : Prop := if o = 10 then M.1 b 11 < 40 else if o = 11 then (if e = 0 then 0 else M.1 (b + 13) (e - 1)) < M.1 b 11 else True
noncomputable def gFault (M : vM) (b e : Nat) (num x y z : Int32) : Int32 :=
  if num < 0 ∨ 30 ≤ num then -1 else
    @ite _ (gFits M b (nn num) x y z) (Classical.propDecidable _) (@ite _ (gNest M b (opW.getD (nn num) 0) (opM.getD (nn num) 0)) (Classical.propDecidable _) (@ite _ (gCall M b e (nn num)) (Classical.propDecidable _) 0 (-2)) (-4)) (-1)
theorem i32_30 : (30 : Int32).toInt = 30 := by decide
theorem op_of {x : Int32} (h1 : ¬ x < 0) (h2 : x < 30) : x = nI (nn x) ∧ nn x < 30 := by
  obtain ⟨j, hj, rfl⟩ := nI_of h1
  rw [nn_nI hj]
  refine ⟨rfl, ?_⟩
  exact lt_of_nI (b := 30) h2 hj (by decide)
set_option maxHeartbeats 4000000 in
set_option maxRecDepth 100000 in
theorem c_X7_nestsFit {l : Launch} {D : va_G} {Y : Nat → ClassId} {zz : Nat → Nat} {n s cp cq : Nat} {ad : Nat → Nat} {M : vM} {i : Nat} (hi : i < n) (h16 : i < 16) {o : Nat} (ho : o < 30) {wh m : Int32} (hwh : opW.getD o 0 = wh) (hm : opM.getD o 0 = m)  : Ct l D Y zz yX7_nestsFit cX7_nestsFit 3 (some FieldType.boolean) 1 20 [.ref (ad (tb i)), .ref (zz o)] (wK Y n s cp cq ad M) 0 0 (fun r w => r = some (.int (bP (gNest M (tb i) wh m))) ∧ w = wK Y n s cp cq ad M) := by
  refine v_entry (by decide +kernel) (Nat.le_of_ble_eq_true rfl) ?_
  intro K X R hR hnm hl hD hY hz
  subst hl hD hY hz
  refine v_sub (lv' := [(0, .ref (ad (tb i))), (1, .ref (kZ K o))]) [0, 1] rfl ?_
  refine v_aload_n (pc' := 1) (i := 0) (j := 0) X dX7_nestsFit_0 rfl rfl rfl ?_
  refine v_callVN (pc' := 4) X (st := []) (c_X6_isInTransaction (M := M) hi h16) k_X6_isInTransaction n_ml_X7_112 w_im_X6_isInTransaction w_se_X6_X6_isInTransaction (rw_X6 hi h16) (by rw [hR]; exact ⟨Nat.le_of_ble_eq_true rfl, Nat.le_of_ble_eq_true rfl⟩) rfl rfl (Nat.le_of_ble_eq_true rfl) dX7_nestsFit_1 rfl (⟨Nat.zero_le _, Nat.zero_le _⟩) ?_
  rintro _ _ ⟨rfl, rfl⟩
  refine v_istore_n (pc' := 5) (i := 2) (lv' := [(2, .int (bP (0 ≤ M.1 (tb i) 13))), (0, .ref (ad (tb i))), (1, .ref (kZ K o))]) X dX7_nestsFit_4 rfl (by decide) rfl rfl ?_
  refine v_aload_n (pc' := 6) (i := 1) (j := 2) X dX7_nestsFit_5 rfl rfl rfl ?_
  refine v_ofgetN (pc' := 9) (v := .int wh) X (by rw [← hwh]; exact zE_whr X ho) n_fl_X7_254 rfl dX7_nestsFit_6 rfl ?_
  refine v_iconst (pc' := 10) (v := 2) X dX7_nestsFit_9 (by decide) rfl ?_
  refine v_icmp_ne (pc' := 13) (tgt := 17) X dX7_nestsFit_10 (by decide) rfl (fun hc_10 => ?_) (fun hc_10 => ?_)
  -- taken 10
  · refine v_aload_n (pc' := 18) (i := 1) (j := 2) X dX7_nestsFit_17 rfl rfl rfl ?_
    refine v_ofgetN (pc' := 21) (v := .int wh) X (by rw [← hwh]; exact zE_whr X ho) n_fl_X7_254 rfl dX7_nestsFit_18 rfl ?_
    refine v_iconst (pc' := 22) (v := 1) X dX7_nestsFit_21 (by decide) rfl ?_
    refine v_icmp_ne (pc' := 25) (tgt := 31) X dX7_nestsFit_22 (by decide) rfl (fun hc_22 => ?_) (fun hc_22 => ?_)
    -- taken 22
    · have hW : gN1 M (tb i) wh := by unfold gN1; rw [if_neg hc_10, if_neg hc_22]; trivial
      refine v_gets (pc' := 34) X X.zM w_fl_X7_183 rfl dX7_nestsFit_31 rfl ?_
      refine v_aload_n (pc' := 35) (i := 1) (j := 2) X dX7_nestsFit_34 rfl rfl rfl ?_
      refine v_callU (pc' := 38) X (st := [.ref (kZ K 31)]) (c_ordinal (o := o) ho) k_Jx29ce0_ordinal_8abf5 w_ml_X7_188 w_sm_596 w_se_X4_Jx29ce0_ordinal_8abf5 w_im_Jx29ce0_ordinal_8abf5 rfl (by decide +kernel) (zE_recv X ho) (by rw [hR]; exact ⟨Nat.le_of_ble_eq_true rfl, Nat.le_of_ble_eq_true rfl⟩) rfl rfl (Nat.le_of_ble_eq_true rfl) dX7_nestsFit_35 rfl (⟨Nat.zero_le _, Nat.zero_le _⟩) ?_
      rintro _ _ ⟨rfl, rfl⟩
      refine v_ti (pc' := 39) X X.zMt (o) rfl ho (by decide) (v := .int m) (by show Value.int (opM.getD o 0) = _; rw [hm]) dX7_nestsFit_38 rfl ?_
      rcases sw_3_10 m with rfl | rfl | rfl | rfl | rfl | rfl | rfl | rfl | hsw
      · refine v_tableIn (off := 73) (tgt := 112) X dX7_nestsFit_39 (by decide) (by decide) (by decide) (by decide) ?_
        refine v_aload_n (pc' := 113) (i := 0) (j := 1) X dX7_nestsFit_112 rfl rfl rfl ?_
        refine fk_X7_257 (pc' := 116) X hi h16 (v := M.1 (tb i) 13) rfl dX7_nestsFit_113 rfl ?_
        refine v_aload_n (pc' := 117) (i := 0) (j := 1) X dX7_nestsFit_116 rfl rfl rfl ?_
        refine fk_X7_97 (pc' := 120) X hi h16 (v := M.1 (tb i) 12) rfl dX7_nestsFit_117 rfl ?_
        refine v_iconst (pc' := 121) (v := 1) X dX7_nestsFit_120 (by decide) rfl ?_
        refine v_isub (pc' := 122) X dX7_nestsFit_121 rfl ?_
        refine v_icmp_ne (pc' := 125) (tgt := 129) X dX7_nestsFit_122 (by decide) rfl (fun hc_122 => ?_) (fun hc_122 => ?_)
        -- taken 122
        · refine v_iconst (pc' := 130) (v := 0) X dX7_nestsFit_129 (by decide) rfl ?_
          refine v_zreturn X R (by decide) (Nat.zero_le _) (Nat.zero_le _) dX7_nestsFit_130 ?_
          exact ⟨by rw [bP_f (fun z9 => hc_122 (by have h9 := z9.2; rw [gN2_3] at h9; exact h9))], rfl⟩
        -- not taken 122
        · refine v_iconst (pc' := 126) (v := 1) X dX7_nestsFit_125 (by decide) rfl ?_
          refine v_goto (pc' := 130) X dX7_nestsFit_126 (by decide) ?_
          refine v_zreturn X R (by decide) (Nat.zero_le _) (Nat.zero_le _) dX7_nestsFit_130 ?_
          exact ⟨by rw [bP_t ⟨hW, by rw [gN2_3]; exact hc_122⟩], rfl⟩
      · refine v_tableIn (off := 118) (tgt := 157) X dX7_nestsFit_39 (by decide) (by decide) (by decide) (by decide) ?_
        refine v_iconst (pc' := 158) (v := 1) X dX7_nestsFit_157 (by decide) rfl ?_
        refine v_zreturn X R (by decide) (Nat.zero_le _) (Nat.zero_le _) dX7_nestsFit_158 ?_
        exact ⟨by rw [bP_t ⟨hW, by rw [gN2_x (by decide) (by decide) (by decide) (by decide)]; trivial⟩], rfl⟩
      · refine v_tableIn (off := 118) (tgt := 157) X dX7_nestsFit_39 (by decide) (by decide) (by decide) (by decide) ?_
        refine v_iconst (pc' := 158) (v := 1) X dX7_nestsFit_157 (by decide) rfl ?_
        refine v_zreturn X R (by decide) (Nat.zero_le _) (Nat.zero_le _) dX7_nestsFit_158 ?_
        exact ⟨by rw [bP_t ⟨hW, by rw [gN2_x (by decide) (by decide) (by decide) (by decide)]; trivial⟩], rfl⟩
      · refine v_tableIn (off := 58) (tgt := 97) X dX7_nestsFit_39 (by decide) (by decide) (by decide) (by decide) ?_
        refine v_aload_n (pc' := 98) (i := 0) (j := 1) X dX7_nestsFit_97 rfl rfl rfl ?_
        refine fk_X7_97 (pc' := 101) X hi h16 (v := M.1 (tb i) 12) rfl dX7_nestsFit_98 rfl ?_
        refine v_bipush (pc' := 103) (v := 24) X dX7_nestsFit_101 (by decide) rfl ?_
        refine v_icmp_ge (pc' := 106) (tgt := 110) X dX7_nestsFit_103 (by decide) rfl (fun hc_103 => ?_) (fun hc_103 => ?_)
        -- taken 103
        · refine v_iconst (pc' := 111) (v := 0) X dX7_nestsFit_110 (by decide) rfl ?_
          refine v_zreturn X R (by decide) (Nat.zero_le _) (Nat.zero_le _) dX7_nestsFit_111 ?_
          exact ⟨by rw [bP_f (fun z9 => by have h9 := z9.2; rw [gN2_6] at h9; exact absurd hc_103 (Int32.not_le.mpr h9))], rfl⟩
        -- not taken 103
        · refine v_iconst (pc' := 107) (v := 1) X dX7_nestsFit_106 (by decide) rfl ?_
          refine v_goto (pc' := 111) X dX7_nestsFit_107 (by decide) ?_
          refine v_zreturn X R (by decide) (Nat.zero_le _) (Nat.zero_le _) dX7_nestsFit_111 ?_
          exact ⟨by rw [bP_t ⟨hW, by rw [gN2_6]; exact Int32.not_le.mp hc_103⟩], rfl⟩
      · refine v_tableIn (off := 58) (tgt := 97) X dX7_nestsFit_39 (by decide) (by decide) (by decide) (by decide) ?_
        refine v_aload_n (pc' := 98) (i := 0) (j := 1) X dX7_nestsFit_97 rfl rfl rfl ?_
        refine fk_X7_97 (pc' := 101) X hi h16 (v := M.1 (tb i) 12) rfl dX7_nestsFit_98 rfl ?_
        refine v_bipush (pc' := 103) (v := 24) X dX7_nestsFit_101 (by decide) rfl ?_
        refine v_icmp_ge (pc' := 106) (tgt := 110) X dX7_nestsFit_103 (by decide) rfl (fun hc_103 => ?_) (fun hc_103 => ?_)
        -- taken 103
        · refine v_iconst (pc' := 111) (v := 0) X dX7_nestsFit_110 (by decide) rfl ?_
          refine v_zreturn X R (by decide) (Nat.zero_le _) (Nat.zero_le _) dX7_nestsFit_111 ?_
          exact ⟨by rw [bP_f (fun z9 => by have h9 := z9.2; rw [gN2_7] at h9; exact absurd hc_103 (Int32.not_le.mpr h9))], rfl⟩
        -- not taken 103
        · refine v_iconst (pc' := 107) (v := 1) X dX7_nestsFit_106 (by decide) rfl ?_
          refine v_goto (pc' := 111) X dX7_nestsFit_107 (by decide) ?_
          refine v_zreturn X R (by decide) (Nat.zero_le _) (Nat.zero_le _) dX7_nestsFit_111 ?_
          exact ⟨by rw [bP_t ⟨hW, by rw [gN2_7]; exact Int32.not_le.mp hc_103⟩], rfl⟩
      · refine v_tableIn (off := 58) (tgt := 97) X dX7_nestsFit_39 (by decide) (by decide) (by decide) (by decide) ?_
        refine v_aload_n (pc' := 98) (i := 0) (j := 1) X dX7_nestsFit_97 rfl rfl rfl ?_
        refine fk_X7_97 (pc' := 101) X hi h16 (v := M.1 (tb i) 12) rfl dX7_nestsFit_98 rfl ?_
        refine v_bipush (pc' := 103) (v := 24) X dX7_nestsFit_101 (by decide) rfl ?_
        refine v_icmp_ge (pc' := 106) (tgt := 110) X dX7_nestsFit_103 (by decide) rfl (fun hc_103 => ?_) (fun hc_103 => ?_)
        -- taken 103
        · refine v_iconst (pc' := 111) (v := 0) X dX7_nestsFit_110 (by decide) rfl ?_
          refine v_zreturn X R (by decide) (Nat.zero_le _) (Nat.zero_le _) dX7_nestsFit_111 ?_
          exact ⟨by rw [bP_f (fun z9 => by have h9 := z9.2; rw [gN2_8] at h9; exact absurd hc_103 (Int32.not_le.mpr h9))], rfl⟩
        -- not taken 103
        · refine v_iconst (pc' := 107) (v := 1) X dX7_nestsFit_106 (by decide) rfl ?_
          refine v_goto (pc' := 111) X dX7_nestsFit_107 (by decide) ?_
          refine v_zreturn X R (by decide) (Nat.zero_le _) (Nat.zero_le _) dX7_nestsFit_111 ?_
          exact ⟨by rw [bP_t ⟨hW, by rw [gN2_8]; exact Int32.not_le.mp hc_103⟩], rfl⟩
      · refine v_tableIn (off := 92) (tgt := 131) X dX7_nestsFit_39 (by decide) (by decide) (by decide) (by decide) ?_
        refine v_aload_n (pc' := 132) (i := 0) (j := 1) X dX7_nestsFit_131 rfl rfl rfl ?_
        refine fk_X7_97 (pc' := 135) X hi h16 (v := M.1 (tb i) 12) rfl dX7_nestsFit_132 rfl ?_
        refine v_if_le (pc' := 138) (tgt := 155) X dX7_nestsFit_135 (by decide) rfl (fun hc_135 => ?_) (fun hc_135 => ?_)
        -- taken 135
        · refine v_iconst (pc' := 156) (v := 0) X dX7_nestsFit_155 (by decide) rfl ?_
          refine v_zreturn X R (by decide) (Nat.zero_le _) (Nat.zero_le _) dX7_nestsFit_156 ?_
          exact ⟨by rw [bP_f (fun z9 => by have h9 := z9.2; rw [gN2_9] at h9; exact absurd hc_135 (Int32.not_le.mpr h9.1))], rfl⟩
        -- not taken 135
        · refine v_aload_n (pc' := 139) (i := 0) (j := 1) X dX7_nestsFit_138 rfl rfl rfl ?_
          refine fk_X7_257 (pc' := 142) X hi h16 (v := M.1 (tb i) 13) rfl dX7_nestsFit_139 rfl ?_
          refine v_aload_n (pc' := 143) (i := 0) (j := 1) X dX7_nestsFit_142 rfl rfl rfl ?_
          refine fk_X7_97 (pc' := 146) X hi h16 (v := M.1 (tb i) 12) rfl dX7_nestsFit_143 rfl ?_
          refine v_iconst (pc' := 147) (v := 1) X dX7_nestsFit_146 (by decide) rfl ?_
          refine v_isub (pc' := 148) X dX7_nestsFit_147 rfl ?_
          refine v_icmp_eq (pc' := 151) (tgt := 155) X dX7_nestsFit_148 (by decide) rfl (fun hc_148 => ?_) (fun hc_148 => ?_)
          -- taken 148
          · refine v_iconst (pc' := 156) (v := 0) X dX7_nestsFit_155 (by decide) rfl ?_
            refine v_zreturn X R (by decide) (Nat.zero_le _) (Nat.zero_le _) dX7_nestsFit_156 ?_
            exact ⟨by rw [bP_f (fun z9 => by have h9 := z9.2; rw [gN2_9] at h9; exact h9.2 hc_148)], rfl⟩
          -- not taken 148
          · refine v_iconst (pc' := 152) (v := 1) X dX7_nestsFit_151 (by decide) rfl ?_
            refine v_goto (pc' := 156) X dX7_nestsFit_152 (by decide) ?_
            refine v_zreturn X R (by decide) (Nat.zero_le _) (Nat.zero_le _) dX7_nestsFit_156 ?_
            exact ⟨by rw [bP_t ⟨hW, by rw [gN2_9]; exact ⟨Int32.not_le.mp hc_135, hc_148⟩⟩], rfl⟩
      · refine v_tableIn (off := 45) (tgt := 84) X dX7_nestsFit_39 (by decide) (by decide) (by decide) (by decide) ?_
        refine v_aload_n (pc' := 85) (i := 0) (j := 1) X dX7_nestsFit_84 rfl rfl rfl ?_
        refine fk_X7_97 (pc' := 88) X hi h16 (v := M.1 (tb i) 12) rfl dX7_nestsFit_85 rfl ?_
        refine v_if_ne (pc' := 91) (tgt := 95) X dX7_nestsFit_88 (by decide) rfl (fun hc_88 => ?_) (fun hc_88 => ?_)
        -- taken 88
        · refine v_iconst (pc' := 96) (v := 0) X dX7_nestsFit_95 (by decide) rfl ?_
          refine v_zreturn X R (by decide) (Nat.zero_le _) (Nat.zero_le _) dX7_nestsFit_96 ?_
          exact ⟨by rw [bP_f (fun z9 => hc_88 (by have h9 := z9.2; rw [gN2_10] at h9; exact h9))], rfl⟩
        -- not taken 88
        · refine v_iconst (pc' := 92) (v := 1) X dX7_nestsFit_91 (by decide) rfl ?_
          refine v_goto (pc' := 96) X dX7_nestsFit_92 (by decide) ?_
          refine v_zreturn X R (by decide) (Nat.zero_le _) (Nat.zero_le _) dX7_nestsFit_96 ?_
          exact ⟨by rw [bP_t ⟨hW, by rw [gN2_10]; exact hc_88⟩], rfl⟩
      · refine v_tableOut (tgt := 157) X dX7_nestsFit_39 hsw (by decide) ?_
        refine v_iconst (pc' := 158) (v := 1) X dX7_nestsFit_157 (by decide) rfl ?_
        refine v_zreturn X R (by decide) (Nat.zero_le _) (Nat.zero_le _) dX7_nestsFit_158 ?_
        exact ⟨by rw [bP_t ⟨hW, by rw [gN2_o hsw]; trivial⟩], rfl⟩
    -- not taken 22
    · refine v_iload_n (pc' := 26) (i := 2) (j := 0) X dX7_nestsFit_25 rfl rfl rfl ?_
      refine v_ifB_eq (pc' := 29) (tgt := 31) X dX7_nestsFit_26 (by decide) rfl (fun hc_26 => ?_) (fun hc_26 => ?_)
      -- taken 26
      · have hW : gN1 M (tb i) wh := by unfold gN1; rw [if_neg hc_10, if_pos hc_22]; exact hc_26
        refine v_gets (pc' := 34) X X.zM w_fl_X7_183 rfl dX7_nestsFit_31 rfl ?_
        refine v_aload_n (pc' := 35) (i := 1) (j := 2) X dX7_nestsFit_34 rfl rfl rfl ?_
        refine v_callU (pc' := 38) X (st := [.ref (kZ K 31)]) (c_ordinal (o := o) ho) k_Jx29ce0_ordinal_8abf5 w_ml_X7_188 w_sm_596 w_se_X4_Jx29ce0_ordinal_8abf5 w_im_Jx29ce0_ordinal_8abf5 rfl (by decide +kernel) (zE_recv X ho) (by rw [hR]; exact ⟨Nat.le_of_ble_eq_true rfl, Nat.le_of_ble_eq_true rfl⟩) rfl rfl (Nat.le_of_ble_eq_true rfl) dX7_nestsFit_35 rfl (⟨Nat.zero_le _, Nat.zero_le _⟩) ?_
        rintro _ _ ⟨rfl, rfl⟩
        refine v_ti (pc' := 39) X X.zMt (o) rfl ho (by decide) (v := .int m) (by show Value.int (opM.getD o 0) = _; rw [hm]) dX7_nestsFit_38 rfl ?_
        rcases sw_3_10 m with rfl | rfl | rfl | rfl | rfl | rfl | rfl | rfl | hsw
        · refine v_tableIn (off := 73) (tgt := 112) X dX7_nestsFit_39 (by decide) (by decide) (by decide) (by decide) ?_
          refine v_aload_n (pc' := 113) (i := 0) (j := 1) X dX7_nestsFit_112 rfl rfl rfl ?_
          refine fk_X7_257 (pc' := 116) X hi h16 (v := M.1 (tb i) 13) rfl dX7_nestsFit_113 rfl ?_
          refine v_aload_n (pc' := 117) (i := 0) (j := 1) X dX7_nestsFit_116 rfl rfl rfl ?_
          refine fk_X7_97 (pc' := 120) X hi h16 (v := M.1 (tb i) 12) rfl dX7_nestsFit_117 rfl ?_
          refine v_iconst (pc' := 121) (v := 1) X dX7_nestsFit_120 (by decide) rfl ?_
          refine v_isub (pc' := 122) X dX7_nestsFit_121 rfl ?_
          refine v_icmp_ne (pc' := 125) (tgt := 129) X dX7_nestsFit_122 (by decide) rfl (fun hc_122 => ?_) (fun hc_122 => ?_)
          -- taken 122
          · refine v_iconst (pc' := 130) (v := 0) X dX7_nestsFit_129 (by decide) rfl ?_
            refine v_zreturn X R (by decide) (Nat.zero_le _) (Nat.zero_le _) dX7_nestsFit_130 ?_
            exact ⟨by rw [bP_f (fun z9 => hc_122 (by have h9 := z9.2; rw [gN2_3] at h9; exact h9))], rfl⟩
          -- not taken 122
          · refine v_iconst (pc' := 126) (v := 1) X dX7_nestsFit_125 (by decide) rfl ?_
            refine v_goto (pc' := 130) X dX7_nestsFit_126 (by decide) ?_
            refine v_zreturn X R (by decide) (Nat.zero_le _) (Nat.zero_le _) dX7_nestsFit_130 ?_
            exact ⟨by rw [bP_t ⟨hW, by rw [gN2_3]; exact hc_122⟩], rfl⟩
        · refine v_tableIn (off := 118) (tgt := 157) X dX7_nestsFit_39 (by decide) (by decide) (by decide) (by decide) ?_
          refine v_iconst (pc' := 158) (v := 1) X dX7_nestsFit_157 (by decide) rfl ?_
          refine v_zreturn X R (by decide) (Nat.zero_le _) (Nat.zero_le _) dX7_nestsFit_158 ?_
          exact ⟨by rw [bP_t ⟨hW, by rw [gN2_x (by decide) (by decide) (by decide) (by decide)]; trivial⟩], rfl⟩
        · refine v_tableIn (off := 118) (tgt := 157) X dX7_nestsFit_39 (by decide) (by decide) (by decide) (by decide) ?_
          refine v_iconst (pc' := 158) (v := 1) X dX7_nestsFit_157 (by decide) rfl ?_
          refine v_zreturn X R (by decide) (Nat.zero_le _) (Nat.zero_le _) dX7_nestsFit_158 ?_
          exact ⟨by rw [bP_t ⟨hW, by rw [gN2_x (by decide) (by decide) (by decide) (by decide)]; trivial⟩], rfl⟩
        · refine v_tableIn (off := 58) (tgt := 97) X dX7_nestsFit_39 (by decide) (by decide) (by decide) (by decide) ?_
          refine v_aload_n (pc' := 98) (i := 0) (j := 1) X dX7_nestsFit_97 rfl rfl rfl ?_
          refine fk_X7_97 (pc' := 101) X hi h16 (v := M.1 (tb i) 12) rfl dX7_nestsFit_98 rfl ?_
          refine v_bipush (pc' := 103) (v := 24) X dX7_nestsFit_101 (by decide) rfl ?_
          refine v_icmp_ge (pc' := 106) (tgt := 110) X dX7_nestsFit_103 (by decide) rfl (fun hc_103 => ?_) (fun hc_103 => ?_)
          -- taken 103
          · refine v_iconst (pc' := 111) (v := 0) X dX7_nestsFit_110 (by decide) rfl ?_
            refine v_zreturn X R (by decide) (Nat.zero_le _) (Nat.zero_le _) dX7_nestsFit_111 ?_
            exact ⟨by rw [bP_f (fun z9 => by have h9 := z9.2; rw [gN2_6] at h9; exact absurd hc_103 (Int32.not_le.mpr h9))], rfl⟩
          -- not taken 103
          · refine v_iconst (pc' := 107) (v := 1) X dX7_nestsFit_106 (by decide) rfl ?_
            refine v_goto (pc' := 111) X dX7_nestsFit_107 (by decide) ?_
            refine v_zreturn X R (by decide) (Nat.zero_le _) (Nat.zero_le _) dX7_nestsFit_111 ?_
            exact ⟨by rw [bP_t ⟨hW, by rw [gN2_6]; exact Int32.not_le.mp hc_103⟩], rfl⟩
        · refine v_tableIn (off := 58) (tgt := 97) X dX7_nestsFit_39 (by decide) (by decide) (by decide) (by decide) ?_
          refine v_aload_n (pc' := 98) (i := 0) (j := 1) X dX7_nestsFit_97 rfl rfl rfl ?_
          refine fk_X7_97 (pc' := 101) X hi h16 (v := M.1 (tb i) 12) rfl dX7_nestsFit_98 rfl ?_
          refine v_bipush (pc' := 103) (v := 24) X dX7_nestsFit_101 (by decide) rfl ?_
          refine v_icmp_ge (pc' := 106) (tgt := 110) X dX7_nestsFit_103 (by decide) rfl (fun hc_103 => ?_) (fun hc_103 => ?_)
          -- taken 103
          · refine v_iconst (pc' := 111) (v := 0) X dX7_nestsFit_110 (by decide) rfl ?_
            refine v_zreturn X R (by decide) (Nat.zero_le _) (Nat.zero_le _) dX7_nestsFit_111 ?_
            exact ⟨by rw [bP_f (fun z9 => by have h9 := z9.2; rw [gN2_7] at h9; exact absurd hc_103 (Int32.not_le.mpr h9))], rfl⟩
          -- not taken 103
          · refine v_iconst (pc' := 107) (v := 1) X dX7_nestsFit_106 (by decide) rfl ?_
            refine v_goto (pc' := 111) X dX7_nestsFit_107 (by decide) ?_
            refine v_zreturn X R (by decide) (Nat.zero_le _) (Nat.zero_le _) dX7_nestsFit_111 ?_
            exact ⟨by rw [bP_t ⟨hW, by rw [gN2_7]; exact Int32.not_le.mp hc_103⟩], rfl⟩
        · refine v_tableIn (off := 58) (tgt := 97) X dX7_nestsFit_39 (by decide) (by decide) (by decide) (by decide) ?_
          refine v_aload_n (pc' := 98) (i := 0) (j := 1) X dX7_nestsFit_97 rfl rfl rfl ?_
          refine fk_X7_97 (pc' := 101) X hi h16 (v := M.1 (tb i) 12) rfl dX7_nestsFit_98 rfl ?_
          refine v_bipush (pc' := 103) (v := 24) X dX7_nestsFit_101 (by decide) rfl ?_
          refine v_icmp_ge (pc' := 106) (tgt := 110) X dX7_nestsFit_103 (by decide) rfl (fun hc_103 => ?_) (fun hc_103 => ?_)
          -- taken 103
          · refine v_iconst (pc' := 111) (v := 0) X dX7_nestsFit_110 (by decide) rfl ?_
            refine v_zreturn X R (by decide) (Nat.zero_le _) (Nat.zero_le _) dX7_nestsFit_111 ?_
            exact ⟨by rw [bP_f (fun z9 => by have h9 := z9.2; rw [gN2_8] at h9; exact absurd hc_103 (Int32.not_le.mpr h9))], rfl⟩
          -- not taken 103
          · refine v_iconst (pc' := 107) (v := 1) X dX7_nestsFit_106 (by decide) rfl ?_
            refine v_goto (pc' := 111) X dX7_nestsFit_107 (by decide) ?_
            refine v_zreturn X R (by decide) (Nat.zero_le _) (Nat.zero_le _) dX7_nestsFit_111 ?_
            exact ⟨by rw [bP_t ⟨hW, by rw [gN2_8]; exact Int32.not_le.mp hc_103⟩], rfl⟩
        · refine v_tableIn (off := 92) (tgt := 131) X dX7_nestsFit_39 (by decide) (by decide) (by decide) (by decide) ?_
          refine v_aload_n (pc' := 132) (i := 0) (j := 1) X dX7_nestsFit_131 rfl rfl rfl ?_
          refine fk_X7_97 (pc' := 135) X hi h16 (v := M.1 (tb i) 12) rfl dX7_nestsFit_132 rfl ?_
          refine v_if_le (pc' := 138) (tgt := 155) X dX7_nestsFit_135 (by decide) rfl (fun hc_135 => ?_) (fun hc_135 => ?_)
          -- taken 135
          · refine v_iconst (pc' := 156) (v := 0) X dX7_nestsFit_155 (by decide) rfl ?_
            refine v_zreturn X R (by decide) (Nat.zero_le _) (Nat.zero_le _) dX7_nestsFit_156 ?_
            exact ⟨by rw [bP_f (fun z9 => by have h9 := z9.2; rw [gN2_9] at h9; exact absurd hc_135 (Int32.not_le.mpr h9.1))], rfl⟩
          -- not taken 135
          · refine v_aload_n (pc' := 139) (i := 0) (j := 1) X dX7_nestsFit_138 rfl rfl rfl ?_
            refine fk_X7_257 (pc' := 142) X hi h16 (v := M.1 (tb i) 13) rfl dX7_nestsFit_139 rfl ?_
            refine v_aload_n (pc' := 143) (i := 0) (j := 1) X dX7_nestsFit_142 rfl rfl rfl ?_
            refine fk_X7_97 (pc' := 146) X hi h16 (v := M.1 (tb i) 12) rfl dX7_nestsFit_143 rfl ?_
            refine v_iconst (pc' := 147) (v := 1) X dX7_nestsFit_146 (by decide) rfl ?_
            refine v_isub (pc' := 148) X dX7_nestsFit_147 rfl ?_
            refine v_icmp_eq (pc' := 151) (tgt := 155) X dX7_nestsFit_148 (by decide) rfl (fun hc_148 => ?_) (fun hc_148 => ?_)
            -- taken 148
            · refine v_iconst (pc' := 156) (v := 0) X dX7_nestsFit_155 (by decide) rfl ?_
              refine v_zreturn X R (by decide) (Nat.zero_le _) (Nat.zero_le _) dX7_nestsFit_156 ?_
              exact ⟨by rw [bP_f (fun z9 => by have h9 := z9.2; rw [gN2_9] at h9; exact h9.2 hc_148)], rfl⟩
            -- not taken 148
            · refine v_iconst (pc' := 152) (v := 1) X dX7_nestsFit_151 (by decide) rfl ?_
              refine v_goto (pc' := 156) X dX7_nestsFit_152 (by decide) ?_
              refine v_zreturn X R (by decide) (Nat.zero_le _) (Nat.zero_le _) dX7_nestsFit_156 ?_
              exact ⟨by rw [bP_t ⟨hW, by rw [gN2_9]; exact ⟨Int32.not_le.mp hc_135, hc_148⟩⟩], rfl⟩
        · refine v_tableIn (off := 45) (tgt := 84) X dX7_nestsFit_39 (by decide) (by decide) (by decide) (by decide) ?_
          refine v_aload_n (pc' := 85) (i := 0) (j := 1) X dX7_nestsFit_84 rfl rfl rfl ?_
          refine fk_X7_97 (pc' := 88) X hi h16 (v := M.1 (tb i) 12) rfl dX7_nestsFit_85 rfl ?_
          refine v_if_ne (pc' := 91) (tgt := 95) X dX7_nestsFit_88 (by decide) rfl (fun hc_88 => ?_) (fun hc_88 => ?_)
          -- taken 88
          · refine v_iconst (pc' := 96) (v := 0) X dX7_nestsFit_95 (by decide) rfl ?_
            refine v_zreturn X R (by decide) (Nat.zero_le _) (Nat.zero_le _) dX7_nestsFit_96 ?_
            exact ⟨by rw [bP_f (fun z9 => hc_88 (by have h9 := z9.2; rw [gN2_10] at h9; exact h9))], rfl⟩
          -- not taken 88
          · refine v_iconst (pc' := 92) (v := 1) X dX7_nestsFit_91 (by decide) rfl ?_
            refine v_goto (pc' := 96) X dX7_nestsFit_92 (by decide) ?_
            refine v_zreturn X R (by decide) (Nat.zero_le _) (Nat.zero_le _) dX7_nestsFit_96 ?_
            exact ⟨by rw [bP_t ⟨hW, by rw [gN2_10]; exact hc_88⟩], rfl⟩
        · refine v_tableOut (tgt := 157) X dX7_nestsFit_39 hsw (by decide) ?_
          refine v_iconst (pc' := 158) (v := 1) X dX7_nestsFit_157 (by decide) rfl ?_
          refine v_zreturn X R (by decide) (Nat.zero_le _) (Nat.zero_le _) dX7_nestsFit_158 ?_
          exact ⟨by rw [bP_t ⟨hW, by rw [gN2_o hsw]; trivial⟩], rfl⟩
      -- not taken 26
      · refine v_iconst (pc' := 30) (v := 0) X dX7_nestsFit_29 (by decide) rfl ?_
        refine v_zreturn X R (by decide) (Nat.zero_le _) (Nat.zero_le _) dX7_nestsFit_30 ?_
        exact ⟨by rw [bP_f (fun z9 => by have h9 := z9.1; unfold gN1 at h9; rw [if_neg hc_10, if_pos hc_22] at h9; exact h9 hc_26)], rfl⟩
  -- not taken 10
  · refine v_iload_n (pc' := 14) (i := 2) (j := 0) X dX7_nestsFit_13 rfl rfl rfl ?_
    refine v_ifB_eq (pc' := 17) (tgt := 29) X dX7_nestsFit_14 (by decide) rfl (fun hc_14 => ?_) (fun hc_14 => ?_)
    -- taken 14
    · refine v_iconst (pc' := 30) (v := 0) X dX7_nestsFit_29 (by decide) rfl ?_
      refine v_zreturn X R (by decide) (Nat.zero_le _) (Nat.zero_le _) dX7_nestsFit_30 ?_
      exact ⟨by rw [bP_f (fun z9 => hc_14 (by have h9 := z9.1; unfold gN1 at h9; rw [if_pos hc_10] at h9; exact h9))], rfl⟩
    -- not taken 14
    · refine v_aload_n (pc' := 18) (i := 1) (j := 2) X dX7_nestsFit_17 rfl rfl rfl ?_
      refine v_ofgetN (pc' := 21) (v := .int wh) X (by rw [← hwh]; exact zE_whr X ho) n_fl_X7_254 rfl dX7_nestsFit_18 rfl ?_
      refine v_iconst (pc' := 22) (v := 1) X dX7_nestsFit_21 (by decide) rfl ?_
      refine v_icmp_ne (pc' := 25) (tgt := 31) X dX7_nestsFit_22 (by decide) rfl (fun _ => ?_) (fun hc_22 => absurd hc_22 (by rw [hc_10]; decide))
      have hW : gN1 M (tb i) wh := by unfold gN1; rw [if_pos hc_10]; exact hc_14
      refine v_gets (pc' := 34) X X.zM w_fl_X7_183 rfl dX7_nestsFit_31 rfl ?_
      refine v_aload_n (pc' := 35) (i := 1) (j := 2) X dX7_nestsFit_34 rfl rfl rfl ?_
      refine v_callU (pc' := 38) X (st := [.ref (kZ K 31)]) (c_ordinal (o := o) ho) k_Jx29ce0_ordinal_8abf5 w_ml_X7_188 w_sm_596 w_se_X4_Jx29ce0_ordinal_8abf5 w_im_Jx29ce0_ordinal_8abf5 rfl (by decide +kernel) (zE_recv X ho) (by rw [hR]; exact ⟨Nat.le_of_ble_eq_true rfl, Nat.le_of_ble_eq_true rfl⟩) rfl rfl (Nat.le_of_ble_eq_true rfl) dX7_nestsFit_35 rfl (⟨Nat.zero_le _, Nat.zero_le _⟩) ?_
      rintro _ _ ⟨rfl, rfl⟩
      refine v_ti (pc' := 39) X X.zMt (o) rfl ho (by decide) (v := .int m) (by show Value.int (opM.getD o 0) = _; rw [hm]) dX7_nestsFit_38 rfl ?_
      rcases sw_3_10 m with rfl | rfl | rfl | rfl | rfl | rfl | rfl | rfl | hsw
      · refine v_tableIn (off := 73) (tgt := 112) X dX7_nestsFit_39 (by decide) (by decide) (by decide) (by decide) ?_
        refine v_aload_n (pc' := 113) (i := 0) (j := 1) X dX7_nestsFit_112 rfl rfl rfl ?_
        refine fk_X7_257 (pc' := 116) X hi h16 (v := M.1 (tb i) 13) rfl dX7_nestsFit_113 rfl ?_
        refine v_aload_n (pc' := 117) (i := 0) (j := 1) X dX7_nestsFit_116 rfl rfl rfl ?_
        refine fk_X7_97 (pc' := 120) X hi h16 (v := M.1 (tb i) 12) rfl dX7_nestsFit_117 rfl ?_
        refine v_iconst (pc' := 121) (v := 1) X dX7_nestsFit_120 (by decide) rfl ?_
        refine v_isub (pc' := 122) X dX7_nestsFit_121 rfl ?_
        refine v_icmp_ne (pc' := 125) (tgt := 129) X dX7_nestsFit_122 (by decide) rfl (fun hc_122 => ?_) (fun hc_122 => ?_)
        -- taken 122
        · refine v_iconst (pc' := 130) (v := 0) X dX7_nestsFit_129 (by decide) rfl ?_
          refine v_zreturn X R (by decide) (Nat.zero_le _) (Nat.zero_le _) dX7_nestsFit_130 ?_
          exact ⟨by rw [bP_f (fun z9 => hc_122 (by have h9 := z9.2; rw [gN2_3] at h9; exact h9))], rfl⟩
        -- not taken 122
        · refine v_iconst (pc' := 126) (v := 1) X dX7_nestsFit_125 (by decide) rfl ?_
          refine v_goto (pc' := 130) X dX7_nestsFit_126 (by decide) ?_
          refine v_zreturn X R (by decide) (Nat.zero_le _) (Nat.zero_le _) dX7_nestsFit_130 ?_
          exact ⟨by rw [bP_t ⟨hW, by rw [gN2_3]; exact hc_122⟩], rfl⟩
      · refine v_tableIn (off := 118) (tgt := 157) X dX7_nestsFit_39 (by decide) (by decide) (by decide) (by decide) ?_
        refine v_iconst (pc' := 158) (v := 1) X dX7_nestsFit_157 (by decide) rfl ?_
        refine v_zreturn X R (by decide) (Nat.zero_le _) (Nat.zero_le _) dX7_nestsFit_158 ?_
        exact ⟨by rw [bP_t ⟨hW, by rw [gN2_x (by decide) (by decide) (by decide) (by decide)]; trivial⟩], rfl⟩
      · refine v_tableIn (off := 118) (tgt := 157) X dX7_nestsFit_39 (by decide) (by decide) (by decide) (by decide) ?_
        refine v_iconst (pc' := 158) (v := 1) X dX7_nestsFit_157 (by decide) rfl ?_
        refine v_zreturn X R (by decide) (Nat.zero_le _) (Nat.zero_le _) dX7_nestsFit_158 ?_
        exact ⟨by rw [bP_t ⟨hW, by rw [gN2_x (by decide) (by decide) (by decide) (by decide)]; trivial⟩], rfl⟩
      · refine v_tableIn (off := 58) (tgt := 97) X dX7_nestsFit_39 (by decide) (by decide) (by decide) (by decide) ?_
        refine v_aload_n (pc' := 98) (i := 0) (j := 1) X dX7_nestsFit_97 rfl rfl rfl ?_
        refine fk_X7_97 (pc' := 101) X hi h16 (v := M.1 (tb i) 12) rfl dX7_nestsFit_98 rfl ?_
        refine v_bipush (pc' := 103) (v := 24) X dX7_nestsFit_101 (by decide) rfl ?_
        refine v_icmp_ge (pc' := 106) (tgt := 110) X dX7_nestsFit_103 (by decide) rfl (fun hc_103 => ?_) (fun hc_103 => ?_)
        -- taken 103
        · refine v_iconst (pc' := 111) (v := 0) X dX7_nestsFit_110 (by decide) rfl ?_
          refine v_zreturn X R (by decide) (Nat.zero_le _) (Nat.zero_le _) dX7_nestsFit_111 ?_
          exact ⟨by rw [bP_f (fun z9 => by have h9 := z9.2; rw [gN2_6] at h9; exact absurd hc_103 (Int32.not_le.mpr h9))], rfl⟩
        -- not taken 103
        · refine v_iconst (pc' := 107) (v := 1) X dX7_nestsFit_106 (by decide) rfl ?_
          refine v_goto (pc' := 111) X dX7_nestsFit_107 (by decide) ?_
          refine v_zreturn X R (by decide) (Nat.zero_le _) (Nat.zero_le _) dX7_nestsFit_111 ?_
          exact ⟨by rw [bP_t ⟨hW, by rw [gN2_6]; exact Int32.not_le.mp hc_103⟩], rfl⟩
      · refine v_tableIn (off := 58) (tgt := 97) X dX7_nestsFit_39 (by decide) (by decide) (by decide) (by decide) ?_
        refine v_aload_n (pc' := 98) (i := 0) (j := 1) X dX7_nestsFit_97 rfl rfl rfl ?_
        refine fk_X7_97 (pc' := 101) X hi h16 (v := M.1 (tb i) 12) rfl dX7_nestsFit_98 rfl ?_
        refine v_bipush (pc' := 103) (v := 24) X dX7_nestsFit_101 (by decide) rfl ?_
        refine v_icmp_ge (pc' := 106) (tgt := 110) X dX7_nestsFit_103 (by decide) rfl (fun hc_103 => ?_) (fun hc_103 => ?_)
        -- taken 103
        · refine v_iconst (pc' := 111) (v := 0) X dX7_nestsFit_110 (by decide) rfl ?_
          refine v_zreturn X R (by decide) (Nat.zero_le _) (Nat.zero_le _) dX7_nestsFit_111 ?_
          exact ⟨by rw [bP_f (fun z9 => by have h9 := z9.2; rw [gN2_7] at h9; exact absurd hc_103 (Int32.not_le.mpr h9))], rfl⟩
        -- not taken 103
        · refine v_iconst (pc' := 107) (v := 1) X dX7_nestsFit_106 (by decide) rfl ?_
          refine v_goto (pc' := 111) X dX7_nestsFit_107 (by decide) ?_
          refine v_zreturn X R (by decide) (Nat.zero_le _) (Nat.zero_le _) dX7_nestsFit_111 ?_
          exact ⟨by rw [bP_t ⟨hW, by rw [gN2_7]; exact Int32.not_le.mp hc_103⟩], rfl⟩
      · refine v_tableIn (off := 58) (tgt := 97) X dX7_nestsFit_39 (by decide) (by decide) (by decide) (by decide) ?_
        refine v_aload_n (pc' := 98) (i := 0) (j := 1) X dX7_nestsFit_97 rfl rfl rfl ?_
        refine fk_X7_97 (pc' := 101) X hi h16 (v := M.1 (tb i) 12) rfl dX7_nestsFit_98 rfl ?_
        refine v_bipush (pc' := 103) (v := 24) X dX7_nestsFit_101 (by decide) rfl ?_
        refine v_icmp_ge (pc' := 106) (tgt := 110) X dX7_nestsFit_103 (by decide) rfl (fun hc_103 => ?_) (fun hc_103 => ?_)
        -- taken 103
        · refine v_iconst (pc' := 111) (v := 0) X dX7_nestsFit_110 (by decide) rfl ?_
          refine v_zreturn X R (by decide) (Nat.zero_le _) (Nat.zero_le _) dX7_nestsFit_111 ?_
          exact ⟨by rw [bP_f (fun z9 => by have h9 := z9.2; rw [gN2_8] at h9; exact absurd hc_103 (Int32.not_le.mpr h9))], rfl⟩
        -- not taken 103
        · refine v_iconst (pc' := 107) (v := 1) X dX7_nestsFit_106 (by decide) rfl ?_
          refine v_goto (pc' := 111) X dX7_nestsFit_107 (by decide) ?_
          refine v_zreturn X R (by decide) (Nat.zero_le _) (Nat.zero_le _) dX7_nestsFit_111 ?_
          exact ⟨by rw [bP_t ⟨hW, by rw [gN2_8]; exact Int32.not_le.mp hc_103⟩], rfl⟩
      · refine v_tableIn (off := 92) (tgt := 131) X dX7_nestsFit_39 (by decide) (by decide) (by decide) (by decide) ?_
        refine v_aload_n (pc' := 132) (i := 0) (j := 1) X dX7_nestsFit_131 rfl rfl rfl ?_
        refine fk_X7_97 (pc' := 135) X hi h16 (v := M.1 (tb i) 12) rfl dX7_nestsFit_132 rfl ?_
        refine v_if_le (pc' := 138) (tgt := 155) X dX7_nestsFit_135 (by decide) rfl (fun hc_135 => ?_) (fun hc_135 => ?_)
        -- taken 135
        · refine v_iconst (pc' := 156) (v := 0) X dX7_nestsFit_155 (by decide) rfl ?_
          refine v_zreturn X R (by decide) (Nat.zero_le _) (Nat.zero_le _) dX7_nestsFit_156 ?_
          exact ⟨by rw [bP_f (fun z9 => by have h9 := z9.2; rw [gN2_9] at h9; exact absurd hc_135 (Int32.not_le.mpr h9.1))], rfl⟩
        -- not taken 135
        · refine v_aload_n (pc' := 139) (i := 0) (j := 1) X dX7_nestsFit_138 rfl rfl rfl ?_
          refine fk_X7_257 (pc' := 142) X hi h16 (v := M.1 (tb i) 13) rfl dX7_nestsFit_139 rfl ?_
          refine v_aload_n (pc' := 143) (i := 0) (j := 1) X dX7_nestsFit_142 rfl rfl rfl ?_
          refine fk_X7_97 (pc' := 146) X hi h16 (v := M.1 (tb i) 12) rfl dX7_nestsFit_143 rfl ?_
          refine v_iconst (pc' := 147) (v := 1) X dX7_nestsFit_146 (by decide) rfl ?_
          refine v_isub (pc' := 148) X dX7_nestsFit_147 rfl ?_
          refine v_icmp_eq (pc' := 151) (tgt := 155) X dX7_nestsFit_148 (by decide) rfl (fun hc_148 => ?_) (fun hc_148 => ?_)
          -- taken 148
          · refine v_iconst (pc' := 156) (v := 0) X dX7_nestsFit_155 (by decide) rfl ?_
            refine v_zreturn X R (by decide) (Nat.zero_le _) (Nat.zero_le _) dX7_nestsFit_156 ?_
            exact ⟨by rw [bP_f (fun z9 => by have h9 := z9.2; rw [gN2_9] at h9; exact h9.2 hc_148)], rfl⟩
          -- not taken 148
          · refine v_iconst (pc' := 152) (v := 1) X dX7_nestsFit_151 (by decide) rfl ?_
            refine v_goto (pc' := 156) X dX7_nestsFit_152 (by decide) ?_
            refine v_zreturn X R (by decide) (Nat.zero_le _) (Nat.zero_le _) dX7_nestsFit_156 ?_
            exact ⟨by rw [bP_t ⟨hW, by rw [gN2_9]; exact ⟨Int32.not_le.mp hc_135, hc_148⟩⟩], rfl⟩
      · refine v_tableIn (off := 45) (tgt := 84) X dX7_nestsFit_39 (by decide) (by decide) (by decide) (by decide) ?_
        refine v_aload_n (pc' := 85) (i := 0) (j := 1) X dX7_nestsFit_84 rfl rfl rfl ?_
        refine fk_X7_97 (pc' := 88) X hi h16 (v := M.1 (tb i) 12) rfl dX7_nestsFit_85 rfl ?_
        refine v_if_ne (pc' := 91) (tgt := 95) X dX7_nestsFit_88 (by decide) rfl (fun hc_88 => ?_) (fun hc_88 => ?_)
        -- taken 88
        · refine v_iconst (pc' := 96) (v := 0) X dX7_nestsFit_95 (by decide) rfl ?_
          refine v_zreturn X R (by decide) (Nat.zero_le _) (Nat.zero_le _) dX7_nestsFit_96 ?_
          exact ⟨by rw [bP_f (fun z9 => hc_88 (by have h9 := z9.2; rw [gN2_10] at h9; exact h9))], rfl⟩
        -- not taken 88
        · refine v_iconst (pc' := 92) (v := 1) X dX7_nestsFit_91 (by decide) rfl ?_
          refine v_goto (pc' := 96) X dX7_nestsFit_92 (by decide) ?_
          refine v_zreturn X R (by decide) (Nat.zero_le _) (Nat.zero_le _) dX7_nestsFit_96 ?_
          exact ⟨by rw [bP_t ⟨hW, by rw [gN2_10]; exact hc_88⟩], rfl⟩
      · refine v_tableOut (tgt := 157) X dX7_nestsFit_39 hsw (by decide) ?_
        refine v_iconst (pc' := 158) (v := 1) X dX7_nestsFit_157 (by decide) rfl ?_
        refine v_zreturn X R (by decide) (Nat.zero_le _) (Nat.zero_le _) dX7_nestsFit_158 ?_
        exact ⟨by rw [bP_t ⟨hW, by rw [gN2_o hsw]; trivial⟩], rfl⟩
set_option maxHeartbeats 4000000 in
set_option maxRecDepth 100000 in
theorem c_X7_callsFit {l : Launch} {D : va_G} {Y : Nat → ClassId} {zz : Nat → Nat} {n s cp cq : Nat} {ad : Nat → Nat} {M : vM} {i e : Nat} (hi : i < n) (h16 : i < 16) {o : Nat} (ho : o < 30) (h12 : M.1 (tb i) 12 = nI e) (he : e ≤ 24) : Ct l D Y zz yX7_callsFit cX7_callsFit 2 (some FieldType.boolean) 1 20 [.ref (ad (tb i)), .ref (zz o)] (wK Y n s cp cq ad M) 0 0 (fun r w => r = some (.int (bP (gCall M (tb i) e o))) ∧ w = wK Y n s cp cq ad M) := by
  refine v_entry (by decide +kernel) (Nat.le_of_ble_eq_true rfl) ?_
  intro K X R hR hnm hl hD hY hz
  subst hl hD hY hz
  refine v_sub (lv' := [(0, .ref (ad (tb i))), (1, .ref (kZ K o))]) [0, 1] rfl ?_
  refine v_aload_n (pc' := 1) (i := 1) (j := 1) X dX7_callsFit_0 rfl rfl rfl ?_
  refine v_gets (pc' := 4) (v := .ref (kZ K 10)) X (X.zE.1 10 (by decide)).1 w_fl_X7_260 rfl dX7_callsFit_1 rfl ?_
  refine v_acmp_ne (rx := some (kZ K o)) (ry := some (kZ K 10)) (tgt := 22) (pc' := 7) X dX7_callsFit_4 (by decide) rfl (fun hc_4 => ?_) (fun hc_4 => ?_)
  · have ho10 : ¬ o = 10 := fun z9 => hc_4 (by rw [z9])
    refine v_aload_n (pc' := 23) (i := 1) (j := 1) X dX7_callsFit_22 rfl rfl rfl ?_
    refine v_gets (pc' := 26) (v := .ref (kZ K 11)) X (X.zE.1 11 (by decide)).1 w_fl_X7_263 rfl dX7_callsFit_23 rfl ?_
    refine v_acmp_ne (rx := some (kZ K o)) (ry := some (kZ K 11)) (tgt := 40) (pc' := 29) X dX7_callsFit_26 (by decide) rfl (fun hc_26 => ?_) (fun hc_26 => ?_)
    · have ho11 : ¬ o = 11 := fun z9 => hc_26 (by rw [z9])
      refine v_iconst (pc' := 41) (v := 1) X dX7_callsFit_40 (by decide) rfl ?_
      refine v_goto (pc' := 45) X dX7_callsFit_41 (by decide) ?_
      refine v_zreturn X R (by decide) (Nat.zero_le _) (Nat.zero_le _) dX7_callsFit_45 ?_
      have hg : gCall M (tb i) e o = _ := (if_neg ho10).trans (if_neg ho11)
      exact ⟨by rw [hg, bP_t trivial], rfl⟩
    · have ho11 : o = 11 := zE_inj X ho (by decide) (Option.some.inj hc_26)
      refine v_aload_n (pc' := 30) (i := 0) (j := 0) X dX7_callsFit_29 rfl rfl rfl ?_
      refine fk_X7_94 (pc' := 33) X hi h16 (v := M.1 (tb i) 11) rfl dX7_callsFit_30 rfl ?_
      refine v_aload_n (pc' := 34) (i := 0) (j := 0) X dX7_callsFit_33 rfl rfl rfl ?_
      refine v_callVN (pc' := 37) X (st := [.int (M.1 (tb i) 11)]) (c_X6_callsOfInnermostNest (M := M) hi h16 (e := e) h12 he) k_X6_callsOfInnermostNest n_ml_X7_266 w_im_X6_callsOfInnermostNest w_se_X6_X6_callsOfInnermostNest (rw_X6 hi h16) (by rw [hR]; exact ⟨Nat.le_of_ble_eq_true rfl, Nat.le_of_ble_eq_true rfl⟩) rfl rfl (Nat.le_of_ble_eq_true rfl) dX7_callsFit_34 rfl (⟨Nat.zero_le _, Nat.zero_le _⟩) ?_
      rintro _ _ ⟨rfl, rfl⟩
      refine v_icmp_le (pc' := 40) (tgt := 44) X dX7_callsFit_37 (by decide) rfl (fun hc_37 => ?_) (fun hc_37 => ?_)
      -- taken 37
      · refine v_iconst (pc' := 45) (v := 0) X dX7_callsFit_44 (by decide) rfl ?_
        refine v_zreturn X R (by decide) (Nat.zero_le _) (Nat.zero_le _) dX7_callsFit_45 ?_
        have hg : gCall M (tb i) e o = _ := (if_neg ho10).trans (if_pos ho11)
        exact ⟨by rw [hg, bP_f (fun z9 => absurd hc_37 (Int32.not_le.mpr z9))], rfl⟩
      -- not taken 37
      · refine v_iconst (pc' := 41) (v := 1) X dX7_callsFit_40 (by decide) rfl ?_
        refine v_goto (pc' := 45) X dX7_callsFit_41 (by decide) ?_
        refine v_zreturn X R (by decide) (Nat.zero_le _) (Nat.zero_le _) dX7_callsFit_45 ?_
        have hg : gCall M (tb i) e o = _ := (if_neg ho10).trans (if_pos ho11)
        exact ⟨by rw [hg, bP_t (Int32.not_le.mp hc_37)], rfl⟩
  · have ho10 : o = 10 := zE_inj X ho (by decide) (Option.some.inj hc_4)
    refine v_aload_n (pc' := 8) (i := 0) (j := 0) X dX7_callsFit_7 rfl rfl rfl ?_
    refine fk_X7_94 (pc' := 11) X hi h16 (v := M.1 (tb i) 11) rfl dX7_callsFit_8 rfl ?_
    refine v_bipush (pc' := 13) (v := 40) X dX7_callsFit_11 (by decide) rfl ?_
    refine v_icmp_ge (pc' := 16) (tgt := 20) X dX7_callsFit_13 (by decide) rfl (fun hc_13 => ?_) (fun hc_13 => ?_)
    -- taken 13
    · refine v_iconst (pc' := 21) (v := 0) X dX7_callsFit_20 (by decide) rfl ?_
      refine v_zreturn X R (by decide) (Nat.zero_le _) (Nat.zero_le _) dX7_callsFit_21 ?_
      have hg : gCall M (tb i) e o = _ := if_pos ho10
      exact ⟨by rw [hg, bP_f (fun z9 => absurd hc_13 (Int32.not_le.mpr z9))], rfl⟩
    -- not taken 13
    · refine v_iconst (pc' := 17) (v := 1) X dX7_callsFit_16 (by decide) rfl ?_
      refine v_goto (pc' := 21) X dX7_callsFit_17 (by decide) ?_
      refine v_zreturn X R (by decide) (Nat.zero_le _) (Nat.zero_le _) dX7_callsFit_21 ?_
      have hg : gCall M (tb i) e o = _ := if_pos ho10
      exact ⟨by rw [hg, bP_t (Int32.not_le.mp hc_13)], rfl⟩
set_option maxHeartbeats 4000000 in
set_option maxRecDepth 100000 in
theorem c_X7_faultBefore {l : Launch} {D : va_G} {Y : Nat → ClassId} {zz : Nat → Nat} {n s cp cq : Nat} {ad : Nat → Nat} {M : vM} {i e : Nat} (hi : i < n) (h16 : i < 16) {k9 : Nat} (hk9 : k9 < s) (h12 : M.1 (tb i) 12 = nI e) (he : e ≤ 24) {num x y z : Int32} (hnum : M.1 (ib k9) 0 = num) (hx : M.1 (ib k9) 1 = x) (hy : M.1 (ib k9) 2 = y) (hz9 : M.1 (ib k9) 3 = z)  : Ct l D Y zz yX7_faultBefore cX7_faultBefore 3 (some FieldType.int) 5 107 [.ref (ad (tb i)), .ref (ad (ib k9))] (wK Y n s cp cq ad M) 0 0 (fun r w => r = some (.int (gFault M (tb i) e num x y z)) ∧ w = wK Y n s cp cq ad M) := by
  refine v_entry (by decide +kernel) (Nat.le_of_ble_eq_true rfl) ?_
  intro K X R hR hnm hl hD hY hz
  subst hl hD hY hz
  refine v_sub (lv' := [(0, .ref (ad (tb i))), (1, .ref (ad (ib k9)))]) [0, 1] rfl ?_
  refine v_aload_n (pc' := 1) (i := 1) (j := 1) X dX7_faultBefore_0 rfl rfl rfl ?_
  refine fk_X7_173 (pc' := 4) X hk9 (v := num) hnum dX7_faultBefore_1 rfl ?_
  refine v_if_lt (pc' := 7) (tgt := 18) X dX7_faultBefore_4 (by decide) rfl (fun hc_4 => ?_) (fun hc_4 => ?_)
  -- taken 4
  · refine v_iconst (pc' := 19) (v := (-1)) X dX7_faultBefore_18 (by decide) rfl ?_
    refine v_ireturn X R (Nat.zero_le _) (Nat.zero_le _) dX7_faultBefore_19 ?_
    have hg : gFault M (tb i) e num x y z = (-1) := if_pos (Or.inl hc_4)
    rw [hg]
    exact ⟨rfl, rfl⟩
  -- not taken 4
  · refine v_aload_n (pc' := 8) (i := 1) (j := 1) X dX7_faultBefore_7 rfl rfl rfl ?_
    refine fk_X7_173 (pc' := 11) X hk9 (v := num) hnum dX7_faultBefore_8 rfl ?_
    refine v_getsN (pc' := 14) X X.zA n_fl_X7_167 rfl dX7_faultBefore_11 rfl ?_
    refine v_tlen (pc' := 15) (v := 30) X X.zAt rfl dX7_faultBefore_14 rfl ?_
    refine v_icmp_lt (pc' := 18) (tgt := 20) X dX7_faultBefore_15 (by decide) rfl (fun hc_15 => ?_) (fun hc_15 => ?_)
    -- taken 15
    · obtain ⟨on, ho⟩ := op_of hc_4 hc_15
      obtain ⟨o, hoe⟩ : ∃ o, o = nn num := ⟨_, rfl⟩
      rw [← hoe] at on ho
      refine v_getsN (pc' := 23) X X.zA n_fl_X7_167 rfl dX7_faultBefore_20 rfl ?_
      refine v_aload_n (pc' := 24) (i := 1) (j := 1) X dX7_faultBefore_23 rfl rfl rfl ?_
      refine fk_X7_173 (pc' := 27) X hk9 (v := num) hnum dX7_faultBefore_24 rfl ?_
      refine v_tq (pc' := 28) X X.zAt (o) on ho (by decide) rfl dX7_faultBefore_27 rfl ?_
      refine v_astore_n (pc' := 29) (i := 2) (lv' := [(2, .ref (kZ K o)), (0, .ref (ad (tb i))), (1, .ref (ad (ib k9)))]) X dX7_faultBefore_28 rfl (by decide) rfl rfl ?_
      refine v_aload_n (pc' := 30) (i := 0) (j := 1) X dX7_faultBefore_29 rfl rfl rfl ?_
      refine v_aload_n (pc' := 31) (i := 2) (j := 0) X dX7_faultBefore_30 rfl rfl rfl ?_
      refine v_aload_n (pc' := 32) (i := 1) (j := 2) X dX7_faultBefore_31 rfl rfl rfl ?_
      refine v_callS (pc' := 35) X (st := []) (c_X7_operandsFit (M := M) hi h16 ho hk9 hx hy hz9) k_X7_operandsFit w_ml_X7_222 w_st_X7_operandsFit (by rw [hR]; exact ⟨Nat.le_of_ble_eq_true rfl, Nat.le_of_ble_eq_true rfl⟩) rfl rfl (Nat.le_of_ble_eq_true rfl) dX7_faultBefore_32 rfl (⟨Nat.zero_le _, Nat.zero_le _⟩) ?_
      rintro _ _ ⟨rfl, rfl⟩
      refine v_ifB_ne (pc' := 38) (tgt := 40) X dX7_faultBefore_35 (by decide) rfl (fun hc_35 => ?_) (fun hc_35 => ?_)
      -- taken 35
      · refine v_aload_n (pc' := 41) (i := 0) (j := 1) X dX7_faultBefore_40 rfl rfl rfl ?_
        refine v_aload_n (pc' := 42) (i := 2) (j := 0) X dX7_faultBefore_41 rfl rfl rfl ?_
        refine v_callS (pc' := 45) X (st := []) (c_X7_nestsFit (M := M) hi h16 ho rfl rfl) k_X7_nestsFit w_ml_X7_226 w_st_X7_nestsFit (by rw [hR]; exact ⟨Nat.le_of_ble_eq_true rfl, Nat.le_of_ble_eq_true rfl⟩) rfl rfl (Nat.le_of_ble_eq_true rfl) dX7_faultBefore_42 rfl (⟨Nat.zero_le _, Nat.zero_le _⟩) ?_
        rintro _ _ ⟨rfl, rfl⟩
        refine v_ifB_ne (pc' := 48) (tgt := 51) X dX7_faultBefore_45 (by decide) rfl (fun hc_45 => ?_) (fun hc_45 => ?_)
        -- taken 45
        · refine v_aload_n (pc' := 52) (i := 0) (j := 1) X dX7_faultBefore_51 rfl rfl rfl ?_
          refine v_aload_n (pc' := 53) (i := 2) (j := 0) X dX7_faultBefore_52 rfl rfl rfl ?_
          refine v_callS (pc' := 56) X (st := []) (c_X7_callsFit (M := M) hi h16 ho h12 he) k_X7_callsFit w_ml_X7_230 w_st_X7_callsFit (by rw [hR]; exact ⟨Nat.le_of_ble_eq_true rfl, Nat.le_of_ble_eq_true rfl⟩) rfl rfl (Nat.le_of_ble_eq_true rfl) dX7_faultBefore_53 rfl (⟨Nat.zero_le _, Nat.zero_le _⟩) ?_
          rintro _ _ ⟨rfl, rfl⟩
          refine v_ifB_eq (pc' := 59) (tgt := 63) X dX7_faultBefore_56 (by decide) rfl (fun hc_56 => ?_) (fun hc_56 => ?_)
          -- taken 56
          · refine v_bipush (pc' := 65) (v := (-2)) X dX7_faultBefore_63 (by decide) rfl ?_
            refine v_ireturn X R (Nat.zero_le _) (Nat.zero_le _) dX7_faultBefore_65 ?_
            have hg : gFault M (tb i) e num x y z = (-2) := by
              unfold gFault; rw [if_neg (fun z9 => z9.elim hc_4 (Int32.not_le.mpr hc_15)), ← hoe, if_pos hc_35, if_pos hc_45, if_neg hc_56]
            rw [hg]
            exact ⟨rfl, rfl⟩
          -- not taken 56
          · refine v_iconst (pc' := 60) (v := 0) X dX7_faultBefore_59 (by decide) rfl ?_
            refine v_goto (pc' := 65) X dX7_faultBefore_60 (by decide) ?_
            refine v_ireturn X R (Nat.zero_le _) (Nat.zero_le _) dX7_faultBefore_65 ?_
            have hg : gFault M (tb i) e num x y z = 0 := by
              unfold gFault; rw [if_neg (fun z9 => z9.elim hc_4 (Int32.not_le.mpr hc_15)), ← hoe, if_pos hc_35, if_pos hc_45, if_pos hc_56]
            rw [hg]
            exact ⟨rfl, rfl⟩
        -- not taken 45
        · refine v_bipush (pc' := 50) (v := (-4)) X dX7_faultBefore_48 (by decide) rfl ?_
          refine v_ireturn X R (Nat.zero_le _) (Nat.zero_le _) dX7_faultBefore_50 ?_
          have hg : gFault M (tb i) e num x y z = (-4) := by
            unfold gFault; rw [if_neg (fun z9 => z9.elim hc_4 (Int32.not_le.mpr hc_15)), ← hoe, if_pos hc_35, if_neg hc_45]
          rw [hg]
          exact ⟨rfl, rfl⟩
      -- not taken 35
      · refine v_iconst (pc' := 39) (v := (-1)) X dX7_faultBefore_38 (by decide) rfl ?_
        refine v_ireturn X R (Nat.zero_le _) (Nat.zero_le _) dX7_faultBefore_39 ?_
        have hg : gFault M (tb i) e num x y z = (-1) := by
          unfold gFault; rw [if_neg (fun z9 => z9.elim hc_4 (Int32.not_le.mpr hc_15)), ← hoe, if_neg hc_35]
        rw [hg]
        exact ⟨rfl, rfl⟩
    -- not taken 15
    · refine v_iconst (pc' := 19) (v := (-1)) X dX7_faultBefore_18 (by decide) rfl ?_
      refine v_ireturn X R (Nat.zero_le _) (Nat.zero_le _) dX7_faultBefore_19 ?_
      have hg : gFault M (tb i) e num x y z = (-1) := if_pos (Or.inr (Int32.not_lt.mp hc_15))
      rw [hg]
      exact ⟨rfl, rfl⟩
