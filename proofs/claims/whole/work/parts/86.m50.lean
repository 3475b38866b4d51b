/-! CLASS AND REFERENCE: a step -/
/-- the memory that a step starts its instruction with -/
def fStep1 (N : vM) (b : Nat) : vM := mI (mI N 0 7 (N.1 0 7 + 1)) b 2 (N.1 b 2 + 1)
def gStep1 (G : vM) (b : Nat) (a : Int32) : vM := mI (mI G 0 8 (G.1 0 8 + 1)) b 10 (a + 1)
theorem z_step1 {G N : vM} {n s i : Nat} (h : Sm G N n s) (hi : i < n) : Sm (gStep1 G (tb i) (N.1 (tb i) 2)) (fStep1 N (tb i)) n s := z_pc (z_steps h hi) hi
theorem iu_step1 {N : vM} {n us i : Nat} (h : IU N n us) (hi : i < n) : IU (fStep1 N (tb i)) n us := iu_ob2 (iu_cnt h (by decide)) hi
theorem fStep1_0 {N : vM} {i : Nat} : (fStep1 N (tb i)).1 (tb i) 0 = N.1 (tb i) 0 := by
  unfold fStep1
  rw [mI_o _ _ _ _ (by decide), mI_n _ _ _ _ z00.symm]
theorem fStep1_n {N : vM} {i c : Nat} (h : c ≠ 0) (h2 : c ≠ tb i) : (fStep1 N (tb i)).1 c = N.1 c := by
  unfold fStep1
  rw [mI_n _ _ _ _ h2, mI_n _ _ _ _ h]
/-- no instruction there -/
theorem fStep_no {N : vM} {n i : Nat} (h : N.1 (tb i) 2 < 0 ∨ N.1 0 1 ≤ N.1 (tb i) 2) : fStep N n (tb i) = fEnd (fStep1 N (tb i)) (tb i) 4 (-1) := if_pos h
theorem fStep_q {N : vM} {n i : Nat} (h : ¬ (N.1 (tb i) 2 < 0 ∨ N.1 0 1 ≤ N.1 (tb i) 2)) {num x y z : Int32} (h0 : N.1 9 (nn (N.1 (tb i) 2)) = num) (hx : N.1 10 (nn (N.1 (tb i) 2)) = x) (hy : N.1 11 (nn (N.1 (tb i) 2)) = y) (hz : N.1 12 (nn (N.1 (tb i) 2)) = z) : fStep N n (tb i) = if (fQ (fStep1 N (tb i)) n (tb i) num x y z).2 < 0 then fEnd (fQ (fStep1 N (tb i)) n (tb i) num x y z).1 (tb i) 4 (fQ (fStep1 N (tb i)) n (tb i) num x y z).2 else (fQ (fStep1 N (tb i)) n (tb i) num x y z).1 := by
  subst h0 hx hy hz
  unfold fStep
  dsimp only
  rw [if_neg h]
  unfold fQ
  by_cases ho : N.1 9 (nn (N.1 (tb i) 2)) < 0 ∨ 29 < N.1 9 (nn (N.1 (tb i) 2))
  · rw [if_pos ho, if_pos ho, if_pos (show (-1 : Int32) < 0 by decide)]; rfl
  · rw [if_neg ho, if_neg ho]; rfl
theorem fQ_iu {N : vM} {n us i : Nat} {num x y z : Int32} (h : IU N n us) (hi : i < n) (h1 : N.1 (tb i) 0 = 1) : ∃ n9 us9, IU (fQ N n (tb i) num x y z).1 n9 us9 ∧ n ≤ n9 := by
  unfold fQ
  split
  · exact ⟨n, us, h, Nat.le_refl n⟩
  next ho =>
    have h2 : ¬ 29 < num := fun z9 => ho (Or.inr z9)
    have h3 := op_of (fun z9 => ho (Or.inl z9)) (Int32.not_le.mp (fun z9 => h2 (lt_29.mpr z9)))
    obtain ⟨n9, us9, q1, q2, -⟩ := iu_known h hi h1 (x := x) (y := y) (z := z) (o := nn num) (by omega)
    exact ⟨n9, us9, q1, q2⟩
theorem sm_nn {G N : vM} {n s : Nat} (h : Sm G N n s) : nn (N.1 0 2) = n := by
  have h9 := h.2.2.2.2.2.1
  rw [h9.2.1]; exact nn_nI (by omega)

set_option maxHeartbeats 4000000 in
set_option maxRecDepth 100000 in
theorem c_X7_step {l : Launch} {D : va_G} {Y : Nat → ClassId} {zz : Nat → Nat} {n s cp cq : Nat} {ad : Nat → Nat} {M : vM} {i us : Nat} (hi : i < n) (h16 : i < 16) {N : vM} (hS : Sm M N n s) (hU : IU N n us) (h1 : N.1 (tb i) 0 = 1) (hq : n ≤ cq ∧ cq ≤ 2 * n + 10) (hcp : s ≤ cp) (hcp2 : cp < 2 ^ 31)  : Ct l D Y zz yX7_step cX7_step 4 none 10 287 [.ref (ad (0)), .ref (ad (tb i))] (wK Y n s cp cq ad M) (13 * (fStepN N n (tb i) - n)) (800 * (fStepN N n (tb i) - n)) (fun r w => r = none ∧ pQ Y n s cp ad w (fStep N n (tb i))) := by
  refine v_entry (by decide +kernel) (Nat.le_of_ble_eq_true rfl) ?_
  intro K X R hR hnm hl hD hY hz
  subst hl hD hY hz
  refine v_sub (lv' := [(0, .ref (ad (0))), (1, .ref (ad (tb i)))]) [0, 1] rfl ?_
  obtain ⟨at9, hat⟩ : ∃ v, v = N.1 (tb i) 2 := ⟨_, rfl⟩
  have hpc : M.1 (tb i) 10 = at9 := by
    obtain ⟨⟨r1, r2, r3, -⟩, -⟩ := hS.T hi
    rw [hat]; exact r3
  have S1 : Sm (gStep1 M (tb i) at9) (fStep1 N (tb i)) n s := by rw [hat]; exact z_step1 hS hi
  have U1 := iu_step1 hU hi
  have s1 : (fStep1 N (tb i)).1 (tb i) 0 = 1 := fStep1_0.trans h1
  obtain ⟨ca, e, r, w, hI1⟩ := U1.at hi
  obtain ⟨-, nsz, hs1⟩ := hS.2.2.2.2.1
  refine v_aload_n (pc' := 1) (i := 1) (j := 1) X dX7_step_0 rfl rfl rfl ?_
  refine fk_X7_91 (pc' := 4) X hi h16 (v := at9) hpc dX7_step_1 rfl ?_
  refine v_istore_n (pc' := 5) (i := 2) (lv' := [(2, .int at9), (0, .ref (ad (0))), (1, .ref (ad (tb i)))]) X dX7_step_4 rfl (by decide) rfl rfl ?_
  refine v_aload_n (pc' := 6) (i := 0) (j := 1) X dX7_step_5 rfl rfl rfl ?_
  refine v_dup (pc' := 7) X dX7_step_6 rfl rfl ?_
  refine fk_X7_47 (pc' := 10) X (v := M.1 0 8) rfl dX7_step_7 rfl ?_
  refine v_iconst (pc' := 11) (v := 1) X dX7_step_10 (by decide) rfl ?_
  refine v_iadd (pc' := 12) X dX7_step_11 rfl ?_
  refine fq_X7_47 (pc' := 15) X dX7_step_12 rfl ?_
  refine v_aload_n (pc' := 16) (i := 1) (j := 2) X dX7_step_15 rfl rfl rfl ?_
  refine v_iload_n (pc' := 17) (i := 2) (j := 0) X dX7_step_16 rfl rfl rfl ?_
  refine v_iconst (pc' := 18) (v := 1) X dX7_step_17 (by decide) rfl ?_
  refine v_iadd (pc' := 19) X dX7_step_18 rfl ?_
  refine fq_X7_91 (pc' := 22) X hi h16 dX7_step_19 rfl ?_
  refine v_eqw (ws' := wK (kY K) n s cp cq ad (gStep1 M (tb i) at9)) rfl ?_
  refine v_iconst (pc' := 23) (v := (-1)) X dX7_step_22 (by decide) rfl ?_
  refine v_istore_n (pc' := 24) (i := 3) (lv' := [(3, .int (-1)), (2, .int at9), (0, .ref (ad (0))), (1, .ref (ad (tb i)))]) X dX7_step_23 rfl (by decide) rfl rfl ?_
  refine v_iload_n (pc' := 25) (i := 2) (j := 1) X dX7_step_24 rfl rfl rfl ?_
  refine v_if_lt (pc' := 28) (tgt := 56) X dX7_step_25 (by decide) rfl (fun hc_25 => ?_) (fun hc_25 => ?_)
  -- taken 25
  · have hbad : N.1 (tb i) 2 < 0 ∨ N.1 0 1 ≤ N.1 (tb i) 2 := by rw [← hat, nsz]; exact Or.inl hc_25
    refine v_iload_n (pc' := 57) (i := 3) (j := 0) X dX7_step_56 rfl rfl rfl ?_
    refine v_if_eq (pc' := 60) (tgt := 65) X dX7_step_57 (by decide) rfl (fun hc_57 => absurd hc_57 (by decide)) (fun _ => ?_)
    refine v_aload_n (pc' := 61) (i := 1) (j := 3) X dX7_step_60 rfl rfl rfl ?_
    refine v_iload_n (pc' := 62) (i := 3) (j := 0) X dX7_step_61 rfl rfl rfl ?_
    refine v_callVN (pc' := 65) X (st := []) (c_X6_fail (M := (gStep1 M (tb i) at9)) hi h16 (why := (-1))) k_X6_fail n_ml_X7_161 w_im_X6_fail w_se_X6_X6_fail (rw_X6 hi h16) (by rw [hR]; exact ⟨Nat.le_of_ble_eq_true rfl, Nat.le_of_ble_eq_true rfl⟩) rfl rfl (Nat.le_of_ble_eq_true rfl) dX7_step_62 rfl (⟨Nat.zero_le _, Nat.zero_le _⟩) ?_
    rintro _ _ ⟨rfl, rfl⟩
    refine v_return X R (Nat.zero_le _) (Nat.zero_le _) dX7_step_65 ?_
    rw [fStep_no hbad]
    exact ⟨rfl, n, cq, ad, _, rfl, z_fail S1 hi hI1.2.2.1 hI1.2.2.2.1, hq, Nat.le_refl n, fun _ _ _ => rfl⟩
  -- not taken 25
  · refine v_iload_n (pc' := 29) (i := 2) (j := 1) X dX7_step_28 rfl rfl rfl ?_
    refine v_aload_n (pc' := 30) (i := 0) (j := 2) X dX7_step_29 rfl rfl rfl ?_
    refine fk_X7_10 (pc' := 33) X dX7_step_30 rfl ?_
    refine v_callV (pc' := 36) X (st := [.int at9]) (c_size3 (M := (gStep1 M (tb i) at9))) k_Jx4a65c_size_8abf5 w_ml_X7_59 w_im_Jx4a65c_size_8abf5 w_se_Jx4a65c_Jx4a65c_size_8abf5 rw_L3 (by rw [hR]; exact ⟨Nat.le_of_ble_eq_true rfl, Nat.le_of_ble_eq_true rfl⟩) rfl rfl (Nat.le_of_ble_eq_true rfl) dX7_step_33 rfl (⟨Nat.zero_le _, Nat.zero_le _⟩) ?_
    rintro _ _ ⟨rfl, rfl⟩
    rw [show (gStep1 M (tb i) at9).1 3 2 = nI s from S1.2.2.2.2.1.1]
    refine v_icmp_ge (pc' := 39) (tgt := 56) X dX7_step_36 (by decide) rfl (fun hc_36 => ?_) (fun hc_36 => ?_)
    -- taken 36
    · have hbad : N.1 (tb i) 2 < 0 ∨ N.1 0 1 ≤ N.1 (tb i) 2 := by rw [← hat, nsz]; exact Or.inr hc_36
      refine v_iload_n (pc' := 57) (i := 3) (j := 0) X dX7_step_56 rfl rfl rfl ?_
      refine v_if_eq (pc' := 60) (tgt := 65) X dX7_step_57 (by decide) rfl (fun hc_57 => absurd hc_57 (by decide)) (fun _ => ?_)
      refine v_aload_n (pc' := 61) (i := 1) (j := 3) X dX7_step_60 rfl rfl rfl ?_
      refine v_iload_n (pc' := 62) (i := 3) (j := 0) X dX7_step_61 rfl rfl rfl ?_
      refine v_callVN (pc' := 65) X (st := []) (c_X6_fail (M := (gStep1 M (tb i) at9)) hi h16 (why := (-1))) k_X6_fail n_ml_X7_161 w_im_X6_fail w_se_X6_X6_fail (rw_X6 hi h16) (by rw [hR]; exact ⟨Nat.le_of_ble_eq_true rfl, Nat.le_of_ble_eq_true rfl⟩) rfl rfl (Nat.le_of_ble_eq_true rfl) dX7_step_62 rfl (⟨Nat.zero_le _, Nat.zero_le _⟩) ?_
      rintro _ _ ⟨rfl, rfl⟩
      refine v_return X R (Nat.zero_le _) (Nat.zero_le _) dX7_step_65 ?_
      rw [fStep_no hbad]
      exact ⟨rfl, n, cq, ad, _, rfl, z_fail S1 hi hI1.2.2.1 hI1.2.2.2.1, hq, Nat.le_refl n, fun _ _ _ => rfl⟩
    -- not taken 36
    · obtain ⟨j, hj, rfl⟩ := nI_of hc_25
      have hjs : j < s := by
        rcases Nat.lt_or_ge j s with y9 | y9
        · exact y9
        · exact absurd (nI_le y9 (by omega)) hc_36
      have O := S1.2.2.2.2.2.2.2.1 j hjs
      have hnb : ¬ (N.1 (tb i) 2 < 0 ∨ N.1 0 1 ≤ N.1 (tb i) 2) := by rw [← hat, nsz]; exact fun z9 => z9.elim hc_25 hc_36
      have hrow : ∀ c, 9 ≤ c → c ≤ 12 → N.1 c (nn (N.1 (tb i) 2)) = (fStep1 N (tb i)).1 c j := fun c q1 q2 => by
        rw [← hat, nn_nI hj, fStep1_n (by omega) (by unfold tb; omega)]
      have hst : fStep N n (tb i) = if (fQ (fStep1 N (tb i)) n (tb i) ((fStep1 N (tb i)).1 9 j) ((fStep1 N (tb i)).1 10 j) ((fStep1 N (tb i)).1 11 j) ((fStep1 N (tb i)).1 12 j)).2 < 0 then fEnd (fQ (fStep1 N (tb i)) n (tb i) ((fStep1 N (tb i)).1 9 j) ((fStep1 N (tb i)).1 10 j) ((fStep1 N (tb i)).1 11 j) ((fStep1 N (tb i)).1 12 j)).1 (tb i) 4 (fQ (fStep1 N (tb i)) n (tb i) ((fStep1 N (tb i)).1 9 j) ((fStep1 N (tb i)).1 10 j) ((fStep1 N (tb i)).1 11 j) ((fStep1 N (tb i)).1 12 j)).2 else (fQ (fStep1 N (tb i)) n (tb i) ((fStep1 N (tb i)).1 9 j) ((fStep1 N (tb i)).1 10 j) ((fStep1 N (tb i)).1 11 j) ((fStep1 N (tb i)).1 12 j)).1 := fStep_q hnb (hrow 9 (by decide) (by decide)) (hrow 10 (by decide) (by decide)) (hrow 11 (by decide) (by decide)) (hrow 12 (by decide) (by decide))
      have hN9 : fStepN N n (tb i) = nn ((fQ (fStep1 N (tb i)) n (tb i) ((fStep1 N (tb i)).1 9 j) ((fStep1 N (tb i)).1 10 j) ((fStep1 N (tb i)).1 11 j) ((fStep1 N (tb i)).1 12 j)).1.1 0 2) := by
        unfold fStepN
        rw [hst]
        split
        · rw [fEnd_0]
        · rfl
      refine v_aload_n (pc' := 40) (i := 0) (j := 2) X dX7_step_39 rfl rfl rfl ?_
      refine v_aload_n (pc' := 41) (i := 1) (j := 3) X dX7_step_40 rfl rfl rfl ?_
      refine v_aload_n (pc' := 42) (i := 0) (j := 2) X dX7_step_41 rfl rfl rfl ?_
      refine fk_X7_10 (pc' := 45) X dX7_step_42 rfl ?_
      refine v_iload_n (pc' := 46) (i := 2) (j := 1) X dX7_step_45 rfl rfl rfl ?_
      refine v_callV (pc' := 49) X (st := [.ref (ad (tb i)), .ref (ad (0))]) (c_get3 (M := (gStep1 M (tb i) (nI j))) (k := j) hjs hcp hcp2 S1.2.2.2.2.1.1) k_Jx4a65c_get_915e3 w_ml_X7_77 w_im_Jx4a65c_get_915e3 w_se_Jx4a65c_Jx4a65c_get_915e3 rw_L3 (by rw [hR]; exact ⟨Nat.le_of_ble_eq_true rfl, Nat.le_of_ble_eq_true rfl⟩) rfl rfl (Nat.le_of_ble_eq_true rfl) dX7_step_46 rfl (⟨Nat.zero_le _, Nat.zero_le _⟩) ?_
      rintro _ _ ⟨rfl, rfl⟩
      refine v_castS (pc' := 52) X w_is_X2 w_cl_X7_66 (rw_X2 hjs) dX7_step_49 rfl ?_
      refine v_callV (pc' := 55) X (st := []) (c_X7_perform (N := fStep1 N (tb i)) hi h16 S1 U1 s1 hI1 hjs O.1 O.2.1 O.2.2.1 O.2.2.2 hq) k_X7_perform w_ml_X7_157 w_im_X7_perform w_se_X7_X7_perform rw_X7 (by rw [hR]; exact ⟨Nat.le_of_ble_eq_true rfl, Nat.le_of_ble_eq_true rfl⟩) rfl rfl (Nat.le_of_ble_eq_true rfl) dX7_step_52 rfl (by rw [hR]; show 0 + 13 * (nn ((fQ (fStep1 N (tb i)) n (tb i) ((fStep1 N (tb i)).1 9 j) ((fStep1 N (tb i)).1 10 j) ((fStep1 N (tb i)).1 11 j) ((fStep1 N (tb i)).1 12 j)).1.1 0 2) - n) ≤ 13 * (fStepN N n (tb i) - n) ∧ 0 + 800 * (nn ((fQ (fStep1 N (tb i)) n (tb i) ((fStep1 N (tb i)).1 9 j) ((fStep1 N (tb i)).1 10 j) ((fStep1 N (tb i)).1 11 j) ((fStep1 N (tb i)).1 12 j)).1.1 0 2) - n) ≤ 800 * (fStepN N n (tb i) - n); rw [hN9]; exact ⟨by omega, by omega⟩) ?_
      rintro _ _ ⟨rfl, hneg, n9, cq9, ad9, G9, rfl, g1, g2, g3, g4⟩
      have hi9 : i < n9 := by omega
      have ha0 : ad9 0 = ad 0 := g4 0 (by decide) (Or.inl (by unfold tb; omega))
      have hai : ad9 (tb i) = ad (tb i) := g4 _ (by unfold tb; omega) (Or.inl (by unfold tb; omega))
      show V K 4 (wK (kY K) n9 s cp cq9 ad9 G9) (0 + (13 * (nn ((fQ (fStep1 N (tb i)) n (tb i) ((fStep1 N (tb i)).1 9 j) ((fStep1 N (tb i)).1 10 j) ((fStep1 N (tb i)).1 11 j) ((fStep1 N (tb i)).1 12 j)).1.1 0 2) - n))) (0 + (800 * (nn ((fQ (fStep1 N (tb i)) n (tb i) ((fStep1 N (tb i)).1 9 j) ((fStep1 N (tb i)).1 10 j) ((fStep1 N (tb i)).1 11 j) ((fStep1 N (tb i)).1 12 j)).1.1 0 2) - n))) 55 [(3, .int (-1)), (2, .int (nI j)), (0, .ref (ad (0))), (1, .ref (ad (tb i)))] [.int ((fQ (fStep1 N (tb i)) n (tb i) ((fStep1 N (tb i)).1 9 j) ((fStep1 N (tb i)).1 10 j) ((fStep1 N (tb i)).1 11 j) ((fStep1 N (tb i)).1 12 j)).2)]
      rw [← ha0, ← hai]
      refine v_istore_n (pc' := 56) (i := 3) (lv' := [(3, .int ((fQ (fStep1 N (tb i)) n (tb i) ((fStep1 N (tb i)).1 9 j) ((fStep1 N (tb i)).1 10 j) ((fStep1 N (tb i)).1 11 j) ((fStep1 N (tb i)).1 12 j)).2)), (2, .int (nI j)), (0, .ref (ad9 (0))), (1, .ref (ad9 (tb i)))]) X dX7_step_55 rfl (by decide) rfl rfl ?_
      refine v_iload_n (pc' := 57) (i := 3) (j := 0) X dX7_step_56 rfl rfl rfl ?_
      refine v_if_eq (pc' := 60) (tgt := 65) X dX7_step_57 (by decide) rfl (fun hc_57 => ?_) (fun hc_57 => ?_)
      -- taken 57
      · refine v_return X R (by rw [hN9]; omega) (by rw [hN9]; omega) dX7_step_65 ?_
        rw [hst, if_neg (by rw [hc_57]; decide)]
        exact ⟨rfl, n9, cq9, ad9, G9, rfl, g1, g2, g3, g4⟩
      -- not taken 57
      · refine v_aload_n (pc' := 61) (i := 1) (j := 3) X dX7_step_60 rfl rfl rfl ?_
        refine v_iload_n (pc' := 62) (i := 3) (j := 0) X dX7_step_61 rfl rfl rfl ?_
        refine v_callVN (pc' := 65) X (st := []) (c_X6_fail (M := G9) hi9 h16 (why := (fQ (fStep1 N (tb i)) n (tb i) ((fStep1 N (tb i)).1 9 j) ((fStep1 N (tb i)).1 10 j) ((fStep1 N (tb i)).1 11 j) ((fStep1 N (tb i)).1 12 j)).2)) k_X6_fail n_ml_X7_161 w_im_X6_fail w_se_X6_X6_fail (rw_X6 hi9 h16) (by rw [hR]; exact ⟨Nat.le_of_ble_eq_true rfl, Nat.le_of_ble_eq_true rfl⟩) rfl rfl (Nat.le_of_ble_eq_true rfl) dX7_step_62 rfl (by rw [hR]; show 0 + 13 * (nn ((fQ (fStep1 N (tb i)) n (tb i) ((fStep1 N (tb i)).1 9 j) ((fStep1 N (tb i)).1 10 j) ((fStep1 N (tb i)).1 11 j) ((fStep1 N (tb i)).1 12 j)).1.1 0 2) - n) + 0 ≤ 13 * (fStepN N n (tb i) - n) ∧ 0 + 800 * (nn ((fQ (fStep1 N (tb i)) n (tb i) ((fStep1 N (tb i)).1 9 j) ((fStep1 N (tb i)).1 10 j) ((fStep1 N (tb i)).1 11 j) ((fStep1 N (tb i)).1 12 j)).1.1 0 2) - n) + 0 ≤ 800 * (fStepN N n (tb i) - n); rw [hN9]; exact ⟨by omega, by omega⟩) ?_
        rintro _ _ ⟨rfl, rfl⟩
        refine v_return X R (by rw [hN9]; omega) (by rw [hN9]; omega) dX7_step_65 ?_
        obtain ⟨n8, us8, U8, h98⟩ := fQ_iu (num := (fStep1 N (tb i)).1 9 j) (x := (fStep1 N (tb i)).1 10 j) (y := (fStep1 N (tb i)).1 11 j) (z := (fStep1 N (tb i)).1 12 j) U1 hi s1
        obtain ⟨ca8, e8, r8, w8, I8⟩ := U8.at (show i < n8 by omega)
        rw [hst, if_pos (hneg.resolve_left hc_57)]
        exact ⟨rfl, n9, cq9, ad9, _, rfl, z_fail g1 hi9 I8.2.2.1 I8.2.2.2.1, g2, g3, g4⟩
