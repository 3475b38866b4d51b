/-! THE CLASS'S COLLECTION: A STRAND FOLLOWS -/
def gF0 (M : vM) (b kp : Nat) : vM := mRL M (b + 8) (fgR (M.2 (b + 8)) kp 16)
def gF1 (M : vM) (b kp : Nat) : vM := mRL (gF0 M b kp) (b + 8) (kvR ((gF0 M b kp).1 20) ((gF0 M b kp).2 (b + 8)) kp)
def gF2 (M : vM) (b kp e : Nat) : vM := mRL (gF1 M b kp) (b + 9) (kvR ((gF1 M b kp).1 20) ((gF1 M b kp).2 (b + 9)) (16 * e))
def gF3 (M : vM) (b kp e r9 : Nat) : vM := mRI (gF2 M b kp e) (b + 15) (plR ((gF2 M b kp e).1 20) ((gF2 M b kp e).1 (b + 15)) r9)
def gF4 (M : vM) (b kp e r9 nw : Nat) : vM := mRI (gF3 M b kp e r9) (b + 16) (plR ((gF3 M b kp e r9).1 20) ((gF3 M b kp e r9).1 (b + 16)) nw)
def gF5 (M : vM) (b kp e r9 nw : Nat) : vM := mRL (gF4 M b kp e r9 nw) (b + 17) (kvR ((gF4 M b kp e r9 nw).1 20) ((gF4 M b kp e r9 nw).2 (b + 17)) nw)
theorem gF2_1 {M : vM} {b kp e : Nat} : (gF2 M b kp e).1 = M.1 := rfl
theorem gF3_1 {M : vM} {b kp e r9 c : Nat} (h : c ≠ b + 15) : (gF3 M b kp e r9).1 c = M.1 c := mRI_n _ _ _ h
theorem gF4_1 {M : vM} {b kp e r9 nw c : Nat} (h : c ≠ b + 15) (h2 : c ≠ b + 16) : (gF4 M b kp e r9 nw).1 c = M.1 c := (mRI_n _ _ _ h2).trans (gF3_1 h)
theorem gF0_8 {M : vM} {b kp k : Nat} (h : k < kp) : (gF0 M b kp).2 (b + 8) k = M.2 (b + 8) k := by
  unfold gF0; rw [mRL_r]; exact if_neg (fun z9 => by omega)
theorem gF1_9 {M : vM} {b kp : Nat} : (gF1 M b kp).2 (b + 9) = M.2 (b + 9) := by
  unfold gF1 gF0; rw [mRL_n _ _ _ (by omega), mRL_n _ _ _ (by omega)]
theorem gF4_17 {M : vM} {b kp e r9 nw : Nat} : (gF4 M b kp e r9 nw).2 (b + 17) = M.2 (b + 17) := by
  unfold gF4 gF3 gF2 gF1 gF0; rw [mRI_2, mRI_2, mRL_n _ _ _ (by omega), mRL_n _ _ _ (by omega), mRL_n _ _ _ (by omega)]
set_option maxHeartbeats 4000000 in
set_option maxRecDepth 100000 in
theorem c_X7_followIn {l : Launch} {D : va_G} {Y : Nat → ClassId} {zz : Nat → Nat} {n s cp cq : Nat} {ad : Nat → Nat} {M : vM} {i e r9 nw kp : Nat} (hi : i < n) (h16 : i < 16) (h12 : M.1 (tb i) 12 = nI e) (he : e ≤ 24) (h3 : M.1 (tb i + 18) 3 = nI r9) (hr : r9 ≤ 40) (h4 : M.1 (tb i + 18) 4 = nI nw) (hw : nw ≤ 40) (hkp : (if M.1 (tb i) 8 = 3 then 1 else if M.1 (tb i) 8 = 4 then 0 else 16) = nI kp) (hk16 : kp ≤ 16) (q8 : ∀ k, k < kp → ok1 (M.2 (tb i + 8) k)) (q9 : ∀ k, k < 16 * e → ok1 (M.2 (tb i + 9) k)) (q15 : ∀ k, k < r9 → M.1 (tb i + 15) k = nI (nn (M.1 (tb i + 15) k)) ∧ nn (M.1 (tb i + 15) k) < 200) (q16 : ∀ k, k < nw → M.1 (tb i + 16) k = nI (nn (M.1 (tb i + 16) k)) ∧ nn (M.1 (tb i + 16) k) < 200) (q17 : ∀ k, k < nw → ok1 (M.2 (tb i + 17) k))  : Ct l D Y zz yX7_followIn cX7_followIn 2 none 2 45 [.ref (ad (0)), .ref (ad (tb i))] (wK Y n s cp cq ad M) 0 0 (fun r w => r = none ∧ w = wK Y n s cp cq ad (gF5 M (tb i) kp e r9 nw)) := by
  refine v_entry (by decide +kernel) (Nat.le_of_ble_eq_true rfl) ?_
  intro K X R hR hnm hl hD hY hz
  subst hl hD hY hz
  refine v_sub (lv' := [(0, .ref (ad (0))), (1, .ref (ad (tb i)))]) [0, 1] rfl ?_
  refine v_aload_n (pc' := 1) (i := 1) (j := 1) X dX7_followIn_0 rfl rfl rfl ?_
  refine v_aload_n (pc' := 2) (i := 1) (j := 1) X dX7_followIn_1 rfl rfl rfl ?_
  refine v_callVN (pc' := 5) X (st := [.ref (ad (tb i))]) (c_X6_registersKept (M := M) hi h16) k_X6_registersKept n_ml_X7_384 w_im_X6_registersKept w_se_X6_X6_registersKept (rw_X6 hi h16) (by rw [hR]; exact ⟨Nat.le_of_ble_eq_true rfl, Nat.le_of_ble_eq_true rfl⟩) rfl rfl (Nat.le_of_ble_eq_true rfl) dX7_followIn_2 rfl (⟨Nat.zero_le _, Nat.zero_le _⟩) ?_
  rintro _ _ ⟨rfl, rfl⟩
  rw [show (if M.1 (tb i) 8 = 3 then (1 : Int32) else if M.1 (tb i) 8 = 4 then 0 else 16) = nI kp from hkp]
  refine v_callVN (pc' := 8) X (st := []) (c_X6_forgetPlacesFrom (M := M) hi h16 (k0 := kp) hk16) k_X6_forgetPlacesFrom n_ml_X7_397 w_im_X6_forgetPlacesFrom w_se_X6_X6_forgetPlacesFrom (rw_X6 hi h16) (by rw [hR]; exact ⟨Nat.le_of_ble_eq_true rfl, Nat.le_of_ble_eq_true rfl⟩) rfl rfl (Nat.le_of_ble_eq_true rfl) dX7_followIn_5 rfl (⟨Nat.zero_le _, Nat.zero_le _⟩) ?_
  rintro _ _ ⟨rfl, rfl⟩
  refine v_aload_n (pc' := 9) (i := 0) (j := 0) X dX7_followIn_8 rfl rfl rfl ?_
  refine fk_X7_26 (pc' := 12) X dX7_followIn_9 rfl ?_
  refine v_aload_n (pc' := 13) (i := 1) (j := 1) X dX7_followIn_12 rfl rfl rfl ?_
  refine fk_X7_119 (pc' := 16) X hi h16 dX7_followIn_13 rfl ?_
  refine v_aload_n (pc' := 17) (i := 1) (j := 1) X dX7_followIn_16 rfl rfl rfl ?_
  refine v_callVN (pc' := 20) X (st := [.ref (ad (tb i + 8)), .ref (ad (1))]) (c_X6_registersKept (M := (gF0 M (tb i) kp)) hi h16) k_X6_registersKept n_ml_X7_384 w_im_X6_registersKept w_se_X6_X6_registersKept (rw_X6 hi h16) (by rw [hR]; exact ⟨Nat.le_of_ble_eq_true rfl, Nat.le_of_ble_eq_true rfl⟩) rfl rfl (Nat.le_of_ble_eq_true rfl) dX7_followIn_17 rfl (⟨Nat.zero_le _, Nat.zero_le _⟩) ?_
  rintro _ _ ⟨rfl, rfl⟩
  rw [show (if (gF0 M (tb i) kp).1 (tb i) 8 = 3 then (1 : Int32) else if (gF0 M (tb i) kp).1 (tb i) 8 = 4 then 0 else 16) = nI kp from hkp]
  refine v_callVN (pc' := 23) X (st := []) (c_X1_followRow (M := (gF0 M (tb i) kp)) (c := tb i + 8) (mG_8 hi) (hG_8 h16) (by decide) (e := kp) (by omega) (fun k hk => by rw [gF0_8 hk]; exact q8 k hk)) k_X1_followRow n_ml_X7_378 w_im_X1_followRow w_se_X1_X1_followRow rw_X1 (by rw [hR]; exact ⟨Nat.le_of_ble_eq_true rfl, Nat.le_of_ble_eq_true rfl⟩) rfl rfl (Nat.le_of_ble_eq_true rfl) dX7_followIn_20 rfl (⟨Nat.zero_le _, Nat.zero_le _⟩) ?_
  rintro _ _ ⟨rfl, rfl⟩
  refine v_aload_n (pc' := 24) (i := 0) (j := 0) X dX7_followIn_23 rfl rfl rfl ?_
  refine fk_X7_26 (pc' := 27) X dX7_followIn_24 rfl ?_
  refine v_aload_n (pc' := 28) (i := 1) (j := 1) X dX7_followIn_27 rfl rfl rfl ?_
  refine fk_X7_387 (pc' := 31) X hi h16 dX7_followIn_28 rfl ?_
  refine v_aload_n (pc' := 32) (i := 1) (j := 1) X dX7_followIn_31 rfl rfl rfl ?_
  refine fk_X7_97 (pc' := 35) X hi h16 (v := nI e) h12 dX7_followIn_32 rfl ?_
  refine v_bipush (pc' := 37) (v := 16) X dX7_followIn_35 (by decide) rfl ?_
  refine v_imulV (pc' := 38) (v := nI (16 * e)) X (by rw [Nat.mul_comm]; exact (Int32.ofNat_mul e 16).symm) dX7_followIn_37 rfl ?_
  refine v_callVN (pc' := 41) X (st := []) (c_X1_followRow (M := (gF1 M (tb i) kp)) (c := tb i + 9) (mG_9 hi) (hG_9 h16) (by decide) (e := 16 * e) (by omega) (by rw [gF1_9]; exact q9)) k_X1_followRow n_ml_X7_378 w_im_X1_followRow w_se_X1_X1_followRow rw_X1 (by rw [hR]; exact ⟨Nat.le_of_ble_eq_true rfl, Nat.le_of_ble_eq_true rfl⟩) rfl rfl (Nat.le_of_ble_eq_true rfl) dX7_followIn_38 rfl (⟨Nat.zero_le _, Nat.zero_le _⟩) ?_
  rintro _ _ ⟨rfl, rfl⟩
  refine v_aload_n (pc' := 42) (i := 0) (j := 0) X dX7_followIn_41 rfl rfl rfl ?_
  refine fk_X7_26 (pc' := 45) X dX7_followIn_42 rfl ?_
  refine v_aload_n (pc' := 46) (i := 1) (j := 1) X dX7_followIn_45 rfl rfl rfl ?_
  refine fk_X7_100 (pc' := 49) X hi h16 dX7_followIn_46 rfl ?_
  refine fk_X7_390 (pc' := 52) X hi h16 dX7_followIn_49 rfl ?_
  refine v_aload_n (pc' := 53) (i := 1) (j := 1) X dX7_followIn_52 rfl rfl rfl ?_
  refine fk_X7_100 (pc' := 56) X hi h16 dX7_followIn_53 rfl ?_
  refine fk_X7_104 (pc' := 59) X hi h16 (v := nI r9) h3 dX7_followIn_56 rfl ?_
  refine v_callVN (pc' := 62) X (st := []) (c_X1_followPlaces (M := (gF2 M (tb i) kp e)) (c := tb i + 15) (mG_15 hi) (hG_15 h16) (by decide) (e := r9) (by omega) (by unfold tb; omega) q15) k_X1_followPlaces n_ml_X7_400 w_im_X1_followPlaces w_se_X1_X1_followPlaces rw_X1 (by rw [hR]; exact ⟨Nat.le_of_ble_eq_true rfl, Nat.le_of_ble_eq_true rfl⟩) rfl rfl (Nat.le_of_ble_eq_true rfl) dX7_followIn_59 rfl (⟨Nat.zero_le _, Nat.zero_le _⟩) ?_
  rintro _ _ ⟨rfl, rfl⟩
  refine v_aload_n (pc' := 63) (i := 0) (j := 0) X dX7_followIn_62 rfl rfl rfl ?_
  refine fk_X7_26 (pc' := 66) X dX7_followIn_63 rfl ?_
  refine v_aload_n (pc' := 67) (i := 1) (j := 1) X dX7_followIn_66 rfl rfl rfl ?_
  refine fk_X7_100 (pc' := 70) X hi h16 dX7_followIn_67 rfl ?_
  refine fk_X7_338 (pc' := 73) X hi h16 dX7_followIn_70 rfl ?_
  refine v_aload_n (pc' := 74) (i := 1) (j := 1) X dX7_followIn_73 rfl rfl rfl ?_
  refine fk_X7_100 (pc' := 77) X hi h16 dX7_followIn_74 rfl ?_
  refine fk_X7_109 (pc' := 80) X hi h16 (v := nI nw) ((congrFun (gF3_1 (by omega)) _).trans h4) dX7_followIn_77 rfl ?_
  refine v_callVN (pc' := 83) X (st := []) (c_X1_followPlaces (M := (gF3 M (tb i) kp e r9)) (c := tb i + 16) (mG_16 hi) (hG_16 h16) (by decide) (e := nw) (by omega) (by unfold tb; omega) (by rw [gF3_1 (by omega)]; exact q16)) k_X1_followPlaces n_ml_X7_400 w_im_X1_followPlaces w_se_X1_X1_followPlaces rw_X1 (by rw [hR]; exact ⟨Nat.le_of_ble_eq_true rfl, Nat.le_of_ble_eq_true rfl⟩) rfl rfl (Nat.le_of_ble_eq_true rfl) dX7_followIn_80 rfl (⟨Nat.zero_le _, Nat.zero_le _⟩) ?_
  rintro _ _ ⟨rfl, rfl⟩
  refine v_aload_n (pc' := 84) (i := 0) (j := 0) X dX7_followIn_83 rfl rfl rfl ?_
  refine fk_X7_26 (pc' := 87) X dX7_followIn_84 rfl ?_
  refine v_aload_n (pc' := 88) (i := 1) (j := 1) X dX7_followIn_87 rfl rfl rfl ?_
  refine fk_X7_100 (pc' := 91) X hi h16 dX7_followIn_88 rfl ?_
  refine fk_X7_314 (pc' := 94) X hi h16 dX7_followIn_91 rfl ?_
  refine v_aload_n (pc' := 95) (i := 1) (j := 1) X dX7_followIn_94 rfl rfl rfl ?_
  refine fk_X7_100 (pc' := 98) X hi h16 dX7_followIn_95 rfl ?_
  refine fk_X7_109 (pc' := 101) X hi h16 (v := nI nw) ((congrFun (gF4_1 (by omega) (by omega)) _).trans h4) dX7_followIn_98 rfl ?_
  refine v_callVN (pc' := 104) X (st := []) (c_X1_followRow (M := (gF4 M (tb i) kp e r9 nw)) (c := tb i + 17) (mG_17 hi) (hG_17 h16) (by decide) (e := nw) (by omega) (by rw [gF4_17]; exact q17)) k_X1_followRow n_ml_X7_378 w_im_X1_followRow w_se_X1_X1_followRow rw_X1 (by rw [hR]; exact ⟨Nat.le_of_ble_eq_true rfl, Nat.le_of_ble_eq_true rfl⟩) rfl rfl (Nat.le_of_ble_eq_true rfl) dX7_followIn_101 rfl (⟨Nat.zero_le _, Nat.zero_le _⟩) ?_
  rintro _ _ ⟨rfl, rfl⟩
  refine v_return X R (Nat.zero_le _) (Nat.zero_le _) dX7_followIn_104 ?_
  exact ⟨rfl, rfl⟩
