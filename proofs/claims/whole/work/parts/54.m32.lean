/-! THE CLASS'S COLLECTION: A STRAND'S ROOTS -/
def gRt1 (M : vM) (b kp : Nat) : vM := gReachR (M.2 (b + 8)) kp M
def gRt2 (M : vM) (b kp e : Nat) : vM := gReachR ((gRt1 M b kp).2 (b + 9)) (16 * e) (gRt1 M b kp)
def gRt3 (M : vM) (b kp e r9 : Nat) : vM := gReachR (fun k => 17179869184 + ((gRt2 M b kp e).1 (b + 15) k).toInt64) r9 (gRt2 M b kp e)
def gRt4 (M : vM) (b kp e r9 nw : Nat) : vM := gReachR (fun k => 17179869184 + ((gRt3 M b kp e r9).1 (b + 16) k).toInt64) nw (gRt3 M b kp e r9)
def gRt5 (M : vM) (b kp e r9 nw : Nat) : vM := gReachR ((gRt4 M b kp e r9 nw).2 (b + 17)) nw (gRt4 M b kp e r9 nw)
theorem gRt1_1 {M : vM} {b kp c : Nat} (h : c ≠ 1 ∧ c ≠ 18 ∧ c ≠ 20) : (gRt1 M b kp).1 c = M.1 c := gReachR_1 h _
theorem gRt2_1 {M : vM} {b kp e c : Nat} (h : c ≠ 1 ∧ c ≠ 18 ∧ c ≠ 20) : (gRt2 M b kp e).1 c = M.1 c := (gReachR_1 h _).trans (gRt1_1 h)
theorem gRt3_1 {M : vM} {b kp e r9 c : Nat} (h : c ≠ 1 ∧ c ≠ 18 ∧ c ≠ 20) : (gRt3 M b kp e r9).1 c = M.1 c := (gReachR_1 h _).trans (gRt2_1 h)
theorem gRt4_1 {M : vM} {b kp e r9 nw c : Nat} (h : c ≠ 1 ∧ c ≠ 18 ∧ c ≠ 20) : (gRt4 M b kp e r9 nw).1 c = M.1 c := (gReachR_1 h _).trans (gRt3_1 h)
theorem gRt5_1 {M : vM} {b kp e r9 nw c : Nat} (h : c ≠ 1 ∧ c ≠ 18 ∧ c ≠ 20) : (gRt5 M b kp e r9 nw).1 c = M.1 c := (gReachR_1 h _).trans (gRt4_1 h)
theorem gRt1_2 {M : vM} {b kp : Nat} : (gRt1 M b kp).2 = M.2 := gReachR_2 _
theorem gRt2_2 {M : vM} {b kp e : Nat} : (gRt2 M b kp e).2 = M.2 := (gReachR_2 _).trans gRt1_2
theorem gRt3_2 {M : vM} {b kp e r9 : Nat} : (gRt3 M b kp e r9).2 = M.2 := (gReachR_2 _).trans gRt2_2
theorem gRt4_2 {M : vM} {b kp e r9 nw : Nat} : (gRt4 M b kp e r9 nw).2 = M.2 := (gReachR_2 _).trans gRt3_2
theorem gRt5_2 {M : vM} {b kp e r9 nw : Nat} : (gRt5 M b kp e r9 nw).2 = M.2 := (gReachR_2 _).trans gRt4_2
theorem tb3 {i k : Nat} : tb i + k ≠ 1 ∧ tb i + k ≠ 18 ∧ tb i + k ≠ 20 := by unfold tb; omega
set_option maxHeartbeats 4000000 in
set_option maxRecDepth 100000 in
theorem c_X7_reachFrom {l : Launch} {D : va_G} {Y : Nat → ClassId} {zz : Nat → Nat} {n s cp cq : Nat} {ad : Nat → Nat} {M : vM} {i e r9 nw kp : Nat} (hi : i < n) (h16 : i < 16) (hR0 : RI M) (h12 : M.1 (tb i) 12 = nI e) (he : e ≤ 24) (h3 : M.1 (tb i + 18) 3 = nI r9) (hr : r9 ≤ 40) (h4 : M.1 (tb i + 18) 4 = nI nw) (hw : nw ≤ 40) (hkp : (if M.1 (tb i) 8 = 3 then 1 else if M.1 (tb i) 8 = 4 then 0 else 16) = nI kp) (hk16 : kp ≤ 16) (q8 : ∀ k, k < kp → ok1 (M.2 (tb i + 8) k)) (q9 : ∀ k, k < 16 * e → ok1 (M.2 (tb i + 9) k)) (q15 : ∀ k, k < r9 → ok1 (17179869184 + (M.1 (tb i + 15) k).toInt64)) (q16 : ∀ k, k < nw → ok1 (17179869184 + (M.1 (tb i + 16) k).toInt64)) (q17 : ∀ k, k < nw → ok1 (M.2 (tb i + 17) k))  : Ct l D Y zz yX7_reachFrom cX7_reachFrom 2 none 3 67 [.ref (ad (0)), .ref (ad (tb i))] (wK Y n s cp cq ad M) 0 0 (fun r w => r = none ∧ w = wK Y n s cp cq ad (gRt5 M (tb i) kp e r9 nw)) := by
  refine v_entry (by decide +kernel) (Nat.le_of_ble_eq_true rfl) ?_
  intro K X R hR hnm hl hD hY hz
  subst hl hD hY hz
  refine v_sub (lv' := [(0, .ref (ad (0))), (1, .ref (ad (tb i)))]) [0, 1] rfl ?_
  refine v_aload_n (pc' := 1) (i := 0) (j := 0) X dX7_reachFrom_0 rfl rfl rfl ?_
  refine fk_X7_26 (pc' := 4) X dX7_reachFrom_1 rfl ?_
  refine v_aload_n (pc' := 5) (i := 1) (j := 1) X dX7_reachFrom_4 rfl rfl rfl ?_
  refine fk_X7_119 (pc' := 8) X hi h16 dX7_reachFrom_5 rfl ?_
  refine v_aload_n (pc' := 9) (i := 1) (j := 1) X dX7_reachFrom_8 rfl rfl rfl ?_
  refine v_callVN (pc' := 12) X (st := [.ref (ad (tb i + 8)), .ref (ad (1))]) (c_X6_registersKept (M := M) hi h16) k_X6_registersKept n_ml_X7_384 w_im_X6_registersKept w_se_X6_X6_registersKept (rw_X6 hi h16) (by rw [hR]; exact ⟨Nat.le_of_ble_eq_true rfl, Nat.le_of_ble_eq_true rfl⟩) rfl rfl (Nat.le_of_ble_eq_true rfl) dX7_reachFrom_9 rfl (⟨Nat.zero_le _, Nat.zero_le _⟩) ?_
  rintro _ _ ⟨rfl, rfl⟩
  rw [hkp]
  refine v_callVN (pc' := 15) X (st := []) (c_X1_reachRow (M := M) (c := tb i + 8) (mG_8 hi) (hG_8 h16) (by decide) (e := kp) (by omega) hR0 q8) k_X1_reachRow n_ml_X7_365 w_im_X1_reachRow w_se_X1_X1_reachRow rw_X1 (by rw [hR]; exact ⟨Nat.le_of_ble_eq_true rfl, Nat.le_of_ble_eq_true rfl⟩) rfl rfl (Nat.le_of_ble_eq_true rfl) dX7_reachFrom_12 rfl (⟨Nat.zero_le _, Nat.zero_le _⟩) ?_
  rintro _ _ ⟨rfl, rfl⟩
  have hRI1 : RI (gRt1 M (tb i) kp) := gReachR_RI hR0 _ q8
  refine v_aload_n (pc' := 16) (i := 0) (j := 0) X dX7_reachFrom_15 rfl rfl rfl ?_
  refine fk_X7_26 (pc' := 19) X dX7_reachFrom_16 rfl ?_
  refine v_aload_n (pc' := 20) (i := 1) (j := 1) X dX7_reachFrom_19 rfl rfl rfl ?_
  refine fk_X7_387 (pc' := 23) X hi h16 dX7_reachFrom_20 rfl ?_
  refine v_aload_n (pc' := 24) (i := 1) (j := 1) X dX7_reachFrom_23 rfl rfl rfl ?_
  refine fk_X7_97 (pc' := 27) X hi h16 (v := nI e) ((congrFun (gRt1_1 (tb3 (k := 0))) _).trans h12) dX7_reachFrom_24 rfl ?_
  refine v_bipush (pc' := 29) (v := 16) X dX7_reachFrom_27 (by decide) rfl ?_
  refine v_imulV (pc' := 30) (v := nI (16 * e)) X (by rw [Nat.mul_comm]; exact (Int32.ofNat_mul e 16).symm) dX7_reachFrom_29 rfl ?_
  refine v_callVN (pc' := 33) X (st := []) (c_X1_reachRow (M := (gRt1 M (tb i) kp)) (c := tb i + 9) (mG_9 hi) (hG_9 h16) (by decide) (e := 16 * e) (by omega) hRI1 (by rw [gRt1_2]; exact q9)) k_X1_reachRow n_ml_X7_365 w_im_X1_reachRow w_se_X1_X1_reachRow rw_X1 (by rw [hR]; exact ⟨Nat.le_of_ble_eq_true rfl, Nat.le_of_ble_eq_true rfl⟩) rfl rfl (Nat.le_of_ble_eq_true rfl) dX7_reachFrom_30 rfl (⟨Nat.zero_le _, Nat.zero_le _⟩) ?_
  rintro _ _ ⟨rfl, rfl⟩
  have hRI2 : RI (gRt2 M (tb i) kp e) := gReachR_RI hRI1 _ (by rw [gRt1_2]; exact q9)
  refine v_aload_n (pc' := 34) (i := 0) (j := 0) X dX7_reachFrom_33 rfl rfl rfl ?_
  refine fk_X7_26 (pc' := 37) X dX7_reachFrom_34 rfl ?_
  refine v_aload_n (pc' := 38) (i := 1) (j := 1) X dX7_reachFrom_37 rfl rfl rfl ?_
  refine fk_X7_100 (pc' := 41) X hi h16 dX7_reachFrom_38 rfl ?_
  refine fk_X7_390 (pc' := 44) X hi h16 dX7_reachFrom_41 rfl ?_
  refine v_aload_n (pc' := 45) (i := 1) (j := 1) X dX7_reachFrom_44 rfl rfl rfl ?_
  refine fk_X7_100 (pc' := 48) X hi h16 dX7_reachFrom_45 rfl ?_
  refine fk_X7_104 (pc' := 51) X hi h16 (v := nI r9) ((congrFun (gRt2_1 tb3) _).trans h3) dX7_reachFrom_48 rfl ?_
  refine v_callVN (pc' := 54) X (st := []) (c_X1_reachPlaces (M := (gRt2 M (tb i) kp e)) (c := tb i + 15) (mG_15 hi) (hG_15 h16) (by decide) (e := r9) (by omega) tb3 hRI2 (by rw [gRt2_1 tb3]; exact q15)) k_X1_reachPlaces n_ml_X7_393 w_im_X1_reachPlaces w_se_X1_X1_reachPlaces rw_X1 (by rw [hR]; exact ⟨Nat.le_of_ble_eq_true rfl, Nat.le_of_ble_eq_true rfl⟩) rfl rfl (Nat.le_of_ble_eq_true rfl) dX7_reachFrom_51 rfl (⟨Nat.zero_le _, Nat.zero_le _⟩) ?_
  rintro _ _ ⟨rfl, rfl⟩
  have hRI3 : RI (gRt3 M (tb i) kp e r9) := gReachR_RI hRI2 _ (by rw [gRt2_1 tb3]; exact q15)
  refine v_aload_n (pc' := 55) (i := 0) (j := 0) X dX7_reachFrom_54 rfl rfl rfl ?_
  refine fk_X7_26 (pc' := 58) X dX7_reachFrom_55 rfl ?_
  refine v_aload_n (pc' := 59) (i := 1) (j := 1) X dX7_reachFrom_58 rfl rfl rfl ?_
  refine fk_X7_100 (pc' := 62) X hi h16 dX7_reachFrom_59 rfl ?_
  refine fk_X7_338 (pc' := 65) X hi h16 dX7_reachFrom_62 rfl ?_
  refine v_aload_n (pc' := 66) (i := 1) (j := 1) X dX7_reachFrom_65 rfl rfl rfl ?_
  refine fk_X7_100 (pc' := 69) X hi h16 dX7_reachFrom_66 rfl ?_
  refine fk_X7_109 (pc' := 72) X hi h16 (v := nI nw) ((congrFun (gRt3_1 tb3) _).trans h4) dX7_reachFrom_69 rfl ?_
  refine v_callVN (pc' := 75) X (st := []) (c_X1_reachPlaces (M := (gRt3 M (tb i) kp e r9)) (c := tb i + 16) (mG_16 hi) (hG_16 h16) (by decide) (e := nw) (by omega) tb3 hRI3 (by rw [gRt3_1 tb3]; exact q16)) k_X1_reachPlaces n_ml_X7_393 w_im_X1_reachPlaces w_se_X1_X1_reachPlaces rw_X1 (by rw [hR]; exact ⟨Nat.le_of_ble_eq_true rfl, Nat.le_of_ble_eq_true rfl⟩) rfl rfl (Nat.le_of_ble_eq_true rfl) dX7_reachFrom_72 rfl (⟨Nat.zero_le _, Nat.zero_le _⟩) ?_
  rintro _ _ ⟨rfl, rfl⟩
  have hRI4 : RI (gRt4 M (tb i) kp e r9 nw) := gReachR_RI hRI3 _ (by rw [gRt3_1 tb3]; exact q16)
  refine v_aload_n (pc' := 76) (i := 0) (j := 0) X dX7_reachFrom_75 rfl rfl rfl ?_
  refine fk_X7_26 (pc' := 79) X dX7_reachFrom_76 rfl ?_
  refine v_aload_n (pc' := 80) (i := 1) (j := 1) X dX7_reachFrom_79 rfl rfl rfl ?_
  refine fk_X7_100 (pc' := 83) X hi h16 dX7_reachFrom_80 rfl ?_
  refine fk_X7_314 (pc' := 86) X hi h16 dX7_reachFrom_83 rfl ?_
  refine v_aload_n (pc' := 87) (i := 1) (j := 1) X dX7_reachFrom_86 rfl rfl rfl ?_
  refine fk_X7_100 (pc' := 90) X hi h16 dX7_reachFrom_87 rfl ?_
  refine fk_X7_109 (pc' := 93) X hi h16 (v := nI nw) ((congrFun (gRt4_1 tb3) _).trans h4) dX7_reachFrom_90 rfl ?_
  refine v_callVN (pc' := 96) X (st := []) (c_X1_reachRow (M := (gRt4 M (tb i) kp e r9 nw)) (c := tb i + 17) (mG_17 hi) (hG_17 h16) (by decide) (e := nw) (by omega) hRI4 (by rw [gRt4_2]; exact q17)) k_X1_reachRow n_ml_X7_365 w_im_X1_reachRow w_se_X1_X1_reachRow rw_X1 (by rw [hR]; exact ⟨Nat.le_of_ble_eq_true rfl, Nat.le_of_ble_eq_true rfl⟩) rfl rfl (Nat.le_of_ble_eq_true rfl) dX7_reachFrom_93 rfl (⟨Nat.zero_le _, Nat.zero_le _⟩) ?_
  rintro _ _ ⟨rfl, rfl⟩
  have hRI5 : RI (gRt5 M (tb i) kp e r9 nw) := gReachR_RI hRI4 _ (by rw [gRt4_2]; exact q17)
  refine v_return X R (Nat.zero_le _) (Nat.zero_le _) dX7_reachFrom_96 ?_
  exact ⟨rfl, rfl⟩
