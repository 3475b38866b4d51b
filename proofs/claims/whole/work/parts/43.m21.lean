/-! THE CLASS'S ROWS COPIED; LOGS AND STRANDS -/
theorem w_in_Sys : Cond.initialized "java/lang/System" ∈ gw := gw_in (i := 88) (by decide +kernel) (by decide +kernel)
theorem p_copyl {K : vKt} {cc : ByteArray} {own : String} {nL n1 n2 pc pc' : Nat} {lv : List (Nat × Value)} {st : List Value} {cell : vCell} {cs : List Nat} {ad : Nat → Nat} {M : vM} {c c2 : Nat} (X : vOk K cc own nL) {index : Nat} (hlink : Cond.methodLink own index arraycopyName ∈ gw) (hm : c ∈ cs) (hm2 : c2 ∈ cs) (t0 : Nat) {cT : ClassId} {m1 m2 : Nat} (he : ∀ f g, cell c f g = .inl (cT, m1, .inr (.inl g))) (he2 : ∀ f g, cell c2 f g = .inl (cT, m2, .inr (.inl g))) (ht : (vTy (kY K))[t0]? = some (cT, .long)) {ix iy iz : Int32} (sp dp nq : Nat) (hx : ix = nI sp) (hy : iy = nI dp) (hz : iz = nI nq) (h4 : sp + nq ≤ m1) (h5 : dp + nq ≤ m2) (h6 : m1 < 2 ^ 31) (h7 : m2 < 2 ^ 31) (hframes : 1 ≤ (kR K).frames) (hlocals : (st.map fun v => v.category).sum + (nativeFrameWords "java/lang/System" "arraycopy" 5 + 11) ≤ (kR K).locals) (d : decode cc pc = .ok (.invokestatic index, 3)) (e : pc + 3 = pc')
    (kk : V K nL (pM cell cs ad (mRL M c2 (vcp (M.2 c) sp dp nq (M.2 c2)))) n1 n2 pc' lv st) : V K nL (pM cell cs ad M) n1 n2 pc lv (.int iz :: .int iy :: .ref (ad c2) :: .int ix :: .ref (ad c) :: st) := by
  refine v_atD (fun hD9 => ?_)
  obtain ⟨q0, g1, g2⟩ := pM_at (ad := ad) (M := M) hm (he (M.1 c) (M.2 c))
  obtain ⟨q1, g3, g4⟩ := pM_at (ad := ad) (M := M) hm2 (he2 (M.1 c2) (M.2 c2))
  subst e hx hy hz
  intro H locs ls hP hD hS hl9
  refine va_copyl X.x X.b (X.1.2.2.1.trans hl9.1.symm) X.o (X.w hlink) (X.w w_na_System_arraycopy_723) (X.w w_st_System_arraycopy_723) (X.w w_in_Sys) X.k hP hD hS q0 q1 t0 t0 g2 g4 ht ht rfl (nI_pos (by omega)) (nI_pos (by omega)) (nI_pos (by omega)) (by rw [nI_clamp (by omega), nI_clamp (by omega)]; exact h4) (by rw [nI_clamp (by omega), nI_clamp (by omega)]; exact h5) (fun _ _ => rfl) hframes hlocals d (fun H1 locs1 hP1 hD1 hS1 => ?_)
  rw [nI_clamp (by omega), nI_clamp (by omega), nI_clamp (by omega)] at hP1 hD1
  have hset := pM_set2 hD9 g3 (f := vcp (M.2 c) sp dp nq (M.2 c2)) (e := .inl (cT, m2, .inr (.inl (vcp (M.2 c) sp dp nq (M.2 c2))))) (he2 _ _)
  have h8 : va_cpy (M.2 c) (M.2 c2) sp dp nq = vcp (M.2 c) sp dp nq (M.2 c2) := rfl
  rw [h8, hset] at hP1 hD1
  exact kk H1 locs1 ls hP1 hD1 hS1 hl9
def gRest (M : vM) (b k : Nat) : vM := mRL (mI (mI M b 11 (M.1 (b + 13) k)) b 10 (M.1 (b + 12) k)) (b + 8) (vcp (M.2 (b + 9)) (16 * k) 0 16 (M.2 (b + 8)))
def gOpen (M : vM) (b e : Nat) (kind alt : Int32) : vM :=
  let M1 := if kind = 0 then mI M b 13 (nI e) else M
  let M5 := mI (mI (mI (mI M1 (b + 11) e kind) (b + 12) e alt) (b + 13) e (M.1 b 11)) (b + 14) e (M.1 (b + 18) 4)
  mI (mRL M5 (b + 9) (vcp (M.2 (b + 8)) 0 (16 * e) 16 (M.2 (b + 9)))) b 12 (nI (e + 1))
def gBack (M : vM) (b k : Nat) : vM := gDrop (mI (gRest M b k) (b + 18) 4 ((gRest M b k).1 (b + 14) k)) b (nI k)
theorem gRest_13 {M : vM} {b k : Nat} : (gRest M b k).1 b 13 = M.1 b 13 := by
  unfold gRest
  rw [mRL_1, mI_o _ _ _ _ (by decide), mI_o _ _ _ _ (by decide)]
theorem gDrop_n {M : vM} {b c : Nat} {k : Int32} (h : c ≠ b) : (gDrop M b k).1 c = M.1 c := by
  unfold gDrop
  split
  · rw [mI_n _ _ _ _ h, mI_n _ _ _ _ h]
  · rw [mI_n _ _ _ _ h]
def gFail (M : vM) (b : Nat) (why : Int32) : vM := gClear (gDrop (mI (mI M b 8 4) b 9 why) b 0) b
def gAgain (M : vM) (b k : Nat) (clk : Int32) : vM := gBegin (gDrop (gRest M b k) b (nI (k + 1))) b clk
set_option maxHeartbeats 4000000 in
set_option maxRecDepth 100000 in
theorem c_X6_restore {l : Launch} {D : va_G} {Y : Nat → ClassId} {zz : Nat → Nat} {n s cp cq : Nat} {ad : Nat → Nat} {M : vM} {i k : Nat} (hi : i < n) (h16 : i < 16) (hk : k < 24) : Ct l D Y zz yX6_restore cX6_restore 2 none 1 60 [.ref (ad (tb i)), .int (nI k)] (wK Y n s cp cq ad M) 0 0 (fun r w => r = none ∧ w = wK Y n s cp cq ad (gRest M (tb i) k)) := by
  refine v_entry (by decide +kernel) (Nat.le_of_ble_eq_true rfl) ?_
  intro K X R hR hnm hl hD hY hz
  subst hl hD hY hz
  refine v_sub (lv' := [(0, .ref (ad (tb i))), (1, .int (nI k))]) [0, 1] rfl ?_
  refine v_aload_n (pc' := 1) (i := 0) (j := 0) X dX6_restore_0 rfl rfl rfl ?_
  refine v_aload_n (pc' := 2) (i := 0) (j := 0) X dX6_restore_1 rfl rfl rfl ?_
  refine fk_X6_25 (pc' := 5) X hi h16 dX6_restore_2 rfl ?_
  refine v_iload_n (pc' := 6) (i := 1) (j := 1) X dX6_restore_5 rfl rfl rfl ?_
  refine ak_G13 (pc' := 7) X hi h16 (v := M.1 (tb i + 13) k) (k) rfl (by omega) rfl dX6_restore_6 rfl ?_
  refine fq_X6_48 (pc' := 10) X hi h16 dX6_restore_7 rfl ?_
  refine v_aload_n (pc' := 11) (i := 0) (j := 0) X dX6_restore_10 rfl rfl rfl ?_
  refine v_aload_n (pc' := 12) (i := 0) (j := 0) X dX6_restore_11 rfl rfl rfl ?_
  refine fk_X6_22 (pc' := 15) X hi h16 dX6_restore_12 rfl ?_
  refine v_iload_n (pc' := 16) (i := 1) (j := 1) X dX6_restore_15 rfl rfl rfl ?_
  refine ak_G12 (pc' := 17) X hi h16 (v := M.1 (tb i + 12) k) (k) rfl (by omega) (congrFun (mI_n _ _ _ _ (by omega)) _) dX6_restore_16 rfl ?_
  refine fq_X6_57 (pc' := 20) X hi h16 dX6_restore_17 rfl ?_
  refine v_aload_n (pc' := 21) (i := 0) (j := 0) X dX6_restore_20 rfl rfl rfl ?_
  refine fk_X6_31 (pc' := 24) X hi h16 dX6_restore_21 rfl ?_
  refine v_iload_n (pc' := 25) (i := 1) (j := 1) X dX6_restore_24 rfl rfl rfl ?_
  refine v_bipush (pc' := 27) (v := 16) X dX6_restore_25 (by decide) rfl ?_
  refine v_imulV (pc' := 28) (v := nI ((k) * 16)) X (pk_mul (k) 16) dX6_restore_27 rfl ?_
  refine v_aload_n (pc' := 29) (i := 0) (j := 0) X dX6_restore_28 rfl rfl rfl ?_
  refine fk_X6_9 (pc' := 32) X hi h16 dX6_restore_29 rfl ?_
  refine v_iconst (pc' := 33) (v := 0) X dX6_restore_32 (by decide) rfl ?_
  refine v_bipush (pc' := 35) (v := 16) X dX6_restore_33 (by decide) rfl ?_
  refine p_copyl (pc' := 38) X w_ml_X6_63 (mG_9 hi) (mG_8 hi) 1 (hG_9 h16) (hG_8 h16) rfl ((k) * 16) (0) (16) rfl rfl rfl (by omega) (by omega) (by decide) (by decide) (by rw [hR]; exact Nat.le_of_ble_eq_true rfl) (by rw [hR]; exact Nat.le_of_ble_eq_true rfl) dX6_restore_35 rfl ?_
  refine v_return X R (Nat.zero_le _) (Nat.zero_le _) dX6_restore_38 ?_
  unfold gRest
  rw [Nat.mul_comm 16 k]
  exact ⟨rfl, rfl⟩
set_option maxHeartbeats 4000000 in
set_option maxRecDepth 100000 in
theorem c_X6_rollBackTo {l : Launch} {D : va_G} {Y : Nat → ClassId} {zz : Nat → Nat} {n s cp cq : Nat} {ad : Nat → Nat} {M : vM} {i k : Nat} (hi : i < n) (h16 : i < 16) (hk : k < 24) : Ct l D Y zz yX6_rollBackTo cX6_rollBackTo 2 none 2 81 [.ref (ad (tb i)), .int (nI k)] (wK Y n s cp cq ad M) 0 0 (fun r w => r = none ∧ w = wK Y n s cp cq ad (gBack M (tb i) k)) := by
  refine v_entry (by decide +kernel) (Nat.le_of_ble_eq_true rfl) ?_
  intro K X R hR hnm hl hD hY hz
  subst hl hD hY hz
  refine v_sub (lv' := [(0, .ref (ad (tb i))), (1, .int (nI k))]) [0, 1] rfl ?_
  refine v_aload_n (pc' := 1) (i := 0) (j := 0) X dX6_rollBackTo_0 rfl rfl rfl ?_
  refine v_iload_n (pc' := 2) (i := 1) (j := 1) X dX6_rollBackTo_1 rfl rfl rfl ?_
  refine v_callV (pc' := 5) X (st := []) (c_X6_restore (M := M) hi h16 (k := k) (by omega)) k_X6_restore w_ml_X6_69 w_im_X6_restore w_se_X6_X6_restore (rw_X6 hi h16) (by rw [hR]; exact ⟨Nat.le_of_ble_eq_true rfl, Nat.le_of_ble_eq_true rfl⟩) rfl rfl (Nat.le_of_ble_eq_true rfl) dX6_rollBackTo_2 rfl (⟨Nat.zero_le _, Nat.zero_le _⟩) ?_
  rintro _ _ ⟨rfl, rfl⟩
  refine v_aload_n (pc' := 6) (i := 0) (j := 0) X dX6_rollBackTo_5 rfl rfl rfl ?_
  refine fk_X6_37 (pc' := 9) X hi h16 dX6_rollBackTo_6 rfl ?_
  refine v_aload_n (pc' := 10) (i := 0) (j := 0) X dX6_rollBackTo_9 rfl rfl rfl ?_
  refine fk_X6_28 (pc' := 13) X hi h16 dX6_rollBackTo_10 rfl ?_
  refine v_iload_n (pc' := 14) (i := 1) (j := 1) X dX6_rollBackTo_13 rfl rfl rfl ?_
  refine ak_G14 (pc' := 15) X hi h16 (v := (gRest M (tb i) k).1 (tb i + 14) k) (k) rfl (by omega) rfl dX6_rollBackTo_14 rfl ?_
  refine fq_X6_60 (pc' := 18) X hi h16 dX6_rollBackTo_15 rfl ?_
  refine v_aload_n (pc' := 19) (i := 0) (j := 0) X dX6_rollBackTo_18 rfl rfl rfl ?_
  refine v_iload_n (pc' := 20) (i := 1) (j := 1) X dX6_rollBackTo_19 rfl rfl rfl ?_
  refine v_callV (pc' := 23) X (st := []) (c_X6_dropNestsTo (M := (mI (gRest M (tb i) k) (tb i + 18) 4 ((gRest M (tb i) k).1 (tb i + 14) k))) hi h16 (k := nI k)) k_X6_dropNestsTo w_ml_X6_73 w_im_X6_dropNestsTo w_se_X6_X6_dropNestsTo (rw_X6 hi h16) (by rw [hR]; exact ⟨Nat.le_of_ble_eq_true rfl, Nat.le_of_ble_eq_true rfl⟩) rfl rfl (Nat.le_of_ble_eq_true rfl) dX6_rollBackTo_20 rfl (⟨Nat.zero_le _, Nat.zero_le _⟩) ?_
  rintro _ _ ⟨rfl, rfl⟩
  refine v_return X R (Nat.zero_le _) (Nat.zero_le _) dX6_rollBackTo_23 ?_
  exact ⟨rfl, rfl⟩
set_option maxHeartbeats 4000000 in
set_option maxRecDepth 100000 in
theorem c_X6_fail {l : Launch} {D : va_G} {Y : Nat → ClassId} {zz : Nat → Nat} {n s cp cq : Nat} {ad : Nat → Nat} {M : vM} {i : Nat} (hi : i < n) (h16 : i < 16) {why : Int32} : Ct l D Y zz yX6_fail cX6_fail 2 none 1 21 [.ref (ad (tb i)), .int why] (wK Y n s cp cq ad M) 0 0 (fun r w => r = none ∧ w = wK Y n s cp cq ad (gFail M (tb i) why)) := by
  refine v_entry (by decide +kernel) (Nat.le_of_ble_eq_true rfl) ?_
  intro K X R hR hnm hl hD hY hz
  subst hl hD hY hz
  refine v_sub (lv' := [(0, .ref (ad (tb i))), (1, .int why)]) [0, 1] rfl ?_
  refine v_aload_n (pc' := 1) (i := 0) (j := 0) X dX6_fail_0 rfl rfl rfl ?_
  refine v_iconst (pc' := 2) (v := 4) X dX6_fail_1 (by decide) rfl ?_
  refine fq_X6_41 (pc' := 5) X hi h16 dX6_fail_2 rfl ?_
  refine v_aload_n (pc' := 6) (i := 0) (j := 0) X dX6_fail_5 rfl rfl rfl ?_
  refine v_iload_n (pc' := 7) (i := 1) (j := 1) X dX6_fail_6 rfl rfl rfl ?_
  refine fq_X6_45 (pc' := 10) X hi h16 dX6_fail_7 rfl ?_
  refine v_aload_n (pc' := 11) (i := 0) (j := 0) X dX6_fail_10 rfl rfl rfl ?_
  refine v_iconst (pc' := 12) (v := 0) X dX6_fail_11 (by decide) rfl ?_
  refine v_callV (pc' := 15) X (st := []) (c_X6_dropNestsTo (M := (mI (mI M (tb i) 8 4) (tb i) 9 why)) hi h16 (k := 0)) k_X6_dropNestsTo w_ml_X6_73 w_im_X6_dropNestsTo w_se_X6_X6_dropNestsTo (rw_X6 hi h16) (by rw [hR]; exact ⟨Nat.le_of_ble_eq_true rfl, Nat.le_of_ble_eq_true rfl⟩) rfl rfl (Nat.le_of_ble_eq_true rfl) dX6_fail_12 rfl (⟨Nat.zero_le _, Nat.zero_le _⟩) ?_
  rintro _ _ ⟨rfl, rfl⟩
  refine v_aload_n (pc' := 16) (i := 0) (j := 0) X dX6_fail_15 rfl rfl rfl ?_
  refine fk_X6_37 (pc' := 19) X hi h16 dX6_fail_16 rfl ?_
  refine v_callVN (pc' := 22) X (st := []) (c_X3_clear (M := (gDrop (mI (mI M (tb i) 8 4) (tb i) 9 why) (tb i) 0)) hi h16) k_X3_clear n_ml_X6_79 w_im_X3_clear w_se_X3_X3_clear (rw_X3 hi h16) (by rw [hR]; exact ⟨Nat.le_of_ble_eq_true rfl, Nat.le_of_ble_eq_true rfl⟩) rfl rfl (Nat.le_of_ble_eq_true rfl) dX6_fail_19 rfl (⟨Nat.zero_le _, Nat.zero_le _⟩) ?_
  rintro _ _ ⟨rfl, rfl⟩
  refine v_return X R (Nat.zero_le _) (Nat.zero_le _) dX6_fail_22 ?_
  exact ⟨rfl, rfl⟩
set_option maxHeartbeats 4000000 in
set_option maxRecDepth 100000 in
theorem c_X6_beginAgain {l : Launch} {D : va_G} {Y : Nat → ClassId} {zz : Nat → Nat} {n s cp cq : Nat} {ad : Nat → Nat} {M : vM} {i k : Nat} (hi : i < n) (h16 : i < 16) (h13 : M.1 (tb i) 13 = nI k) (hk : k < 24) {clk : Int32} : Ct l D Y zz yX6_beginAgain cX6_beginAgain 2 none 2 81 [.ref (ad (tb i)), .int clk] (wK Y n s cp cq ad M) 0 0 (fun r w => r = none ∧ w = wK Y n s cp cq ad (gAgain M (tb i) k clk)) := by
  refine v_entry (by decide +kernel) (Nat.le_of_ble_eq_true rfl) ?_
  intro K X R hR hnm hl hD hY hz
  subst hl hD hY hz
  refine v_sub (lv' := [(0, .ref (ad (tb i))), (1, .int clk)]) [0, 1] rfl ?_
  refine v_aload_n (pc' := 1) (i := 0) (j := 0) X dX6_beginAgain_0 rfl rfl rfl ?_
  refine v_aload_n (pc' := 2) (i := 0) (j := 0) X dX6_beginAgain_1 rfl rfl rfl ?_
  refine fk_X6_54 (pc' := 5) X hi h16 (v := nI k) h13 dX6_beginAgain_2 rfl ?_
  refine v_callV (pc' := 8) X (st := []) (c_X6_restore (M := M) hi h16 (k := k) (by omega)) k_X6_restore w_ml_X6_69 w_im_X6_restore w_se_X6_X6_restore (rw_X6 hi h16) (by rw [hR]; exact ⟨Nat.le_of_ble_eq_true rfl, Nat.le_of_ble_eq_true rfl⟩) rfl rfl (Nat.le_of_ble_eq_true rfl) dX6_beginAgain_5 rfl (⟨Nat.zero_le _, Nat.zero_le _⟩) ?_
  rintro _ _ ⟨rfl, rfl⟩
  have hR13 : (gRest M (tb i) k).1 (tb i) 13 = nI k := gRest_13.trans h13
  refine v_aload_n (pc' := 9) (i := 0) (j := 0) X dX6_beginAgain_8 rfl rfl rfl ?_
  refine v_aload_n (pc' := 10) (i := 0) (j := 0) X dX6_beginAgain_9 rfl rfl rfl ?_
  refine fk_X6_54 (pc' := 13) X hi h16 (v := nI k) hR13 dX6_beginAgain_10 rfl ?_
  refine v_iconst (pc' := 14) (v := 1) X dX6_beginAgain_13 (by decide) rfl ?_
  refine v_iaddV (pc' := 15) (v := nI (k + 1)) X (nI_add (k) 1) dX6_beginAgain_14 rfl ?_
  refine v_callV (pc' := 18) X (st := []) (c_X6_dropNestsTo (M := (gRest M (tb i) k)) hi h16 (k := nI (k + 1))) k_X6_dropNestsTo w_ml_X6_73 w_im_X6_dropNestsTo w_se_X6_X6_dropNestsTo (rw_X6 hi h16) (by rw [hR]; exact ⟨Nat.le_of_ble_eq_true rfl, Nat.le_of_ble_eq_true rfl⟩) rfl rfl (Nat.le_of_ble_eq_true rfl) dX6_beginAgain_15 rfl (⟨Nat.zero_le _, Nat.zero_le _⟩) ?_
  rintro _ _ ⟨rfl, rfl⟩
  refine v_aload_n (pc' := 19) (i := 0) (j := 0) X dX6_beginAgain_18 rfl rfl rfl ?_
  refine fk_X6_37 (pc' := 22) X hi h16 dX6_beginAgain_19 rfl ?_
  refine v_iload_n (pc' := 23) (i := 1) (j := 1) X dX6_beginAgain_22 rfl rfl rfl ?_
  refine v_callVN (pc' := 26) X (st := []) (c_X3_begin (M := (gDrop (gRest M (tb i) k) (tb i) (nI (k + 1)))) hi h16 (c := clk)) k_X3_begin n_ml_X6_76 w_im_X3_begin w_se_X3_X3_begin (rw_X3 hi h16) (by rw [hR]; exact ⟨Nat.le_of_ble_eq_true rfl, Nat.le_of_ble_eq_true rfl⟩) rfl rfl (Nat.le_of_ble_eq_true rfl) dX6_beginAgain_23 rfl (⟨Nat.zero_le _, Nat.zero_le _⟩) ?_
  rintro _ _ ⟨rfl, rfl⟩
  refine v_return X R (Nat.zero_le _) (Nat.zero_le _) dX6_beginAgain_26 ?_
  exact ⟨rfl, rfl⟩
set_option maxHeartbeats 4000000 in
set_option maxRecDepth 100000 in
theorem c_X6_openNest {l : Launch} {D : va_G} {Y : Nat → ClassId} {zz : Nat → Nat} {n s cp cq : Nat} {ad : Nat → Nat} {M : vM} {i e : Nat} (hi : i < n) (h16 : i < 16) (h12 : M.1 (tb i) 12 = nI e) (he : e < 24) {kind alt : Int32} : Ct l D Y zz yX6_openNest cX6_openNest 3 none 1 60 [.ref (ad (tb i)), .int kind, .int alt] (wK Y n s cp cq ad M) 0 0 (fun r w => r = none ∧ w = wK Y n s cp cq ad (gOpen M (tb i) e kind alt)) := by
  refine v_entry (by decide +kernel) (Nat.le_of_ble_eq_true rfl) ?_
  intro K X R hR hnm hl hD hY hz
  subst hl hD hY hz
  refine v_sub (lv' := [(0, .ref (ad (tb i))), (1, .int kind), (2, .int alt)]) [0, 1, 2] rfl ?_
  refine v_iload_n (pc' := 1) (i := 1) (j := 1) X dX6_openNest_0 rfl rfl rfl ?_
  refine v_if_ne (pc' := 4) (tgt := 12) X dX6_openNest_1 (by decide) rfl (fun hc_1 => ?_) (fun hc_1 => ?_)
  -- taken 1
  · refine v_aload_n (pc' := 13) (i := 0) (j := 0) X dX6_openNest_12 rfl rfl rfl ?_
    refine fk_X6_19 (pc' := 16) X hi h16 dX6_openNest_13 rfl ?_
    refine v_aload_n (pc' := 17) (i := 0) (j := 0) X dX6_openNest_16 rfl rfl rfl ?_
    refine fk_X6_51 (pc' := 20) X hi h16 (v := nI e) h12 dX6_openNest_17 rfl ?_
    refine v_iload_n (pc' := 21) (i := 1) (j := 1) X dX6_openNest_20 rfl rfl rfl ?_
    refine aq_G11 (pc' := 22) X hi h16 (e) rfl (by omega) dX6_openNest_21 rfl ?_
    refine v_aload_n (pc' := 23) (i := 0) (j := 0) X dX6_openNest_22 rfl rfl rfl ?_
    refine fk_X6_22 (pc' := 26) X hi h16 dX6_openNest_23 rfl ?_
    refine v_aload_n (pc' := 27) (i := 0) (j := 0) X dX6_openNest_26 rfl rfl rfl ?_
    refine fk_X6_51 (pc' := 30) X hi h16 (v := nI e) ((congrFun (mI_n _ _ _ _ (by omega)) _).trans h12) dX6_openNest_27 rfl ?_
    refine v_iload_n (pc' := 31) (i := 2) (j := 2) X dX6_openNest_30 rfl rfl rfl ?_
    refine aq_G12 (pc' := 32) X hi h16 (e) rfl (by omega) dX6_openNest_31 rfl ?_
    refine v_aload_n (pc' := 33) (i := 0) (j := 0) X dX6_openNest_32 rfl rfl rfl ?_
    refine fk_X6_25 (pc' := 36) X hi h16 dX6_openNest_33 rfl ?_
    refine v_aload_n (pc' := 37) (i := 0) (j := 0) X dX6_openNest_36 rfl rfl rfl ?_
    refine fk_X6_51 (pc' := 40) X hi h16 (v := nI e) ((congrFun (mI_n _ _ _ _ (by omega)) _).trans ((congrFun (mI_n _ _ _ _ (by omega)) _).trans h12)) dX6_openNest_37 rfl ?_
    refine v_aload_n (pc' := 41) (i := 0) (j := 0) X dX6_openNest_40 rfl rfl rfl ?_
    refine fk_X6_48 (pc' := 44) X hi h16 (v := M.1 (tb i) 11) ((congrFun (mI_n _ _ _ _ (by omega)) _).trans (congrFun (mI_n _ _ _ _ (by omega)) _)) dX6_openNest_41 rfl ?_
    refine aq_G13 (pc' := 45) X hi h16 (e) rfl (by omega) dX6_openNest_44 rfl ?_
    refine v_aload_n (pc' := 46) (i := 0) (j := 0) X dX6_openNest_45 rfl rfl rfl ?_
    refine fk_X6_28 (pc' := 49) X hi h16 dX6_openNest_46 rfl ?_
    refine v_aload_n (pc' := 50) (i := 0) (j := 0) X dX6_openNest_49 rfl rfl rfl ?_
    refine fk_X6_51 (pc' := 53) X hi h16 (v := nI e) ((congrFun (mI_n _ _ _ _ (by omega)) _).trans ((congrFun (mI_n _ _ _ _ (by omega)) _).trans ((congrFun (mI_n _ _ _ _ (by omega)) _).trans h12))) dX6_openNest_50 rfl ?_
    refine v_aload_n (pc' := 54) (i := 0) (j := 0) X dX6_openNest_53 rfl rfl rfl ?_
    refine fk_X6_37 (pc' := 57) X hi h16 dX6_openNest_54 rfl ?_
    refine fk_X6_60 (pc' := 60) X hi h16 (v := M.1 (tb i + 18) 4) ((congrFun (mI_n _ _ _ _ (by omega)) _).trans ((congrFun (mI_n _ _ _ _ (by omega)) _).trans (congrFun (mI_n _ _ _ _ (by omega)) _))) dX6_openNest_57 rfl ?_
    refine aq_G14 (pc' := 61) X hi h16 (e) rfl (by omega) dX6_openNest_60 rfl ?_
    refine v_aload_n (pc' := 62) (i := 0) (j := 0) X dX6_openNest_61 rfl rfl rfl ?_
    refine fk_X6_9 (pc' := 65) X hi h16 dX6_openNest_62 rfl ?_
    refine v_iconst (pc' := 66) (v := 0) X dX6_openNest_65 (by decide) rfl ?_
    refine v_aload_n (pc' := 67) (i := 0) (j := 0) X dX6_openNest_66 rfl rfl rfl ?_
    refine fk_X6_31 (pc' := 70) X hi h16 dX6_openNest_67 rfl ?_
    refine v_aload_n (pc' := 71) (i := 0) (j := 0) X dX6_openNest_70 rfl rfl rfl ?_
    refine fk_X6_51 (pc' := 74) X hi h16 (v := nI e) ((congrFun (mI_n _ _ _ _ (by omega)) _).trans ((congrFun (mI_n _ _ _ _ (by omega)) _).trans ((congrFun (mI_n _ _ _ _ (by omega)) _).trans ((congrFun (mI_n _ _ _ _ (by omega)) _).trans h12)))) dX6_openNest_71 rfl ?_
    refine v_bipush (pc' := 76) (v := 16) X dX6_openNest_74 (by decide) rfl ?_
    refine v_imulV (pc' := 77) (v := nI ((e) * 16)) X (pk_mul (e) 16) dX6_openNest_76 rfl ?_
    refine v_bipush (pc' := 79) (v := 16) X dX6_openNest_77 (by decide) rfl ?_
    refine p_copyl (pc' := 82) X w_ml_X6_63 (mG_8 hi) (mG_9 hi) 1 (hG_8 h16) (hG_9 h16) rfl (0) ((e) * 16) (16) rfl rfl rfl (by omega) (by omega) (by decide) (by decide) (by rw [hR]; exact Nat.le_of_ble_eq_true rfl) (by rw [hR]; exact Nat.le_of_ble_eq_true rfl) dX6_openNest_79 rfl ?_
    refine v_aload_n (pc' := 83) (i := 0) (j := 0) X dX6_openNest_82 rfl rfl rfl ?_
    refine v_dup (pc' := 84) X dX6_openNest_83 rfl rfl ?_
    refine fk_X6_51 (pc' := 87) X hi h16 (v := nI e) ((congrFun (congrFun (mRL_1 _ _ _) _) _).trans ((congrFun (mI_n _ _ _ _ (by omega)) _).trans ((congrFun (mI_n _ _ _ _ (by omega)) _).trans ((congrFun (mI_n _ _ _ _ (by omega)) _).trans ((congrFun (mI_n _ _ _ _ (by omega)) _).trans h12))))) dX6_openNest_84 rfl ?_
    refine v_iconst (pc' := 88) (v := 1) X dX6_openNest_87 (by decide) rfl ?_
    refine v_iaddV (pc' := 89) (v := nI (e + 1)) X (nI_add (e) 1) dX6_openNest_88 rfl ?_
    refine fq_X6_51 (pc' := 92) X hi h16 dX6_openNest_89 rfl ?_
    refine v_return X R (Nat.zero_le _) (Nat.zero_le _) dX6_openNest_92 ?_
    unfold gOpen
    dsimp only
    rw [if_neg hc_1, Nat.mul_comm 16 e]
    exact ⟨rfl, rfl⟩
  -- not taken 1
  · refine v_aload_n (pc' := 5) (i := 0) (j := 0) X dX6_openNest_4 rfl rfl rfl ?_
    refine v_aload_n (pc' := 6) (i := 0) (j := 0) X dX6_openNest_5 rfl rfl rfl ?_
    refine fk_X6_51 (pc' := 9) X hi h16 (v := nI e) h12 dX6_openNest_6 rfl ?_
    refine fq_X6_54 (pc' := 12) X hi h16 dX6_openNest_9 rfl ?_
    refine v_aload_n (pc' := 13) (i := 0) (j := 0) X dX6_openNest_12 rfl rfl rfl ?_
    refine fk_X6_19 (pc' := 16) X hi h16 dX6_openNest_13 rfl ?_
    refine v_aload_n (pc' := 17) (i := 0) (j := 0) X dX6_openNest_16 rfl rfl rfl ?_
    refine fk_X6_51 (pc' := 20) X hi h16 (v := nI e) ((mI_o _ _ _ _ (by decide)).trans h12) dX6_openNest_17 rfl ?_
    refine v_iload_n (pc' := 21) (i := 1) (j := 1) X dX6_openNest_20 rfl rfl rfl ?_
    refine aq_G11 (pc' := 22) X hi h16 (e) rfl (by omega) dX6_openNest_21 rfl ?_
    refine v_aload_n (pc' := 23) (i := 0) (j := 0) X dX6_openNest_22 rfl rfl rfl ?_
    refine fk_X6_22 (pc' := 26) X hi h16 dX6_openNest_23 rfl ?_
    refine v_aload_n (pc' := 27) (i := 0) (j := 0) X dX6_openNest_26 rfl rfl rfl ?_
    refine fk_X6_51 (pc' := 30) X hi h16 (v := nI e) ((congrFun (mI_n _ _ _ _ (by omega)) _).trans ((mI_o _ _ _ _ (by decide)).trans h12)) dX6_openNest_27 rfl ?_
    refine v_iload_n (pc' := 31) (i := 2) (j := 2) X dX6_openNest_30 rfl rfl rfl ?_
    refine aq_G12 (pc' := 32) X hi h16 (e) rfl (by omega) dX6_openNest_31 rfl ?_
    refine v_aload_n (pc' := 33) (i := 0) (j := 0) X dX6_openNest_32 rfl rfl rfl ?_
    refine fk_X6_25 (pc' := 36) X hi h16 dX6_openNest_33 rfl ?_
    refine v_aload_n (pc' := 37) (i := 0) (j := 0) X dX6_openNest_36 rfl rfl rfl ?_
    refine fk_X6_51 (pc' := 40) X hi h16 (v := nI e) ((congrFun (mI_n _ _ _ _ (by omega)) _).trans ((congrFun (mI_n _ _ _ _ (by omega)) _).trans ((mI_o _ _ _ _ (by decide)).trans h12))) dX6_openNest_37 rfl ?_
    refine v_aload_n (pc' := 41) (i := 0) (j := 0) X dX6_openNest_40 rfl rfl rfl ?_
    refine fk_X6_48 (pc' := 44) X hi h16 (v := M.1 (tb i) 11) ((congrFun (mI_n _ _ _ _ (by omega)) _).trans ((congrFun (mI_n _ _ _ _ (by omega)) _).trans (mI_o _ _ _ _ (by decide)))) dX6_openNest_41 rfl ?_
    refine aq_G13 (pc' := 45) X hi h16 (e) rfl (by omega) dX6_openNest_44 rfl ?_
    refine v_aload_n (pc' := 46) (i := 0) (j := 0) X dX6_openNest_45 rfl rfl rfl ?_
    refine fk_X6_28 (pc' := 49) X hi h16 dX6_openNest_46 rfl ?_
    refine v_aload_n (pc' := 50) (i := 0) (j := 0) X dX6_openNest_49 rfl rfl rfl ?_
    refine fk_X6_51 (pc' := 53) X hi h16 (v := nI e) ((congrFun (mI_n _ _ _ _ (by omega)) _).trans ((congrFun (mI_n _ _ _ _ (by omega)) _).trans ((congrFun (mI_n _ _ _ _ (by omega)) _).trans ((mI_o _ _ _ _ (by decide)).trans h12)))) dX6_openNest_50 rfl ?_
    refine v_aload_n (pc' := 54) (i := 0) (j := 0) X dX6_openNest_53 rfl rfl rfl ?_
    refine fk_X6_37 (pc' := 57) X hi h16 dX6_openNest_54 rfl ?_
    refine fk_X6_60 (pc' := 60) X hi h16 (v := M.1 (tb i + 18) 4) ((congrFun (mI_n _ _ _ _ (by omega)) _).trans ((congrFun (mI_n _ _ _ _ (by omega)) _).trans ((congrFun (mI_n _ _ _ _ (by omega)) _).trans (congrFun (mI_n _ _ _ _ (by omega)) _)))) dX6_openNest_57 rfl ?_
    refine aq_G14 (pc' := 61) X hi h16 (e) rfl (by omega) dX6_openNest_60 rfl ?_
    refine v_aload_n (pc' := 62) (i := 0) (j := 0) X dX6_openNest_61 rfl rfl rfl ?_
    refine fk_X6_9 (pc' := 65) X hi h16 dX6_openNest_62 rfl ?_
    refine v_iconst (pc' := 66) (v := 0) X dX6_openNest_65 (by decide) rfl ?_
    refine v_aload_n (pc' := 67) (i := 0) (j := 0) X dX6_openNest_66 rfl rfl rfl ?_
    refine fk_X6_31 (pc' := 70) X hi h16 dX6_openNest_67 rfl ?_
    refine v_aload_n (pc' := 71) (i := 0) (j := 0) X dX6_openNest_70 rfl rfl rfl ?_
    refine fk_X6_51 (pc' := 74) X hi h16 (v := nI e) ((congrFun (mI_n _ _ _ _ (by omega)) _).trans ((congrFun (mI_n _ _ _ _ (by omega)) _).trans ((congrFun (mI_n _ _ _ _ (by omega)) _).trans ((congrFun (mI_n _ _ _ _ (by omega)) _).trans ((mI_o _ _ _ _ (by decide)).trans h12))))) dX6_openNest_71 rfl ?_
    refine v_bipush (pc' := 76) (v := 16) X dX6_openNest_74 (by decide) rfl ?_
    refine v_imulV (pc' := 77) (v := nI ((e) * 16)) X (pk_mul (e) 16) dX6_openNest_76 rfl ?_
    refine v_bipush (pc' := 79) (v := 16) X dX6_openNest_77 (by decide) rfl ?_
    refine p_copyl (pc' := 82) X w_ml_X6_63 (mG_8 hi) (mG_9 hi) 1 (hG_8 h16) (hG_9 h16) rfl (0) ((e) * 16) (16) rfl rfl rfl (by omega) (by omega) (by decide) (by decide) (by rw [hR]; exact Nat.le_of_ble_eq_true rfl) (by rw [hR]; exact Nat.le_of_ble_eq_true rfl) dX6_openNest_79 rfl ?_
    refine v_aload_n (pc' := 83) (i := 0) (j := 0) X dX6_openNest_82 rfl rfl rfl ?_
    refine v_dup (pc' := 84) X dX6_openNest_83 rfl rfl ?_
    refine fk_X6_51 (pc' := 87) X hi h16 (v := nI e) ((congrFun (congrFun (mRL_1 _ _ _) _) _).trans ((congrFun (mI_n _ _ _ _ (by omega)) _).trans ((congrFun (mI_n _ _ _ _ (by omega)) _).trans ((congrFun (mI_n _ _ _ _ (by omega)) _).trans ((congrFun (mI_n _ _ _ _ (by omega)) _).trans ((mI_o _ _ _ _ (by decide)).trans h12)))))) dX6_openNest_84 rfl ?_
    refine v_iconst (pc' := 88) (v := 1) X dX6_openNest_87 (by decide) rfl ?_
    refine v_iaddV (pc' := 89) (v := nI (e + 1)) X (nI_add (e) 1) dX6_openNest_88 rfl ?_
    refine fq_X6_51 (pc' := 92) X hi h16 dX6_openNest_89 rfl ?_
    refine v_return X R (Nat.zero_le _) (Nat.zero_le _) dX6_openNest_92 ?_
    unfold gOpen
    dsimp only
    rw [if_pos hc_1, Nat.mul_comm 16 e]
    exact ⟨rfl, rfl⟩
