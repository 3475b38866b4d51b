/-! THE CLASS'S CONSTRUCTORS (tails of a world) -/
set_option maxHeartbeats 4000000 in
set_option maxRecDepth 100000 in
/-- a log -/
theorem c_X3_init {l : Launch} {D : va_G} {Y : Nat → ClassId} {zz : Nat → Nat} {ws0 : va_W} {h0 : Nat}  : Ct l D Y zz yX3_init cX3_init 1 none 1 12 [.ref h0] (ws0 ++ [(h0, .inr (3, [.null, .null, .null, .int 0, .int 0, .int 0]))]) 3 120 (fun r w => r = none ∧ ∃ q1 q2 q3 : Nat, w = ws0 ++ [(h0, .inr (3, [.ref q1, .ref q2, .ref q3, .int 0, .int 0, .int 0])), (q1, .inl (Y 0, 40, .inl (fun _ => 0))), (q2, .inl (Y 0, 40, .inl (fun _ => 0))), (q3, .inl (Y 1, 40, .inr (.inl (fun _ => 0))))]) := by
  refine v_entry (by decide +kernel) (Nat.le_of_ble_eq_true rfl) ?_
  intro K X R hR hnm hl hD hY hz
  subst hl hD hY hz
  refine v_sub (lv' := [(0, .ref h0)]) [0] rfl ?_
  refine v_aload_n (pc' := 1) (i := 0) (j := 0) X dX3_init_0 rfl rfl rfl ?_
  refine v_objInit (pc' := 4) X w_ml_X3_3 dX3_init_1 rfl (by rw [hR]; exact Nat.le_of_ble_eq_true rfl) (by rw [hR]; exact Nat.le_of_ble_eq_true rfl) ?_
  refine v_aload_n (pc' := 5) (i := 0) (j := 0) X dX3_init_4 rfl rfl rfl ?_
  refine v_bipush (pc' := 7) (v := 40) X dX3_init_5 (by decide) rfl ?_
  refine t_newa (pc' := 9) X 0 (ty := .int) rfl rfl (fun _ h9 => by cases h9) w_ac_int (N' := 40) (a0 := (40, .inl (fun _ => 0))) (fun _ => rfl) (by decide) (by decide) (by decide) (by rw [hR]; exact Nat.le_of_ble_eq_true rfl) (by rw [hR]; exact Nat.le_of_ble_eq_true rfl) dX3_init_7 rfl (fun q1 => ?_)
  refine v_eqw (ws' := (ws0 ++ [(h0, .inr (3, [.null, .null, .null, .int 0, .int 0, .int 0])), (q1, .inl (kY K 0, 40, .inl (fun _ => 0)))])) rfl ?_
  refine v_widen (m1 := 1) (m2 := 40) (Nat.le_of_ble_eq_true rfl) (Nat.le_of_ble_eq_true rfl) ?_
  refine t_putF (pc' := 12) (tl' := [(h0, .inr (3, [.ref q1, .null, .null, .int 0, .int 0, .int 0])), (q1, .inl (kY K 0, 40, .inl (fun _ => 0)))]) X inX3 tyX3 tyX3_ok nmX3 0 rfl rfl 0 (by decide) w_fl_X3_9 rfl rfl hnm rfl (ty := .array .int) (by decide +kernel) rfl rfl (Nat.le_of_ble_eq_true rfl) dX3_init_9 rfl rfl ?_
  refine v_aload_n (pc' := 13) (i := 0) (j := 0) X dX3_init_12 rfl rfl rfl ?_
  refine v_bipush (pc' := 15) (v := 40) X dX3_init_13 (by decide) rfl ?_
  refine t_newa (pc' := 17) X 0 (ty := .int) rfl rfl (fun _ h9 => by cases h9) w_ac_int (N' := 40) (a0 := (40, .inl (fun _ => 0))) (fun _ => rfl) (by decide) (by decide) (by decide) (by rw [hR]; exact Nat.le_of_ble_eq_true rfl) (by rw [hR]; exact Nat.le_of_ble_eq_true rfl) dX3_init_15 rfl (fun q2 => ?_)
  refine v_eqw (ws' := (ws0 ++ [(h0, .inr (3, [.ref q1, .null, .null, .int 0, .int 0, .int 0])), (q1, .inl (kY K 0, 40, .inl (fun _ => 0))), (q2, .inl (kY K 0, 40, .inl (fun _ => 0)))])) rfl ?_
  refine v_widen (m1 := 2) (m2 := 80) (Nat.le_of_ble_eq_true rfl) (Nat.le_of_ble_eq_true rfl) ?_
  refine t_putF (pc' := 20) (tl' := [(h0, .inr (3, [.ref q1, .ref q2, .null, .int 0, .int 0, .int 0])), (q1, .inl (kY K 0, 40, .inl (fun _ => 0))), (q2, .inl (kY K 0, 40, .inl (fun _ => 0)))]) X inX3 tyX3 tyX3_ok nmX3 0 rfl rfl 1 (by decide) w_fl_X3_15 rfl rfl hnm rfl (ty := .array .int) (by decide +kernel) rfl rfl (Nat.le_of_ble_eq_true rfl) dX3_init_17 rfl rfl ?_
  refine v_aload_n (pc' := 21) (i := 0) (j := 0) X dX3_init_20 rfl rfl rfl ?_
  refine v_bipush (pc' := 23) (v := 40) X dX3_init_21 (by decide) rfl ?_
  refine t_newa (pc' := 25) X 1 (ty := .long) rfl rfl (fun _ h9 => by cases h9) w_ac_long (N' := 40) (a0 := (40, .inr (.inl (fun _ => 0)))) (fun _ => rfl) (by decide) (by decide) (by decide) (by rw [hR]; exact Nat.le_of_ble_eq_true rfl) (by rw [hR]; exact Nat.le_of_ble_eq_true rfl) dX3_init_23 rfl (fun q3 => ?_)
  refine v_eqw (ws' := (ws0 ++ [(h0, .inr (3, [.ref q1, .ref q2, .null, .int 0, .int 0, .int 0])), (q1, .inl (kY K 0, 40, .inl (fun _ => 0))), (q2, .inl (kY K 0, 40, .inl (fun _ => 0))), (q3, .inl (kY K 1, 40, .inr (.inl (fun _ => 0))))])) rfl ?_
  refine v_widen (m1 := 3) (m2 := 120) (Nat.le_of_ble_eq_true rfl) (Nat.le_of_ble_eq_true rfl) ?_
  refine t_putF (pc' := 28) (tl' := [(h0, .inr (3, [.ref q1, .ref q2, .ref q3, .int 0, .int 0, .int 0])), (q1, .inl (kY K 0, 40, .inl (fun _ => 0))), (q2, .inl (kY K 0, 40, .inl (fun _ => 0))), (q3, .inl (kY K 1, 40, .inr (.inl (fun _ => 0))))]) X inX3 tyX3 tyX3_ok nmX3 0 rfl rfl 2 (by decide) w_fl_X3_18 rfl rfl hnm rfl (ty := .array .long) (by decide +kernel) rfl rfl (Nat.le_of_ble_eq_true rfl) dX3_init_25 rfl rfl ?_
  refine v_aload_n (pc' := 29) (i := 0) (j := 0) X dX3_init_28 rfl rfl rfl ?_
  refine v_iconst (pc' := 30) (v := 0) X dX3_init_29 (by decide) rfl ?_
  refine t_put (pc' := 33) (tl' := [(h0, .inr (3, [.ref q1, .ref q2, .ref q3, .int 0, .int 0, .int 0])), (q1, .inl (kY K 0, 40, .inl (fun _ => 0))), (q2, .inl (kY K 0, 40, .inl (fun _ => 0))), (q3, .inl (kY K 1, 40, .inr (.inl (fun _ => 0))))]) X inX3 tyX3 tyX3_ok nmX3 0 rfl rfl 3 (by decide) w_fl_X3_22 rfl rfl (ty := .int) (by decide +kernel) rfl rfl (Nat.le_of_ble_eq_true rfl) dX3_init_30 rfl rfl ?_
  refine v_aload_n (pc' := 34) (i := 0) (j := 0) X dX3_init_33 rfl rfl rfl ?_
  refine v_iconst (pc' := 35) (v := 0) X dX3_init_34 (by decide) rfl ?_
  refine t_put (pc' := 38) (tl' := [(h0, .inr (3, [.ref q1, .ref q2, .ref q3, .int 0, .int 0, .int 0])), (q1, .inl (kY K 0, 40, .inl (fun _ => 0))), (q2, .inl (kY K 0, 40, .inl (fun _ => 0))), (q3, .inl (kY K 1, 40, .inr (.inl (fun _ => 0))))]) X inX3 tyX3 tyX3_ok nmX3 0 rfl rfl 4 (by decide) w_fl_X3_26 rfl rfl (ty := .int) (by decide +kernel) rfl rfl (Nat.le_of_ble_eq_true rfl) dX3_init_35 rfl rfl ?_
  refine v_aload_n (pc' := 39) (i := 0) (j := 0) X dX3_init_38 rfl rfl rfl ?_
  refine v_iconst (pc' := 40) (v := 0) X dX3_init_39 (by decide) rfl ?_
  refine t_put (pc' := 43) (tl' := [(h0, .inr (3, [.ref q1, .ref q2, .ref q3, .int 0, .int 0, .int 0])), (q1, .inl (kY K 0, 40, .inl (fun _ => 0))), (q2, .inl (kY K 0, 40, .inl (fun _ => 0))), (q3, .inl (kY K 1, 40, .inr (.inl (fun _ => 0))))]) X inX3 tyX3 tyX3_ok nmX3 0 rfl rfl 5 (by decide) w_fl_X3_29 rfl rfl (ty := .int) (by decide +kernel) rfl rfl (Nat.le_of_ble_eq_true rfl) dX3_init_40 rfl rfl ?_
  refine v_return X R (Nat.le_of_ble_eq_true rfl) (Nat.le_of_ble_eq_true rfl) dX3_init_43 ?_
  exact ⟨rfl, q1, q2, q3, rfl⟩
set_option maxHeartbeats 4000000 in
set_option maxRecDepth 100000 in
/-- a heap -/
theorem c_X1_init {l : Launch} {D : va_G} {Y : Nat → ClassId} {zz : Nat → Nat} {ws0 : va_W} {h0 : Nat}  : Ct l D Y zz yX1_init cX1_init 1 none 1 12 [.ref h0] (ws0 ++ [(h0, .inr (1, [.null, .null, .null, .null, .null, .int 0, .int 0]))]) 5 1000 (fun r w => r = none ∧ ∃ q1 q2 q3 q4 q5 : Nat, w = ws0 ++ [(h0, .inr (1, [.ref q1, .ref q2, .ref q3, .ref q4, .ref q5, .int 0, .int 0])), (q1, .inl (Y 0, 200, .inl (fun _ => 0))), (q2, .inl (Y 1, 200, .inr (.inl (fun _ => 0)))), (q3, .inl (Y 1, 200, .inr (.inl (fun _ => 0)))), (q4, .inl (Y 0, 200, .inl (fun _ => 0))), (q5, .inl (Y 0, 200, .inl (fun _ => 0)))]) := by
  refine v_entry (by decide +kernel) (Nat.le_of_ble_eq_true rfl) ?_
  intro K X R hR hnm hl hD hY hz
  subst hl hD hY hz
  refine v_sub (lv' := [(0, .ref h0)]) [0] rfl ?_
  refine v_aload_n (pc' := 1) (i := 0) (j := 0) X dX1_init_0 rfl rfl rfl ?_
  refine v_objInit (pc' := 4) X w_ml_X1_3 dX1_init_1 rfl (by rw [hR]; exact Nat.le_of_ble_eq_true rfl) (by rw [hR]; exact Nat.le_of_ble_eq_true rfl) ?_
  refine v_aload_n (pc' := 5) (i := 0) (j := 0) X dX1_init_4 rfl rfl rfl ?_
  refine v_sipush (pc' := 8) (v := 200) X dX1_init_5 (by decide) rfl ?_
  refine t_newa (pc' := 10) X 0 (ty := .int) rfl rfl (fun _ h9 => by cases h9) w_ac_int (N' := 200) (a0 := (200, .inl (fun _ => 0))) (fun _ => rfl) (by decide) (by decide) (by decide) (by rw [hR]; exact Nat.le_of_ble_eq_true rfl) (by rw [hR]; exact Nat.le_of_ble_eq_true rfl) dX1_init_8 rfl (fun q1 => ?_)
  refine v_eqw (ws' := (ws0 ++ [(h0, .inr (1, [.null, .null, .null, .null, .null, .int 0, .int 0])), (q1, .inl (kY K 0, 200, .inl (fun _ => 0)))])) rfl ?_
  refine v_widen (m1 := 1) (m2 := 200) (Nat.le_of_ble_eq_true rfl) (Nat.le_of_ble_eq_true rfl) ?_
  refine t_putF (pc' := 13) (tl' := [(h0, .inr (1, [.ref q1, .null, .null, .null, .null, .int 0, .int 0])), (q1, .inl (kY K 0, 200, .inl (fun _ => 0)))]) X inX1 tyX1 tyX1_ok nmX1 0 rfl rfl 0 (by decide) w_fl_X1_9 rfl rfl hnm rfl (ty := .array .int) (by decide +kernel) rfl rfl (Nat.le_of_ble_eq_true rfl) dX1_init_10 rfl rfl ?_
  refine v_aload_n (pc' := 14) (i := 0) (j := 0) X dX1_init_13 rfl rfl rfl ?_
  refine v_sipush (pc' := 17) (v := 200) X dX1_init_14 (by decide) rfl ?_
  refine t_newa (pc' := 19) X 1 (ty := .long) rfl rfl (fun _ h9 => by cases h9) w_ac_long (N' := 200) (a0 := (200, .inr (.inl (fun _ => 0)))) (fun _ => rfl) (by decide) (by decide) (by decide) (by rw [hR]; exact Nat.le_of_ble_eq_true rfl) (by rw [hR]; exact Nat.le_of_ble_eq_true rfl) dX1_init_17 rfl (fun q2 => ?_)
  refine v_eqw (ws' := (ws0 ++ [(h0, .inr (1, [.ref q1, .null, .null, .null, .null, .int 0, .int 0])), (q1, .inl (kY K 0, 200, .inl (fun _ => 0))), (q2, .inl (kY K 1, 200, .inr (.inl (fun _ => 0))))])) rfl ?_
  refine v_widen (m1 := 2) (m2 := 400) (Nat.le_of_ble_eq_true rfl) (Nat.le_of_ble_eq_true rfl) ?_
  refine t_putF (pc' := 22) (tl' := [(h0, .inr (1, [.ref q1, .ref q2, .null, .null, .null, .int 0, .int 0])), (q1, .inl (kY K 0, 200, .inl (fun _ => 0))), (q2, .inl (kY K 1, 200, .inr (.inl (fun _ => 0))))]) X inX1 tyX1 tyX1_ok nmX1 0 rfl rfl 1 (by decide) w_fl_X1_15 rfl rfl hnm rfl (ty := .array .long) (by decide +kernel) rfl rfl (Nat.le_of_ble_eq_true rfl) dX1_init_19 rfl rfl ?_
  refine v_aload_n (pc' := 23) (i := 0) (j := 0) X dX1_init_22 rfl rfl rfl ?_
  refine v_sipush (pc' := 26) (v := 200) X dX1_init_23 (by decide) rfl ?_
  refine t_newa (pc' := 28) X 1 (ty := .long) rfl rfl (fun _ h9 => by cases h9) w_ac_long (N' := 200) (a0 := (200, .inr (.inl (fun _ => 0)))) (fun _ => rfl) (by decide) (by decide) (by decide) (by rw [hR]; exact Nat.le_of_ble_eq_true rfl) (by rw [hR]; exact Nat.le_of_ble_eq_true rfl) dX1_init_26 rfl (fun q3 => ?_)
  refine v_eqw (ws' := (ws0 ++ [(h0, .inr (1, [.ref q1, .ref q2, .null, .null, .null, .int 0, .int 0])), (q1, .inl (kY K 0, 200, .inl (fun _ => 0))), (q2, .inl (kY K 1, 200, .inr (.inl (fun _ => 0)))), (q3, .inl (kY K 1, 200, .inr (.inl (fun _ => 0))))])) rfl ?_
  refine v_widen (m1 := 3) (m2 := 600) (Nat.le_of_ble_eq_true rfl) (Nat.le_of_ble_eq_true rfl) ?_
  refine t_putF (pc' := 31) (tl' := [(h0, .inr (1, [.ref q1, .ref q2, .ref q3, .null, .null, .int 0, .int 0])), (q1, .inl (kY K 0, 200, .inl (fun _ => 0))), (q2, .inl (kY K 1, 200, .inr (.inl (fun _ => 0)))), (q3, .inl (kY K 1, 200, .inr (.inl (fun _ => 0))))]) X inX1 tyX1 tyX1_ok nmX1 0 rfl rfl 2 (by decide) w_fl_X1_19 rfl rfl hnm rfl (ty := .array .long) (by decide +kernel) rfl rfl (Nat.le_of_ble_eq_true rfl) dX1_init_28 rfl rfl ?_
  refine v_aload_n (pc' := 32) (i := 0) (j := 0) X dX1_init_31 rfl rfl rfl ?_
  refine v_sipush (pc' := 35) (v := 200) X dX1_init_32 (by decide) rfl ?_
  refine t_newa (pc' := 37) X 0 (ty := .int) rfl rfl (fun _ h9 => by cases h9) w_ac_int (N' := 200) (a0 := (200, .inl (fun _ => 0))) (fun _ => rfl) (by decide) (by decide) (by decide) (by rw [hR]; exact Nat.le_of_ble_eq_true rfl) (by rw [hR]; exact Nat.le_of_ble_eq_true rfl) dX1_init_35 rfl (fun q4 => ?_)
  refine v_eqw (ws' := (ws0 ++ [(h0, .inr (1, [.ref q1, .ref q2, .ref q3, .null, .null, .int 0, .int 0])), (q1, .inl (kY K 0, 200, .inl (fun _ => 0))), (q2, .inl (kY K 1, 200, .inr (.inl (fun _ => 0)))), (q3, .inl (kY K 1, 200, .inr (.inl (fun _ => 0)))), (q4, .inl (kY K 0, 200, .inl (fun _ => 0)))])) rfl ?_
  refine v_widen (m1 := 4) (m2 := 800) (Nat.le_of_ble_eq_true rfl) (Nat.le_of_ble_eq_true rfl) ?_
  refine t_putF (pc' := 40) (tl' := [(h0, .inr (1, [.ref q1, .ref q2, .ref q3, .ref q4, .null, .int 0, .int 0])), (q1, .inl (kY K 0, 200, .inl (fun _ => 0))), (q2, .inl (kY K 1, 200, .inr (.inl (fun _ => 0)))), (q3, .inl (kY K 1, 200, .inr (.inl (fun _ => 0)))), (q4, .inl (kY K 0, 200, .inl (fun _ => 0)))]) X inX1 tyX1 tyX1_ok nmX1 0 rfl rfl 3 (by decide) w_fl_X1_22 rfl rfl hnm rfl (ty := .array .int) (by decide +kernel) rfl rfl (Nat.le_of_ble_eq_true rfl) dX1_init_37 rfl rfl ?_
  refine v_aload_n (pc' := 41) (i := 0) (j := 0) X dX1_init_40 rfl rfl rfl ?_
  refine v_sipush (pc' := 44) (v := 200) X dX1_init_41 (by decide) rfl ?_
  refine t_newa (pc' := 46) X 0 (ty := .int) rfl rfl (fun _ h9 => by cases h9) w_ac_int (N' := 200) (a0 := (200, .inl (fun _ => 0))) (fun _ => rfl) (by decide) (by decide) (by decide) (by rw [hR]; exact Nat.le_of_ble_eq_true rfl) (by rw [hR]; exact Nat.le_of_ble_eq_true rfl) dX1_init_44 rfl (fun q5 => ?_)
  refine v_eqw (ws' := (ws0 ++ [(h0, .inr (1, [.ref q1, .ref q2, .ref q3, .ref q4, .null, .int 0, .int 0])), (q1, .inl (kY K 0, 200, .inl (fun _ => 0))), (q2, .inl (kY K 1, 200, .inr (.inl (fun _ => 0)))), (q3, .inl (kY K 1, 200, .inr (.inl (fun _ => 0)))), (q4, .inl (kY K 0, 200, .inl (fun _ => 0))), (q5, .inl (kY K 0, 200, .inl (fun _ => 0)))])) rfl ?_
  refine v_widen (m1 := 5) (m2 := 1000) (Nat.le_of_ble_eq_true rfl) (Nat.le_of_ble_eq_true rfl) ?_
  refine t_putF (pc' := 49) (tl' := [(h0, .inr (1, [.ref q1, .ref q2, .ref q3, .ref q4, .ref q5, .int 0, .int 0])), (q1, .inl (kY K 0, 200, .inl (fun _ => 0))), (q2, .inl (kY K 1, 200, .inr (.inl (fun _ => 0)))), (q3, .inl (kY K 1, 200, .inr (.inl (fun _ => 0)))), (q4, .inl (kY K 0, 200, .inl (fun _ => 0))), (q5, .inl (kY K 0, 200, .inl (fun _ => 0)))]) X inX1 tyX1 tyX1_ok nmX1 0 rfl rfl 4 (by decide) w_fl_X1_25 rfl rfl hnm rfl (ty := .array .int) (by decide +kernel) rfl rfl (Nat.le_of_ble_eq_true rfl) dX1_init_46 rfl rfl ?_
  refine v_aload_n (pc' := 50) (i := 0) (j := 0) X dX1_init_49 rfl rfl rfl ?_
  refine v_iconst (pc' := 51) (v := 0) X dX1_init_50 (by decide) rfl ?_
  refine t_put (pc' := 54) (tl' := [(h0, .inr (1, [.ref q1, .ref q2, .ref q3, .ref q4, .ref q5, .int 0, .int 0])), (q1, .inl (kY K 0, 200, .inl (fun _ => 0))), (q2, .inl (kY K 1, 200, .inr (.inl (fun _ => 0)))), (q3, .inl (kY K 1, 200, .inr (.inl (fun _ => 0)))), (q4, .inl (kY K 0, 200, .inl (fun _ => 0))), (q5, .inl (kY K 0, 200, .inl (fun _ => 0)))]) X inX1 tyX1 tyX1_ok nmX1 0 rfl rfl 5 (by decide) w_fl_X1_28 rfl rfl (ty := .int) (by decide +kernel) rfl rfl (Nat.le_of_ble_eq_true rfl) dX1_init_51 rfl rfl ?_
  refine v_aload_n (pc' := 55) (i := 0) (j := 0) X dX1_init_54 rfl rfl rfl ?_
  refine v_iconst (pc' := 56) (v := 0) X dX1_init_55 (by decide) rfl ?_
  refine t_put (pc' := 59) (tl' := [(h0, .inr (1, [.ref q1, .ref q2, .ref q3, .ref q4, .ref q5, .int 0, .int 0])), (q1, .inl (kY K 0, 200, .inl (fun _ => 0))), (q2, .inl (kY K 1, 200, .inr (.inl (fun _ => 0)))), (q3, .inl (kY K 1, 200, .inr (.inl (fun _ => 0)))), (q4, .inl (kY K 0, 200, .inl (fun _ => 0))), (q5, .inl (kY K 0, 200, .inl (fun _ => 0)))]) X inX1 tyX1 tyX1_ok nmX1 0 rfl rfl 6 (by decide) w_fl_X1_32 rfl rfl (ty := .int) (by decide +kernel) rfl rfl (Nat.le_of_ble_eq_true rfl) dX1_init_56 rfl rfl ?_
  refine v_return X R (Nat.le_of_ble_eq_true rfl) (Nat.le_of_ble_eq_true rfl) dX1_init_59 ?_
  exact ⟨rfl, q1, q2, q3, q4, q5, rfl⟩
set_option maxHeartbeats 4000000 in
set_option maxRecDepth 100000 in
/-- a printout -/
theorem c_X5_init {l : Launch} {D : va_G} {Y : Nat → ClassId} {zz : Nat → Nat} {ws0 : va_W} {h0 : Nat}  : Ct l D Y zz yX5_init cX5_init 1 none 1 12 [.ref h0] (ws0 ++ [(h0, .inr (4, [.null, .int 0, .int 0]))]) 1 200 (fun r w => r = none ∧ ∃ q1 : Nat, w = ws0 ++ [(h0, .inr (4, [.ref q1, .int 0, .int 0])), (q1, .inl (Y 0, 200, .inl (fun _ => 0)))]) := by
  refine v_entry (by decide +kernel) (Nat.le_of_ble_eq_true rfl) ?_
  intro K X R hR hnm hl hD hY hz
  subst hl hD hY hz
  refine v_sub (lv' := [(0, .ref h0)]) [0] rfl ?_
  refine v_aload_n (pc' := 1) (i := 0) (j := 0) X dX5_init_0 rfl rfl rfl ?_
  refine v_objInit (pc' := 4) X w_ml_X5_3 dX5_init_1 rfl (by rw [hR]; exact Nat.le_of_ble_eq_true rfl) (by rw [hR]; exact Nat.le_of_ble_eq_true rfl) ?_
  refine v_aload_n (pc' := 5) (i := 0) (j := 0) X dX5_init_4 rfl rfl rfl ?_
  refine v_sipush (pc' := 8) (v := 200) X dX5_init_5 (by decide) rfl ?_
  refine t_newa (pc' := 10) X 0 (ty := .int) rfl rfl (fun _ h9 => by cases h9) w_ac_int (N' := 200) (a0 := (200, .inl (fun _ => 0))) (fun _ => rfl) (by decide) (by decide) (by decide) (by rw [hR]; exact Nat.le_of_ble_eq_true rfl) (by rw [hR]; exact Nat.le_of_ble_eq_true rfl) dX5_init_8 rfl (fun q1 => ?_)
  refine v_eqw (ws' := (ws0 ++ [(h0, .inr (4, [.null, .int 0, .int 0])), (q1, .inl (kY K 0, 200, .inl (fun _ => 0)))])) rfl ?_
  refine v_widen (m1 := 1) (m2 := 200) (Nat.le_of_ble_eq_true rfl) (Nat.le_of_ble_eq_true rfl) ?_
  refine t_putF (pc' := 13) (tl' := [(h0, .inr (4, [.ref q1, .int 0, .int 0])), (q1, .inl (kY K 0, 200, .inl (fun _ => 0)))]) X inX5 tyX5 tyX5_ok nmX5 0 rfl rfl 0 (by decide) w_fl_X5_9 rfl rfl hnm rfl (ty := .array .int) (by decide +kernel) rfl rfl (Nat.le_of_ble_eq_true rfl) dX5_init_10 rfl rfl ?_
  refine v_aload_n (pc' := 14) (i := 0) (j := 0) X dX5_init_13 rfl rfl rfl ?_
  refine v_iconst (pc' := 15) (v := 0) X dX5_init_14 (by decide) rfl ?_
  refine t_put (pc' := 18) (tl' := [(h0, .inr (4, [.ref q1, .int 0, .int 0])), (q1, .inl (kY K 0, 200, .inl (fun _ => 0)))]) X inX5 tyX5 tyX5_ok nmX5 0 rfl rfl 1 (by decide) w_fl_X5_15 rfl rfl (ty := .int) (by decide +kernel) rfl rfl (Nat.le_of_ble_eq_true rfl) dX5_init_15 rfl rfl ?_
  refine v_aload_n (pc' := 19) (i := 0) (j := 0) X dX5_init_18 rfl rfl rfl ?_
  refine v_iconst (pc' := 20) (v := 0) X dX5_init_19 (by decide) rfl ?_
  refine t_put (pc' := 23) (tl' := [(h0, .inr (4, [.ref q1, .int 0, .int 0])), (q1, .inl (kY K 0, 200, .inl (fun _ => 0)))]) X inX5 tyX5 tyX5_ok nmX5 0 rfl rfl 2 (by decide) w_fl_X5_19 rfl rfl (ty := .int) (by decide +kernel) rfl rfl (Nat.le_of_ble_eq_true rfl) dX5_init_20 rfl rfl ?_
  refine v_return X R (Nat.le_of_ble_eq_true rfl) (Nat.le_of_ble_eq_true rfl) dX5_init_23 ?_
  exact ⟨rfl, q1, rfl⟩
set_option maxHeartbeats 4000000 in
set_option maxRecDepth 100000 in
/-- an instruction -/
theorem c_X2_init {l : Launch} {D : va_G} {Y : Nat → ClassId} {zz : Nat → Nat} {ws0 : va_W} {h0 : Nat} {o9 x y z : Int32}  : Ct l D Y zz yX2_init cX2_init 5 none 1 12 [.ref h0, .int o9, .int x, .int y, .int z] (ws0 ++ [(h0, .inr (2, [.int 0, .int 0, .int 0, .int 0]))]) 0 0 (fun r w => r = none ∧ w = ws0 ++ [(h0, .inr (2, [.int o9, .int x, .int y, .int z]))]) := by
  refine v_entry (by decide +kernel) (Nat.le_of_ble_eq_true rfl) ?_
  intro K X R hR hnm hl hD hY hz
  subst hl hD hY hz
  refine v_sub (lv' := [(0, .ref h0), (1, .int o9), (2, .int x), (3, .int y), (4, .int z)]) [0, 1, 2, 3, 4] rfl ?_
  refine v_aload_n (pc' := 1) (i := 0) (j := 0) X dX2_init_0 rfl rfl rfl ?_
  refine v_objInit (pc' := 4) X w_ml_X2_1 dX2_init_1 rfl (by rw [hR]; exact Nat.le_of_ble_eq_true rfl) (by rw [hR]; exact Nat.le_of_ble_eq_true rfl) ?_
  refine v_aload_n (pc' := 5) (i := 0) (j := 0) X dX2_init_4 rfl rfl rfl ?_
  refine v_iload_n (pc' := 6) (i := 1) (j := 1) X dX2_init_5 rfl rfl rfl ?_
  refine t_putF (pc' := 9) (tl' := [(h0, .inr (2, [.int o9, .int 0, .int 0, .int 0]))]) X inX2 tyX2 tyX2_ok nmX2 0 rfl rfl 0 (by decide) w_fl_X2_7 rfl rfl hnm rfl (ty := .int) (by decide +kernel) rfl rfl (Nat.le_of_ble_eq_true rfl) dX2_init_6 rfl rfl ?_
  refine v_aload_n (pc' := 10) (i := 0) (j := 0) X dX2_init_9 rfl rfl rfl ?_
  refine v_iload_n (pc' := 11) (i := 2) (j := 2) X dX2_init_10 rfl rfl rfl ?_
  refine t_putF (pc' := 14) (tl' := [(h0, .inr (2, [.int o9, .int x, .int 0, .int 0]))]) X inX2 tyX2 tyX2_ok nmX2 0 rfl rfl 1 (by decide) w_fl_X2_13 rfl rfl hnm rfl (ty := .int) (by decide +kernel) rfl rfl (Nat.le_of_ble_eq_true rfl) dX2_init_11 rfl rfl ?_
  refine v_aload_n (pc' := 15) (i := 0) (j := 0) X dX2_init_14 rfl rfl rfl ?_
  refine v_iload_n (pc' := 16) (i := 3) (j := 3) X dX2_init_15 rfl rfl rfl ?_
  refine t_putF (pc' := 19) (tl' := [(h0, .inr (2, [.int o9, .int x, .int y, .int 0]))]) X inX2 tyX2 tyX2_ok nmX2 0 rfl rfl 2 (by decide) w_fl_X2_16 rfl rfl hnm rfl (ty := .int) (by decide +kernel) rfl rfl (Nat.le_of_ble_eq_true rfl) dX2_init_16 rfl rfl ?_
  refine v_aload_n (pc' := 20) (i := 0) (j := 0) X dX2_init_19 rfl rfl rfl ?_
  refine v_iload (pc' := 22) (j := 4) X dX2_init_20 rfl rfl ?_
  refine t_putF (pc' := 25) (tl' := [(h0, .inr (2, [.int o9, .int x, .int y, .int z]))]) X inX2 tyX2 tyX2_ok nmX2 0 rfl rfl 3 (by decide) w_fl_X2_19 rfl rfl hnm rfl (ty := .int) (by decide +kernel) rfl rfl (Nat.le_of_ble_eq_true rfl) dX2_init_22 rfl rfl ?_
  refine v_return X R (Nat.le_of_ble_eq_true rfl) (Nat.le_of_ble_eq_true rfl) dX2_init_25 ?_
  exact ⟨rfl, rfl⟩
set_option maxHeartbeats 4000000 in
set_option maxRecDepth 100000 in
/-- a strand -/
theorem c_X6_init {l : Launch} {D : va_G} {Y : Nat → ClassId} {zz : Nat → Nat} {ws0 : va_W} {h0 : Nat} {t9 : Int32}  : Ct l D Y zz yX6_init cX6_init 2 none 2 32 [.ref h0, .int t9] (ws0 ++ [(h0, .inr (5, [.null, .null, .null, .null, .null, .null, .null, .null, .int 0, .int 0, .int 0, .int 0, .int 0, .int 0]))]) 11 662 (fun r w => r = none ∧ ∃ q1 q2 q3 q4 q5 q6 q7 q8 q9 q10 q11 : Nat, w = ws0 ++ [(h0, .inr (5, [.ref q1, .ref q2, .ref q3, .ref q4, .ref q5, .ref q6, .ref q7, .ref q8, .int 1, .int 0, .int t9, .int 0, .int 0, .int (-1)])), (q1, .inl (Y 1, 16, .inr (.inl (fun _ => 0)))), (q2, .inl (Y 0, 40, .inl (fun _ => 0))), (q3, .inl (Y 0, 24, .inl (fun _ => 0))), (q4, .inl (Y 0, 24, .inl (fun _ => 0))), (q5, .inl (Y 0, 24, .inl (fun _ => 0))), (q6, .inl (Y 0, 24, .inl (fun _ => 0))), (q7, .inl (Y 1, 384, .inr (.inl (fun _ => 0)))), (q8, .inr (3, [.ref q9, .ref q10, .ref q11, .int 0, .int 0, .int 0])), (q9, .inl (Y 0, 40, .inl (fun _ => 0))), (q10, .inl (Y 0, 40, .inl (fun _ => 0))), (q11, .inl (Y 1, 40, .inr (.inl (fun _ => 0))))]) := by
  refine v_entry (by decide +kernel) (Nat.le_of_ble_eq_true rfl) ?_
  intro K X R hR hnm hl hD hY hz
  subst hl hD hY hz
  refine v_sub (lv' := [(0, .ref h0), (1, .int t9)]) [0, 1] rfl ?_
  refine v_aload_n (pc' := 1) (i := 0) (j := 0) X dX6_init_0 rfl rfl rfl ?_
  refine v_objInit (pc' := 4) X w_ml_X6_3 dX6_init_1 rfl (by rw [hR]; exact Nat.le_of_ble_eq_true rfl) (by rw [hR]; exact Nat.le_of_ble_eq_true rfl) ?_
  refine v_aload_n (pc' := 5) (i := 0) (j := 0) X dX6_init_4 rfl rfl rfl ?_
  refine v_bipush (pc' := 7) (v := 16) X dX6_init_5 (by decide) rfl ?_
  refine t_newa (pc' := 9) X 1 (ty := .long) rfl rfl (fun _ h9 => by cases h9) w_ac_long (N' := 16) (a0 := (16, .inr (.inl (fun _ => 0)))) (fun _ => rfl) (by decide) (by decide) (by decide) (by rw [hR]; exact Nat.le_of_ble_eq_true rfl) (by rw [hR]; exact Nat.le_of_ble_eq_true rfl) dX6_init_7 rfl (fun q1 => ?_)
  refine v_eqw (ws' := (ws0 ++ [(h0, .inr (5, [.null, .null, .null, .null, .null, .null, .null, .null, .int 0, .int 0, .int 0, .int 0, .int 0, .int 0])), (q1, .inl (kY K 1, 16, .inr (.inl (fun _ => 0))))])) rfl ?_
  refine v_widen (m1 := 1) (m2 := 16) (Nat.le_of_ble_eq_true rfl) (Nat.le_of_ble_eq_true rfl) ?_
  refine t_putF (pc' := 12) (tl' := [(h0, .inr (5, [.ref q1, .null, .null, .null, .null, .null, .null, .null, .int 0, .int 0, .int 0, .int 0, .int 0, .int 0])), (q1, .inl (kY K 1, 16, .inr (.inl (fun _ => 0))))]) X inX6 tyX6 tyX6_ok nmX6 0 rfl rfl 0 (by decide) w_fl_X6_9 rfl rfl hnm rfl (ty := .array .long) (by decide +kernel) rfl rfl (Nat.le_of_ble_eq_true rfl) dX6_init_9 rfl rfl ?_
  refine v_aload_n (pc' := 13) (i := 0) (j := 0) X dX6_init_12 rfl rfl rfl ?_
  refine v_bipush (pc' := 15) (v := 40) X dX6_init_13 (by decide) rfl ?_
  refine t_newa (pc' := 17) X 0 (ty := .int) rfl rfl (fun _ h9 => by cases h9) w_ac_int (N' := 40) (a0 := (40, .inl (fun _ => 0))) (fun _ => rfl) (by decide) (by decide) (by decide) (by rw [hR]; exact Nat.le_of_ble_eq_true rfl) (by rw [hR]; exact Nat.le_of_ble_eq_true rfl) dX6_init_15 rfl (fun q2 => ?_)
  refine v_eqw (ws' := (ws0 ++ [(h0, .inr (5, [.ref q1, .null, .null, .null, .null, .null, .null, .null, .int 0, .int 0, .int 0, .int 0, .int 0, .int 0])), (q1, .inl (kY K 1, 16, .inr (.inl (fun _ => 0)))), (q2, .inl (kY K 0, 40, .inl (fun _ => 0)))])) rfl ?_
  refine v_widen (m1 := 2) (m2 := 56) (Nat.le_of_ble_eq_true rfl) (Nat.le_of_ble_eq_true rfl) ?_
  refine t_putF (pc' := 20) (tl' := [(h0, .inr (5, [.ref q1, .ref q2, .null, .null, .null, .null, .null, .null, .int 0, .int 0, .int 0, .int 0, .int 0, .int 0])), (q1, .inl (kY K 1, 16, .inr (.inl (fun _ => 0)))), (q2, .inl (kY K 0, 40, .inl (fun _ => 0)))]) X inX6 tyX6 tyX6_ok nmX6 0 rfl rfl 1 (by decide) w_fl_X6_15 rfl rfl hnm rfl (ty := .array .int) (by decide +kernel) rfl rfl (Nat.le_of_ble_eq_true rfl) dX6_init_17 rfl rfl ?_
  refine v_aload_n (pc' := 21) (i := 0) (j := 0) X dX6_init_20 rfl rfl rfl ?_
  refine v_bipush (pc' := 23) (v := 24) X dX6_init_21 (by decide) rfl ?_
  refine t_newa (pc' := 25) X 0 (ty := .int) rfl rfl (fun _ h9 => by cases h9) w_ac_int (N' := 24) (a0 := (24, .inl (fun _ => 0))) (fun _ => rfl) (by decide) (by decide) (by decide) (by rw [hR]; exact Nat.le_of_ble_eq_true rfl) (by rw [hR]; exact Nat.le_of_ble_eq_true rfl) dX6_init_23 rfl (fun q3 => ?_)
  refine v_eqw (ws' := (ws0 ++ [(h0, .inr (5, [.ref q1, .ref q2, .null, .null, .null, .null, .null, .null, .int 0, .int 0, .int 0, .int 0, .int 0, .int 0])), (q1, .inl (kY K 1, 16, .inr (.inl (fun _ => 0)))), (q2, .inl (kY K 0, 40, .inl (fun _ => 0))), (q3, .inl (kY K 0, 24, .inl (fun _ => 0)))])) rfl ?_
  refine v_widen (m1 := 3) (m2 := 80) (Nat.le_of_ble_eq_true rfl) (Nat.le_of_ble_eq_true rfl) ?_
  refine t_putF (pc' := 28) (tl' := [(h0, .inr (5, [.ref q1, .ref q2, .ref q3, .null, .null, .null, .null, .null, .int 0, .int 0, .int 0, .int 0, .int 0, .int 0])), (q1, .inl (kY K 1, 16, .inr (.inl (fun _ => 0)))), (q2, .inl (kY K 0, 40, .inl (fun _ => 0))), (q3, .inl (kY K 0, 24, .inl (fun _ => 0)))]) X inX6 tyX6 tyX6_ok nmX6 0 rfl rfl 2 (by decide) w_fl_X6_19 rfl rfl hnm rfl (ty := .array .int) (by decide +kernel) rfl rfl (Nat.le_of_ble_eq_true rfl) dX6_init_25 rfl rfl ?_
  refine v_aload_n (pc' := 29) (i := 0) (j := 0) X dX6_init_28 rfl rfl rfl ?_
  refine v_bipush (pc' := 31) (v := 24) X dX6_init_29 (by decide) rfl ?_
  refine t_newa (pc' := 33) X 0 (ty := .int) rfl rfl (fun _ h9 => by cases h9) w_ac_int (N' := 24) (a0 := (24, .inl (fun _ => 0))) (fun _ => rfl) (by decide) (by decide) (by decide) (by rw [hR]; exact Nat.le_of_ble_eq_true rfl) (by rw [hR]; exact Nat.le_of_ble_eq_true rfl) dX6_init_31 rfl (fun q4 => ?_)
  refine v_eqw (ws' := (ws0 ++ [(h0, .inr (5, [.ref q1, .ref q2, .ref q3, .null, .null, .null, .null, .null, .int 0, .int 0, .int 0, .int 0, .int 0, .int 0])), (q1, .inl (kY K 1, 16, .inr (.inl (fun _ => 0)))), (q2, .inl (kY K 0, 40, .inl (fun _ => 0))), (q3, .inl (kY K 0, 24, .inl (fun _ => 0))), (q4, .inl (kY K 0, 24, .inl (fun _ => 0)))])) rfl ?_
  refine v_widen (m1 := 4) (m2 := 104) (Nat.le_of_ble_eq_true rfl) (Nat.le_of_ble_eq_true rfl) ?_
  refine t_putF (pc' := 36) (tl' := [(h0, .inr (5, [.ref q1, .ref q2, .ref q3, .ref q4, .null, .null, .null, .null, .int 0, .int 0, .int 0, .int 0, .int 0, .int 0])), (q1, .inl (kY K 1, 16, .inr (.inl (fun _ => 0)))), (q2, .inl (kY K 0, 40, .inl (fun _ => 0))), (q3, .inl (kY K 0, 24, .inl (fun _ => 0))), (q4, .inl (kY K 0, 24, .inl (fun _ => 0)))]) X inX6 tyX6 tyX6_ok nmX6 0 rfl rfl 3 (by decide) w_fl_X6_22 rfl rfl hnm rfl (ty := .array .int) (by decide +kernel) rfl rfl (Nat.le_of_ble_eq_true rfl) dX6_init_33 rfl rfl ?_
  refine v_aload_n (pc' := 37) (i := 0) (j := 0) X dX6_init_36 rfl rfl rfl ?_
  refine v_bipush (pc' := 39) (v := 24) X dX6_init_37 (by decide) rfl ?_
  refine t_newa (pc' := 41) X 0 (ty := .int) rfl rfl (fun _ h9 => by cases h9) w_ac_int (N' := 24) (a0 := (24, .inl (fun _ => 0))) (fun _ => rfl) (by decide) (by decide) (by decide) (by rw [hR]; exact Nat.le_of_ble_eq_true rfl) (by rw [hR]; exact Nat.le_of_ble_eq_true rfl) dX6_init_39 rfl (fun q5 => ?_)
  refine v_eqw (ws' := (ws0 ++ [(h0, .inr (5, [.ref q1, .ref q2, .ref q3, .ref q4, .null, .null, .null, .null, .int 0, .int 0, .int 0, .int 0, .int 0, .int 0])), (q1, .inl (kY K 1, 16, .inr (.inl (fun _ => 0)))), (q2, .inl (kY K 0, 40, .inl (fun _ => 0))), (q3, .inl (kY K 0, 24, .inl (fun _ => 0))), (q4, .inl (kY K 0, 24, .inl (fun _ => 0))), (q5, .inl (kY K 0, 24, .inl (fun _ => 0)))])) rfl ?_
  refine v_widen (m1 := 5) (m2 := 128) (Nat.le_of_ble_eq_true rfl) (Nat.le_of_ble_eq_true rfl) ?_
  refine t_putF (pc' := 44) (tl' := [(h0, .inr (5, [.ref q1, .ref q2, .ref q3, .ref q4, .ref q5, .null, .null, .null, .int 0, .int 0, .int 0, .int 0, .int 0, .int 0])), (q1, .inl (kY K 1, 16, .inr (.inl (fun _ => 0)))), (q2, .inl (kY K 0, 40, .inl (fun _ => 0))), (q3, .inl (kY K 0, 24, .inl (fun _ => 0))), (q4, .inl (kY K 0, 24, .inl (fun _ => 0))), (q5, .inl (kY K 0, 24, .inl (fun _ => 0)))]) X inX6 tyX6 tyX6_ok nmX6 0 rfl rfl 4 (by decide) w_fl_X6_25 rfl rfl hnm rfl (ty := .array .int) (by decide +kernel) rfl rfl (Nat.le_of_ble_eq_true rfl) dX6_init_41 rfl rfl ?_
  refine v_aload_n (pc' := 45) (i := 0) (j := 0) X dX6_init_44 rfl rfl rfl ?_
  refine v_bipush (pc' := 47) (v := 24) X dX6_init_45 (by decide) rfl ?_
  refine t_newa (pc' := 49) X 0 (ty := .int) rfl rfl (fun _ h9 => by cases h9) w_ac_int (N' := 24) (a0 := (24, .inl (fun _ => 0))) (fun _ => rfl) (by decide) (by decide) (by decide) (by rw [hR]; exact Nat.le_of_ble_eq_true rfl) (by rw [hR]; exact Nat.le_of_ble_eq_true rfl) dX6_init_47 rfl (fun q6 => ?_)
  refine v_eqw (ws' := (ws0 ++ [(h0, .inr (5, [.ref q1, .ref q2, .ref q3, .ref q4, .ref q5, .null, .null, .null, .int 0, .int 0, .int 0, .int 0, .int 0, .int 0])), (q1, .inl (kY K 1, 16, .inr (.inl (fun _ => 0)))), (q2, .inl (kY K 0, 40, .inl (fun _ => 0))), (q3, .inl (kY K 0, 24, .inl (fun _ => 0))), (q4, .inl (kY K 0, 24, .inl (fun _ => 0))), (q5, .inl (kY K 0, 24, .inl (fun _ => 0))), (q6, .inl (kY K 0, 24, .inl (fun _ => 0)))])) rfl ?_
  refine v_widen (m1 := 6) (m2 := 152) (Nat.le_of_ble_eq_true rfl) (Nat.le_of_ble_eq_true rfl) ?_
  refine t_putF (pc' := 52) (tl' := [(h0, .inr (5, [.ref q1, .ref q2, .ref q3, .ref q4, .ref q5, .ref q6, .null, .null, .int 0, .int 0, .int 0, .int 0, .int 0, .int 0])), (q1, .inl (kY K 1, 16, .inr (.inl (fun _ => 0)))), (q2, .inl (kY K 0, 40, .inl (fun _ => 0))), (q3, .inl (kY K 0, 24, .inl (fun _ => 0))), (q4, .inl (kY K 0, 24, .inl (fun _ => 0))), (q5, .inl (kY K 0, 24, .inl (fun _ => 0))), (q6, .inl (kY K 0, 24, .inl (fun _ => 0)))]) X inX6 tyX6 tyX6_ok nmX6 0 rfl rfl 5 (by decide) w_fl_X6_28 rfl rfl hnm rfl (ty := .array .int) (by decide +kernel) rfl rfl (Nat.le_of_ble_eq_true rfl) dX6_init_49 rfl rfl ?_
  refine v_aload_n (pc' := 53) (i := 0) (j := 0) X dX6_init_52 rfl rfl rfl ?_
  refine v_sipush (pc' := 56) (v := 384) X dX6_init_53 (by decide) rfl ?_
  refine t_newa (pc' := 58) X 1 (ty := .long) rfl rfl (fun _ h9 => by cases h9) w_ac_long (N' := 384) (a0 := (384, .inr (.inl (fun _ => 0)))) (fun _ => rfl) (by decide) (by decide) (by decide) (by rw [hR]; exact Nat.le_of_ble_eq_true rfl) (by rw [hR]; exact Nat.le_of_ble_eq_true rfl) dX6_init_56 rfl (fun q7 => ?_)
  refine v_eqw (ws' := (ws0 ++ [(h0, .inr (5, [.ref q1, .ref q2, .ref q3, .ref q4, .ref q5, .ref q6, .null, .null, .int 0, .int 0, .int 0, .int 0, .int 0, .int 0])), (q1, .inl (kY K 1, 16, .inr (.inl (fun _ => 0)))), (q2, .inl (kY K 0, 40, .inl (fun _ => 0))), (q3, .inl (kY K 0, 24, .inl (fun _ => 0))), (q4, .inl (kY K 0, 24, .inl (fun _ => 0))), (q5, .inl (kY K 0, 24, .inl (fun _ => 0))), (q6, .inl (kY K 0, 24, .inl (fun _ => 0))), (q7, .inl (kY K 1, 384, .inr (.inl (fun _ => 0))))])) rfl ?_
  refine v_widen (m1 := 7) (m2 := 536) (Nat.le_of_ble_eq_true rfl) (Nat.le_of_ble_eq_true rfl) ?_
  refine t_putF (pc' := 61) (tl' := [(h0, .inr (5, [.ref q1, .ref q2, .ref q3, .ref q4, .ref q5, .ref q6, .ref q7, .null, .int 0, .int 0, .int 0, .int 0, .int 0, .int 0])), (q1, .inl (kY K 1, 16, .inr (.inl (fun _ => 0)))), (q2, .inl (kY K 0, 40, .inl (fun _ => 0))), (q3, .inl (kY K 0, 24, .inl (fun _ => 0))), (q4, .inl (kY K 0, 24, .inl (fun _ => 0))), (q5, .inl (kY K 0, 24, .inl (fun _ => 0))), (q6, .inl (kY K 0, 24, .inl (fun _ => 0))), (q7, .inl (kY K 1, 384, .inr (.inl (fun _ => 0))))]) X inX6 tyX6 tyX6_ok nmX6 0 rfl rfl 6 (by decide) w_fl_X6_31 rfl rfl hnm rfl (ty := .array .long) (by decide +kernel) rfl rfl (Nat.le_of_ble_eq_true rfl) dX6_init_58 rfl rfl ?_
  refine v_aload_n (pc' := 62) (i := 0) (j := 0) X dX6_init_61 rfl rfl rfl ?_
  refine t_new (pc' := 65) X inX3 tyX3 tyX3_ok w_cl_X6_34 w_is_X3 w_in_X3 (ci := 3) (fs := [.null, .null, .null, .int 0, .int 0, .int 0]) rfl (fun j hj => by rcases (show j = 0 ∨ j = 1 ∨ j = 2 ∨ j = 3 ∨ j = 4 ∨ j = 5 by omega) with rfl | rfl | rfl | rfl | rfl | rfl <;> rfl) (by rw [hR]; exact Nat.le_of_ble_eq_true rfl) (by rw [hR]; exact Nat.le_of_ble_eq_true rfl) dX6_init_62 rfl (fun q8 => ?_)
  refine v_eqw (ws' := (ws0 ++ [(h0, .inr (5, [.ref q1, .ref q2, .ref q3, .ref q4, .ref q5, .ref q6, .ref q7, .null, .int 0, .int 0, .int 0, .int 0, .int 0, .int 0])), (q1, .inl (kY K 1, 16, .inr (.inl (fun _ => 0)))), (q2, .inl (kY K 0, 40, .inl (fun _ => 0))), (q3, .inl (kY K 0, 24, .inl (fun _ => 0))), (q4, .inl (kY K 0, 24, .inl (fun _ => 0))), (q5, .inl (kY K 0, 24, .inl (fun _ => 0))), (q6, .inl (kY K 0, 24, .inl (fun _ => 0))), (q7, .inl (kY K 1, 384, .inr (.inl (fun _ => 0)))), (q8, .inr (3, [.null, .null, .null, .int 0, .int 0, .int 0]))])) rfl ?_
  refine v_widen (m1 := 8) (m2 := 542) (Nat.le_of_ble_eq_true rfl) (Nat.le_of_ble_eq_true rfl) ?_
  refine v_dup (pc' := 66) X dX6_init_65 rfl rfl ?_
  refine v_eqw (ws' := ((ws0 ++ [(h0, .inr (5, [.ref q1, .ref q2, .ref q3, .ref q4, .ref q5, .ref q6, .ref q7, .null, .int 0, .int 0, .int 0, .int 0, .int 0, .int 0])), (q1, .inl (kY K 1, 16, .inr (.inl (fun _ => 0)))), (q2, .inl (kY K 0, 40, .inl (fun _ => 0))), (q3, .inl (kY K 0, 24, .inl (fun _ => 0))), (q4, .inl (kY K 0, 24, .inl (fun _ => 0))), (q5, .inl (kY K 0, 24, .inl (fun _ => 0))), (q6, .inl (kY K 0, 24, .inl (fun _ => 0))), (q7, .inl (kY K 1, 384, .inr (.inl (fun _ => 0))))]) ++ [(q8, .inr (3, [.null, .null, .null, .int 0, .int 0, .int 0]))])) (by rw [List.append_assoc]; rfl) ?_
  refine v_callIN (pc' := 69) X (st := [.ref q8, .ref h0]) (c_X3_init (ws0 := ws0 ++ [(h0, .inr (5, [.ref q1, .ref q2, .ref q3, .ref q4, .ref q5, .ref q6, .ref q7, .null, .int 0, .int 0, .int 0, .int 0, .int 0, .int 0])), (q1, .inl (kY K 1, 16, .inr (.inl (fun _ => 0)))), (q2, .inl (kY K 0, 40, .inl (fun _ => 0))), (q3, .inl (kY K 0, 24, .inl (fun _ => 0))), (q4, .inl (kY K 0, 24, .inl (fun _ => 0))), (q5, .inl (kY K 0, 24, .inl (fun _ => 0))), (q6, .inl (kY K 0, 24, .inl (fun _ => 0))), (q7, .inl (kY K 1, 384, .inr (.inl (fun _ => 0))))]) (h0 := q8)) k_X3_init n_ml_X6_36 w_im_X3_init rfl (by rw [hR]; exact ⟨Nat.le_of_ble_eq_true rfl, Nat.le_of_ble_eq_true rfl⟩) rfl rfl (Nat.le_of_ble_eq_true rfl) dX6_init_66 rfl (by rw [hR]; exact ⟨Nat.le_of_ble_eq_true rfl, Nat.le_of_ble_eq_true rfl⟩) ?_
  rintro _ _ ⟨rfl, q9, q10, q11, rfl⟩
  refine v_eqw (ws' := (ws0 ++ [(h0, .inr (5, [.ref q1, .ref q2, .ref q3, .ref q4, .ref q5, .ref q6, .ref q7, .null, .int 0, .int 0, .int 0, .int 0, .int 0, .int 0])), (q1, .inl (kY K 1, 16, .inr (.inl (fun _ => 0)))), (q2, .inl (kY K 0, 40, .inl (fun _ => 0))), (q3, .inl (kY K 0, 24, .inl (fun _ => 0))), (q4, .inl (kY K 0, 24, .inl (fun _ => 0))), (q5, .inl (kY K 0, 24, .inl (fun _ => 0))), (q6, .inl (kY K 0, 24, .inl (fun _ => 0))), (q7, .inl (kY K 1, 384, .inr (.inl (fun _ => 0)))), (q8, .inr (3, [.ref q9, .ref q10, .ref q11, .int 0, .int 0, .int 0])), (q9, .inl (kY K 0, 40, .inl (fun _ => 0))), (q10, .inl (kY K 0, 40, .inl (fun _ => 0))), (q11, .inl (kY K 1, 40, .inr (.inl (fun _ => 0))))])) (by rw [List.append_assoc]; rfl) ?_
  refine v_widen (m1 := 11) (m2 := 662) (Nat.le_of_ble_eq_true rfl) (Nat.le_of_ble_eq_true rfl) ?_
  refine t_putF (pc' := 72) (tl' := [(h0, .inr (5, [.ref q1, .ref q2, .ref q3, .ref q4, .ref q5, .ref q6, .ref q7, .ref q8, .int 0, .int 0, .int 0, .int 0, .int 0, .int 0])), (q1, .inl (kY K 1, 16, .inr (.inl (fun _ => 0)))), (q2, .inl (kY K 0, 40, .inl (fun _ => 0))), (q3, .inl (kY K 0, 24, .inl (fun _ => 0))), (q4, .inl (kY K 0, 24, .inl (fun _ => 0))), (q5, .inl (kY K 0, 24, .inl (fun _ => 0))), (q6, .inl (kY K 0, 24, .inl (fun _ => 0))), (q7, .inl (kY K 1, 384, .inr (.inl (fun _ => 0)))), (q8, .inr (3, [.ref q9, .ref q10, .ref q11, .int 0, .int 0, .int 0])), (q9, .inl (kY K 0, 40, .inl (fun _ => 0))), (q10, .inl (kY K 0, 40, .inl (fun _ => 0))), (q11, .inl (kY K 1, 40, .inr (.inl (fun _ => 0))))]) X inX6 tyX6 tyX6_ok nmX6 0 rfl rfl 7 (by decide) w_fl_X6_37 rfl rfl hnm rfl (ty := .object "AtomicRuntime$Log") (by decide +kernel) rfl rfl (Nat.le_of_ble_eq_true rfl) dX6_init_69 rfl rfl ?_
  refine v_aload_n (pc' := 73) (i := 0) (j := 0) X dX6_init_72 rfl rfl rfl ?_
  refine v_iconst (pc' := 74) (v := 1) X dX6_init_73 (by decide) rfl ?_
  refine t_put (pc' := 77) (tl' := [(h0, .inr (5, [.ref q1, .ref q2, .ref q3, .ref q4, .ref q5, .ref q6, .ref q7, .ref q8, .int 1, .int 0, .int 0, .int 0, .int 0, .int 0])), (q1, .inl (kY K 1, 16, .inr (.inl (fun _ => 0)))), (q2, .inl (kY K 0, 40, .inl (fun _ => 0))), (q3, .inl (kY K 0, 24, .inl (fun _ => 0))), (q4, .inl (kY K 0, 24, .inl (fun _ => 0))), (q5, .inl (kY K 0, 24, .inl (fun _ => 0))), (q6, .inl (kY K 0, 24, .inl (fun _ => 0))), (q7, .inl (kY K 1, 384, .inr (.inl (fun _ => 0)))), (q8, .inr (3, [.ref q9, .ref q10, .ref q11, .int 0, .int 0, .int 0])), (q9, .inl (kY K 0, 40, .inl (fun _ => 0))), (q10, .inl (kY K 0, 40, .inl (fun _ => 0))), (q11, .inl (kY K 1, 40, .inr (.inl (fun _ => 0))))]) X inX6 tyX6 tyX6_ok nmX6 0 rfl rfl 8 (by decide) w_fl_X6_41 rfl rfl (ty := .int) (by decide +kernel) rfl rfl (Nat.le_of_ble_eq_true rfl) dX6_init_74 rfl rfl ?_
  refine v_aload_n (pc' := 78) (i := 0) (j := 0) X dX6_init_77 rfl rfl rfl ?_
  refine v_iconst (pc' := 79) (v := 0) X dX6_init_78 (by decide) rfl ?_
  refine t_put (pc' := 82) (tl' := [(h0, .inr (5, [.ref q1, .ref q2, .ref q3, .ref q4, .ref q5, .ref q6, .ref q7, .ref q8, .int 1, .int 0, .int 0, .int 0, .int 0, .int 0])), (q1, .inl (kY K 1, 16, .inr (.inl (fun _ => 0)))), (q2, .inl (kY K 0, 40, .inl (fun _ => 0))), (q3, .inl (kY K 0, 24, .inl (fun _ => 0))), (q4, .inl (kY K 0, 24, .inl (fun _ => 0))), (q5, .inl (kY K 0, 24, .inl (fun _ => 0))), (q6, .inl (kY K 0, 24, .inl (fun _ => 0))), (q7, .inl (kY K 1, 384, .inr (.inl (fun _ => 0)))), (q8, .inr (3, [.ref q9, .ref q10, .ref q11, .int 0, .int 0, .int 0])), (q9, .inl (kY K 0, 40, .inl (fun _ => 0))), (q10, .inl (kY K 0, 40, .inl (fun _ => 0))), (q11, .inl (kY K 1, 40, .inr (.inl (fun _ => 0))))]) X inX6 tyX6 tyX6_ok nmX6 0 rfl rfl 9 (by decide) w_fl_X6_45 rfl rfl (ty := .int) (by decide +kernel) rfl rfl (Nat.le_of_ble_eq_true rfl) dX6_init_79 rfl rfl ?_
  refine v_aload_n (pc' := 83) (i := 0) (j := 0) X dX6_init_82 rfl rfl rfl ?_
  refine v_iconst (pc' := 84) (v := 0) X dX6_init_83 (by decide) rfl ?_
  refine t_put (pc' := 87) (tl' := [(h0, .inr (5, [.ref q1, .ref q2, .ref q3, .ref q4, .ref q5, .ref q6, .ref q7, .ref q8, .int 1, .int 0, .int 0, .int 0, .int 0, .int 0])), (q1, .inl (kY K 1, 16, .inr (.inl (fun _ => 0)))), (q2, .inl (kY K 0, 40, .inl (fun _ => 0))), (q3, .inl (kY K 0, 24, .inl (fun _ => 0))), (q4, .inl (kY K 0, 24, .inl (fun _ => 0))), (q5, .inl (kY K 0, 24, .inl (fun _ => 0))), (q6, .inl (kY K 0, 24, .inl (fun _ => 0))), (q7, .inl (kY K 1, 384, .inr (.inl (fun _ => 0)))), (q8, .inr (3, [.ref q9, .ref q10, .ref q11, .int 0, .int 0, .int 0])), (q9, .inl (kY K 0, 40, .inl (fun _ => 0))), (q10, .inl (kY K 0, 40, .inl (fun _ => 0))), (q11, .inl (kY K 1, 40, .inr (.inl (fun _ => 0))))]) X inX6 tyX6 tyX6_ok nmX6 0 rfl rfl 11 (by decide) w_fl_X6_48 rfl rfl (ty := .int) (by decide +kernel) rfl rfl (Nat.le_of_ble_eq_true rfl) dX6_init_84 rfl rfl ?_
  refine v_aload_n (pc' := 88) (i := 0) (j := 0) X dX6_init_87 rfl rfl rfl ?_
  refine v_iconst (pc' := 89) (v := 0) X dX6_init_88 (by decide) rfl ?_
  refine t_put (pc' := 92) (tl' := [(h0, .inr (5, [.ref q1, .ref q2, .ref q3, .ref q4, .ref q5, .ref q6, .ref q7, .ref q8, .int 1, .int 0, .int 0, .int 0, .int 0, .int 0])), (q1, .inl (kY K 1, 16, .inr (.inl (fun _ => 0)))), (q2, .inl (kY K 0, 40, .inl (fun _ => 0))), (q3, .inl (kY K 0, 24, .inl (fun _ => 0))), (q4, .inl (kY K 0, 24, .inl (fun _ => 0))), (q5, .inl (kY K 0, 24, .inl (fun _ => 0))), (q6, .inl (kY K 0, 24, .inl (fun _ => 0))), (q7, .inl (kY K 1, 384, .inr (.inl (fun _ => 0)))), (q8, .inr (3, [.ref q9, .ref q10, .ref q11, .int 0, .int 0, .int 0])), (q9, .inl (kY K 0, 40, .inl (fun _ => 0))), (q10, .inl (kY K 0, 40, .inl (fun _ => 0))), (q11, .inl (kY K 1, 40, .inr (.inl (fun _ => 0))))]) X inX6 tyX6 tyX6_ok nmX6 0 rfl rfl 12 (by decide) w_fl_X6_51 rfl rfl (ty := .int) (by decide +kernel) rfl rfl (Nat.le_of_ble_eq_true rfl) dX6_init_89 rfl rfl ?_
  refine v_aload_n (pc' := 93) (i := 0) (j := 0) X dX6_init_92 rfl rfl rfl ?_
  refine v_iconst (pc' := 94) (v := (-1)) X dX6_init_93 (by decide) rfl ?_
  refine t_put (pc' := 97) (tl' := [(h0, .inr (5, [.ref q1, .ref q2, .ref q3, .ref q4, .ref q5, .ref q6, .ref q7, .ref q8, .int 1, .int 0, .int 0, .int 0, .int 0, .int (-1)])), (q1, .inl (kY K 1, 16, .inr (.inl (fun _ => 0)))), (q2, .inl (kY K 0, 40, .inl (fun _ => 0))), (q3, .inl (kY K 0, 24, .inl (fun _ => 0))), (q4, .inl (kY K 0, 24, .inl (fun _ => 0))), (q5, .inl (kY K 0, 24, .inl (fun _ => 0))), (q6, .inl (kY K 0, 24, .inl (fun _ => 0))), (q7, .inl (kY K 1, 384, .inr (.inl (fun _ => 0)))), (q8, .inr (3, [.ref q9, .ref q10, .ref q11, .int 0, .int 0, .int 0])), (q9, .inl (kY K 0, 40, .inl (fun _ => 0))), (q10, .inl (kY K 0, 40, .inl (fun _ => 0))), (q11, .inl (kY K 1, 40, .inr (.inl (fun _ => 0))))]) X inX6 tyX6 tyX6_ok nmX6 0 rfl rfl 13 (by decide) w_fl_X6_54 rfl rfl (ty := .int) (by decide +kernel) rfl rfl (Nat.le_of_ble_eq_true rfl) dX6_init_94 rfl rfl ?_
  refine v_aload_n (pc' := 98) (i := 0) (j := 0) X dX6_init_97 rfl rfl rfl ?_
  refine v_iload_n (pc' := 99) (i := 1) (j := 1) X dX6_init_98 rfl rfl rfl ?_
  refine t_put (pc' := 102) (tl' := [(h0, .inr (5, [.ref q1, .ref q2, .ref q3, .ref q4, .ref q5, .ref q6, .ref q7, .ref q8, .int 1, .int 0, .int t9, .int 0, .int 0, .int (-1)])), (q1, .inl (kY K 1, 16, .inr (.inl (fun _ => 0)))), (q2, .inl (kY K 0, 40, .inl (fun _ => 0))), (q3, .inl (kY K 0, 24, .inl (fun _ => 0))), (q4, .inl (kY K 0, 24, .inl (fun _ => 0))), (q5, .inl (kY K 0, 24, .inl (fun _ => 0))), (q6, .inl (kY K 0, 24, .inl (fun _ => 0))), (q7, .inl (kY K 1, 384, .inr (.inl (fun _ => 0)))), (q8, .inr (3, [.ref q9, .ref q10, .ref q11, .int 0, .int 0, .int 0])), (q9, .inl (kY K 0, 40, .inl (fun _ => 0))), (q10, .inl (kY K 0, 40, .inl (fun _ => 0))), (q11, .inl (kY K 1, 40, .inr (.inl (fun _ => 0))))]) X inX6 tyX6 tyX6_ok nmX6 0 rfl rfl 10 (by decide) w_fl_X6_57 rfl rfl (ty := .int) (by decide +kernel) rfl rfl (Nat.le_of_ble_eq_true rfl) dX6_init_99 rfl rfl ?_
  refine v_return X R (Nat.le_of_ble_eq_true rfl) (Nat.le_of_ble_eq_true rfl) dX6_init_102 ?_
  exact ⟨rfl, q1, q2, q3, q4, q5, q6, q7, q8, q9, q10, q11, rfl⟩
theorem c_AC_init {l : Launch} {D : va_G} {Y : Nat → ClassId} {zz : Nat → Nat} {ws : va_W} {a : Nat} : Ct l D Y zz yJxa1e45_init_da8c8 cJxa1e45_init_da8c8 1 none 1 30 [.ref a] ws 0 0 (fun r w => r = none ∧ w = ws) := by
  refine v_entry (by decide +kernel) (Nat.le_of_ble_eq_true rfl) ?_
  intro K X R hR hnm hl hD hY hz
  subst hl hD hY hz
  refine v_sub (lv' := [(0, .ref a)]) [0] rfl ?_
  refine v_aload_n (pc' := 1) (i := 0) (j := 0) X dJxa1e45_init_da8c8_0 rfl rfl rfl ?_
  refine v_objInit (pc' := 4) X w_ml_Jxa1e45_1 dJxa1e45_init_da8c8_1 rfl (by rw [hR]; exact Nat.le_of_ble_eq_true rfl) (by rw [hR]; exact Nat.le_of_ble_eq_true rfl) ?_
  refine v_return X R (Nat.zero_le _) (Nat.zero_le _) dJxa1e45_init_da8c8_4 ?_
  exact ⟨rfl, rfl⟩
theorem c_ALi_init {l : Launch} {D : va_G} {Y : Nat → ClassId} {zz : Nat → Nat} {ws : va_W} {a q0 : Nat} {fs : List Value} (h0 : ws[q0]? = some (a, .inr (0, fs))) (hfs : fs.length = 3) : Ct l D Y zz yJxc12de_init_da8c8 cJxc12de_init_da8c8 1 none 2 60 [.ref a] ws 0 0 (fun r w => r = none ∧ w = ws.set q0 (a, .inr (0, fs.set 0 (.int 0)))) := by
  refine v_entry (by decide +kernel) (Nat.le_of_ble_eq_true rfl) ?_
  intro K X R hR hnm hl hD hY hz
  subst hl hD hY hz
  refine v_sub (lv' := [(0, .ref a)]) [0] rfl ?_
  refine v_aload_n (pc' := 1) (i := 0) (j := 0) X dJxc12de_init_da8c8_0 rfl rfl rfl ?_
  refine v_callI (pc' := 4) X (st := []) c_AC_init k_Jxa1e45_init_da8c8 w_ml_Jxc12de_1 w_im_Jxa1e45_init_da8c8 rfl (by rw [hR]; exact ⟨Nat.le_of_ble_eq_true rfl, Nat.le_of_ble_eq_true rfl⟩) rfl rfl (Nat.le_of_ble_eq_true rfl) dJxc12de_init_da8c8_1 rfl (⟨Nat.zero_le _, Nat.zero_le _⟩) ?_
  rintro _ _ ⟨rfl, rfl⟩
  refine v_aload_n (pc' := 5) (i := 0) (j := 0) X dJxc12de_init_da8c8_4 rfl rfl rfl ?_
  refine v_iconst (pc' := 6) (v := 0) X dJxc12de_init_da8c8_5 (by decide) rfl ?_
  refine v_put (pc' := 9) (ty := .int) (v := .int 0) X inJx4a65c tyJx4a65c tyJx4a65c_ok nmJx4a65c q0 h0 rfl 0 (by decide) w_fl_Jxc12de_7 rfl rfl (by decide +kernel) rfl rfl (by omega) dJxc12de_init_da8c8_6 rfl ?_
  refine v_return X R (Nat.zero_le _) (Nat.zero_le _) dJxc12de_init_da8c8_9 ?_
  exact ⟨rfl, rfl⟩
/-- a list, made -/
theorem c_AL_init {l : Launch} {D : va_G} {Y : Nat → ClassId} {zz : Nat → Nat} {ws : va_W} {a q0 : Nat} {v1 v2 v3 : Value} (h0 : ws[q0]? = some (a, .inr (0, [v1, v2, v3]))) : Ct l D Y zz yJx4a65c_init_da8c8 cJx4a65c_init_da8c8 1 none 3 90 [.ref a] ws 0 0 (fun r w => r = none ∧ w = ws.set q0 (a, .inr (0, [.int 0, .ref (zz 32), v3]))) := by
  refine v_entry (by decide +kernel) (Nat.le_of_ble_eq_true rfl) ?_
  intro K X R hR hnm hl hD hY hz
  subst hl hD hY hz
  refine v_sub (lv' := [(0, .ref a)]) [0] rfl ?_
  refine v_aload_n (pc' := 1) (i := 0) (j := 0) X dJx4a65c_init_da8c8_0 rfl rfl rfl ?_
  refine v_callI (pc' := 4) X (st := []) (c_ALi_init h0 rfl) k_Jxc12de_init_da8c8 w_ml_Jx4a65c_1 w_im_Jxc12de_init_da8c8 rfl (by rw [hR]; exact ⟨Nat.le_of_ble_eq_true rfl, Nat.le_of_ble_eq_true rfl⟩) rfl rfl (Nat.le_of_ble_eq_true rfl) dJx4a65c_init_da8c8_1 rfl (⟨Nat.zero_le _, Nat.zero_le _⟩) ?_
  rintro _ _ ⟨rfl, rfl⟩
  refine v_eqw (ws' := ws.set q0 (a, .inr (0, [.int 0, v2, v3]))) rfl ?_
  refine v_aload_n (pc' := 5) (i := 0) (j := 0) X dJx4a65c_init_da8c8_4 rfl rfl rfl ?_
  refine v_gets (pc' := 8) X X.zD w_fl_Jx4a65c_39 rfl dJx4a65c_init_da8c8_5 rfl ?_
  refine v_put (pc' := 11) (ty := .array (.object "java/lang/Object")) (v := .ref (kZ K 32)) X inJx4a65c tyJx4a65c tyJx4a65c_ok nmJx4a65c q0 (set_at h0) rfl 1 (by decide) w_fl_Jx4a65c_9 rfl rfl (by decide +kernel) rfl rfl (Nat.le_of_ble_eq_true rfl) dJx4a65c_init_da8c8_8 rfl ?_
  refine v_return X R (Nat.zero_le _) (Nat.zero_le _) dJx4a65c_init_da8c8_11 ?_
  exact ⟨rfl, by rw [List.set_set]; rfl⟩
