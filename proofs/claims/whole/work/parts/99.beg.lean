/-! THE LAW, FROM ITS BEGINNING -/
set_option maxHeartbeats 4000000 in
set_option maxRecDepth 100000 in
theorem law_run {K : vKt} (X : vOk K cL_law RL 8) (hd : vND (kS K)) (hst9 : (kL K).stackTraces = false) (hR : kR K = room_1) {b L : Nat} {xs : Nat → Int32} (hX : va_X b L xs (kS K) (kS K).heap) (hbl : b < (kS K).heap.size) (hbA : ¬ kA K b) (hL : L ≤ 320) (hret : ∀ (ws : va_W) (n1 n2 : Nat) (lv : List (Nat × Value)), n1 ≤ 600128 → n2 ≤ 7301098 → V K 8 ws n1 n2 666 lv [.int 1]) : V K 8 [] 0 0 0 [(0, .ref b)] [] := by
  refine v_eqw (ws' := ([] : va_W) ++ []) rfl ?_
  refine t_new (pc' := 3) X inX7 tyX7 tyX7_ok w_cl_L_8 w_is_X7 w_in_X7 (ci := 6) (fs := [.null, .null, .null, .null, .null, .int 0, .int 0, .int 0, .int 0]) rfl (fun j hj => by rcases (show j = 0 ∨ j = 1 ∨ j = 2 ∨ j = 3 ∨ j = 4 ∨ j = 5 ∨ j = 6 ∨ j = 7 ∨ j = 8 by omega) with rfl | rfl | rfl | rfl | rfl | rfl | rfl | rfl | rfl <;> rfl) (by rw [hR]; exact Nat.le_of_ble_eq_true rfl) (by rw [hR]; exact Nat.le_of_ble_eq_true rfl) dL_law_0 rfl (fun q1 => ?_)
  refine v_eqw (ws' := ([] : va_W) ++ [(q1, .inr (6, [.null, .null, .null, .null, .null, .int 0, .int 0, .int 0, .int 0]))]) rfl ?_
  refine v_widen (m1 := 1) (m2 := 9) (Nat.le_of_ble_eq_true rfl) (Nat.le_of_ble_eq_true rfl) ?_
  refine v_dup (pc' := 4) X dL_law_3 rfl rfl ?_
  refine v_callI (pc' := 7) X (st := [.ref q1]) (c_X7_init (ws0 := []) (h0 := q1)) k_X7_init w_ml_L_46 w_im_X7_init rfl (by rw [hR]; exact ⟨Nat.le_of_ble_eq_true rfl, Nat.le_of_ble_eq_true rfl⟩) rfl rfl (Nat.le_of_ble_eq_true rfl) dL_law_4 rfl (by rw [hR]; exact ⟨Nat.le_of_ble_eq_true rfl, Nat.le_of_ble_eq_true rfl⟩) ?_
  rintro _ _ ⟨rfl, ad, hq1, h4, rfl⟩
  subst hq1
  refine v_eqw (ws' := wK (kY K) 1 0 0 10 ad vG0) (List.nil_append _) ?_
  refine v_widen (m1 := 25) (m2 := 1919) (Nat.le_of_ble_eq_true rfl) (Nat.le_of_ble_eq_true rfl) ?_
  refine v_astore_n (pc' := 8) (i := 1) X dL_law_7 rfl (by decide) rfl (lv' := [(1, .ref (ad 0)), (0, .ref b)]) rfl ?_
  refine v_new (pc' := 11) X inX9 tyX9 tyX9_ok w_cl_L_47 w_is_X9 w_in_X9 (ci := 8) (fs := [.int 0, .int 0, .int 0, .int 0, .int 0, .int 0, .int 0, .int 0, .int 0, .null, .null, .null, .null, .null, .null, .null, .null, .null, .null, .null, .null, .null]) rfl (fun j hj => by rcases (show j = 0 ∨ j = 1 ∨ j = 2 ∨ j = 3 ∨ j = 4 ∨ j = 5 ∨ j = 6 ∨ j = 7 ∨ j = 8 ∨ j = 9 ∨ j = 10 ∨ j = 11 ∨ j = 12 ∨ j = 13 ∨ j = 14 ∨ j = 15 ∨ j = 16 ∨ j = 17 ∨ j = 18 ∨ j = 19 ∨ j = 20 ∨ j = 21 by omega) with rfl | rfl | rfl | rfl | rfl | rfl | rfl | rfl | rfl | rfl | rfl | rfl | rfl | rfl | rfl | rfl | rfl | rfl | rfl | rfl | rfl | rfl <;> rfl) (by rw [hR]; exact Nat.le_of_ble_eq_true rfl) (by rw [hR]; exact Nat.le_of_ble_eq_true rfl) dL_law_8 rfl (fun q2 => ?_)
  refine v_widen (m1 := 26) (m2 := 1941) (Nat.le_of_ble_eq_true rfl) (Nat.le_of_ble_eq_true rfl) ?_
  refine v_dup (pc' := 12) X dL_law_11 rfl rfl ?_
  refine v_callI (pc' := 15) X (st := [.ref q2]) (c_X9_init (ws0 := wK (kY K) 1 0 0 10 ad vG0) (h0 := q2)) k_X9_init w_ml_L_49 w_im_X9_init rfl (by rw [hR]; exact ⟨Nat.le_of_ble_eq_true rfl, Nat.le_of_ble_eq_true rfl⟩) rfl rfl (Nat.le_of_ble_eq_true rfl) dL_law_12 rfl (by rw [hR]; exact ⟨Nat.le_of_ble_eq_true rfl, Nat.le_of_ble_eq_true rfl⟩) ?_
  intro r w hrw
  obtain ⟨rfl, ad2, hq2, rfl⟩ := c_X9_new (l := kL K) (D := kD K) (zz := kZ K) r w hrw
  subst hq2
  refine v_widen (m1 := 50) (m2 := 8039) (Nat.le_of_ble_eq_true rfl) (Nat.le_of_ble_eq_true rfl) ?_
  refine v_astore_n (pc' := 16) (i := 2) X dL_law_15 rfl (by decide) rfl (lv' := [(2, .ref (ad2 0)), (1, .ref (ad 0)), (0, .ref b)]) rfl ?_
  refine v_iconst (pc' := 17) (v := 1) X dL_law_16 (by decide) rfl ?_
  refine v_newa (pc' := 19) X 1 (ty := .long) rfl rfl (fun _ h9 => by cases h9) w_ac_long (N' := 1) (a0 := (1, .inr (.inl (fun _ => 0)))) (fun _ => rfl) (by decide) (by decide) (by decide) (by rw [hR]; exact Nat.le_of_ble_eq_true rfl) (by rw [hR]; exact Nat.le_of_ble_eq_true rfl) dL_law_17 rfl (fun oo => ?_)
  refine v_astore_n (pc' := 20) (i := 3) X dL_law_19 rfl (by decide) rfl (lv' := [(3, .ref oo), (2, .ref (ad2 0)), (1, .ref (ad 0)), (0, .ref b)]) rfl ?_
  refine v_iconst (pc' := 21) (v := 0) X dL_law_20 (by decide) rfl ?_
  refine v_istore (pc' := 23) (i := 4) X dL_law_21 (by decide) rfl (lv' := [(4, .int (nI 0)), (3, .ref oo), (2, .ref (ad2 0)), (1, .ref (ad 0)), (0, .ref b)]) rfl ?_
  obtain ⟨us, hU⟩ := vM0_ok.iu
  refine v_widen (m1 := 24 * 1 + 10 * 0 + 200) (m2 := 1474 * 1 + 1000 * 0 + 10000) (Nat.le_of_ble_eq_true rfl) (Nat.le_of_ble_eq_true rfl) ?_
  exact law_loop X hd hst9 hR hX hbl hbA hL hret 401 0 0 1 0 us 0 10 ad vG0 ad2 vM0 (fun _ => 0) (by omega) rfl (Or.inr rfl) (Nat.le_refl 0) sm_0 hU ⟨by omega, by omega⟩ ⟨by omega, by omega⟩ (fun _ => h4) (by omega)
