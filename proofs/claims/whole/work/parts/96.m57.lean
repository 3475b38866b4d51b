/-! THE LAW'S HELPERS -/
abbrev oC (Y1 : ClassId) (f : Nat → Int64) : va_E := .inl (Y1, 1, .inr (.inl f))
section HLP
variable {K : vKt} {cc : ByteArray} {own : String} {nL n1 n2 pc pc' : Nat} {ws : va_W} {lv : List (Nat × Value)} {st : List Value}
theorem h_last (X : vOk K cc own nL) {o : Nat} {f : Nat → Int64} {x : Int64} (d : decode cc pc = .ok (.lastore, 1)) (e : pc + 1 = pc') (kk : V K nL (ws ++ [(o, oC (kY K 1) (vp_updL f 0 x))]) n1 n2 pc' lv st) : V K nL (ws ++ [(o, oC (kY K 1) f)]) n1 n2 pc lv (.long x :: .int 0 :: .ref o :: st) := by
  refine v_last (pc' := pc') X ws.length app_r (i := 0) (show vp_in (nI 0) 1 from vp_in_nI (by decide) (by decide)) (j := 0) rfl d e ?_
  rw [set_end]; exact kk
end HLP
set_option maxHeartbeats 4000000 in
set_option maxRecDepth 100000 in
theorem h_put {l : Launch} {D : va_G} {Y : Nat → ClassId} {zz : Nat → Nat} {n s cp cq us : Nat} {ad : Nat → Nat} {M : vM} {N : vM} (hS : Sm M N n s) (hU : IU N n us) (hst9 : l.stackTraces = false) (hcp : s ≤ cp ∧ cp ≤ 2 * s + 10) (hz4 : cp = 0 → ad 4 = zz 32) {oo : Nat} {f0 : Nat → Int64} {op x y z : Int32} : Hx l D Y zz yL_put cL_put 7 (some FieldType.int) [(0, 14, 17, 13)] 8 236 [.ref (ad (0)), .int op, .int x, .int y, .int z, .ref oo] (wK Y n s cp cq ad M ++ [(oo, oC (Y 1) f0)]) (2) (10 + ncap cp) (fun r w => (¬ N.1 0 1 = 1000 ∧ r = some (.int 0) ∧ ∃ w1, pP Y n s cq ad w1 (gAdd3 (gIns M s op x y z) s) (fPut N op x y z).1 ∧ w = w1 ++ [(oo, oC (Y 1) (vp_updL f0 0 (fPut N op x y z).2.toInt64))]) ∨ (r = some (.int 1) ∧ fPut N op x y z = (mI N 0 0 1, 0) ∧ w = wK Y n s cp cq ad M ++ [(oo, oC (Y 1) f0)])) := by
  refine v_entryH (by decide +kernel) (Nat.le_of_ble_eq_true rfl) ?_
  intro K X R hR ht hd hl hD hY hz
  subst hl hD hY hz
  refine v_sub (lv' := [(0, .ref (ad (0))), (1, .int op), (2, .int x), (3, .int y), (4, .int z), (5, .ref oo)]) [0, 1, 2, 3, 4, 5] rfl ?_
  refine v_aload (pc' := 2) (j := 5) X dL_put_0 rfl rfl ?_
  refine v_iconst (pc' := 3) (v := 0) X dL_put_2 (by decide) rfl ?_
  refine v_aload_n (pc' := 4) (i := 0) (j := 0) X dL_put_3 rfl rfl rfl ?_
  refine v_iload_n (pc' := 5) (i := 1) (j := 1) X dL_put_4 rfl rfl rfl ?_
  refine v_iload_n (pc' := 6) (i := 2) (j := 2) X dL_put_5 rfl rfl rfl ?_
  refine v_iload_n (pc' := 7) (i := 3) (j := 3) X dL_put_6 rfl rfl rfl ?_
  refine v_iload (pc' := 9) (j := 4) X dL_put_7 rfl rfl ?_
  refine x_callVF (pc' := 12) X hd (st := [.int 0, .ref oo]) (c_X7_put hS hU hst9 hcp hz4) k_X7_put w_ml_L_7 w_im_X7_put w_se_X7_X7_put rw_X7 (by rw [hR]; exact ⟨Nat.le_of_ble_eq_true rfl, Nat.le_of_ble_eq_true rfl⟩) rfl rfl (Nat.le_of_ble_eq_true rfl) dL_put_9 rfl (by rw [hR]; exact ⟨Nat.le_of_eq (Nat.zero_add _), Nat.le_of_eq (Nat.zero_add _)⟩) ?_ ?_
  · rintro _ w1 ⟨hz0, rfl, hw1⟩
    refine v_i2l (pc' := 13) X dL_put_12 rfl rfl ?_
    refine h_last (pc' := 14) X dL_put_13 rfl ?_
    refine v_goto (pc' := 21) X dL_put_14 (by decide) ?_
    refine v_iconst (pc' := 22) (v := 0) X dL_put_21 (by decide) rfl ?_
    refine v_ireturn X R (Nat.le_of_eq (Nat.zero_add _)) (Nat.le_of_eq (Nat.zero_add _)) dL_put_22 ?_
    exact Or.inl ⟨hz0, rfl, w1, hw1, rfl⟩
  · rintro E _ ⟨rfl, rfl, hF⟩
    refine x_catch X (E := "java/lang/IllegalStateException") (name := "java/lang/IllegalStateException") [] _ [] (ht.trans rfl) (fun z hz => absurd hz List.not_mem_nil) (by decide) (by decide) (w_cl_L_13) xw_IS_c (hp := 17) rfl (fun q9 => ?_)
    refine v_astore (pc' := 19) (lv' := [(6, .ref q9), (0, .ref (ad (0))), (1, .int op), (2, .int x), (3, .int y), (4, .int z), (5, .ref oo)]) X dL_put_17 (by decide) rfl rfl ?_
    refine v_iconst (pc' := 20) (v := 1) X dL_put_19 (by decide) rfl ?_
    refine v_ireturn X R (Nat.le_of_eq (Nat.zero_add _)) (Nat.le_of_eq (Nat.zero_add _)) dL_put_20 ?_
    exact Or.inr ⟨rfl, hF, rfl⟩
set_option maxHeartbeats 4000000 in
set_option maxRecDepth 100000 in
theorem h_run {l : Launch} {D : va_G} {Y : Nat → ClassId} {zz : Nat → Nat} {n s cp cq us : Nat} {ad : Nat → Nat} {M : vM} {N : vM} (hS : Sm M N n s) (hU : IU N n us) (hst9 : l.stackTraces = false) (hq : n ≤ cq ∧ cq ≤ 2 * n + 10) (hcp : s ≤ cp) (hcp2 : cp < 2 ^ 31) {oo : Nat} {f0 : Nat → Int64} {k c : Int32} : Hx l D Y zz yL_run cL_run 5 (some FieldType.int) [(0, 10, 13, 19), (0, 10, 17, 21)] 12 334 [.ref (ad (0)), .int k, .int c, .ref oo] (wK Y n s cp cq ad M ++ [(oo, oC (Y 1) f0)]) (13 * (nn ((fRun N n k c).1.1 0 2) - n) + 1) (800 * (nn ((fRun N n k c).1.1 0 2) - n) + 6) (fun r w => ((¬ (k < 0 ∨ nI n ≤ k) ∧ ¬ (c < 1 ∨ 500 < c)) ∧ r = some (.int 0) ∧ ∃ w1, pQ Y n s cp ad w1 (fRun N n k c).1 ∧ w = w1 ++ [(oo, oC (Y 1) (vp_updL f0 0 (fRun N n k c).2.toInt64))]) ∨ (r = some (.int 1) ∧ fRun N n k c = (mI N 0 0 1, 0) ∧ w = wK Y n s cp cq ad M ++ [(oo, oC (Y 1) f0)]) ∨ (r = some (.int 2) ∧ fRun N n k c = (mI N 0 0 2, 0) ∧ w = wK Y n s cp cq ad M ++ [(oo, oC (Y 1) f0)])) := by
  refine v_entryH (by decide +kernel) (Nat.le_of_ble_eq_true rfl) ?_
  intro K X R hR ht hd hl hD hY hz
  subst hl hD hY hz
  refine v_sub (lv' := [(0, .ref (ad (0))), (1, .int k), (2, .int c), (3, .ref oo)]) [0, 1, 2, 3] rfl ?_
  refine v_aload_n (pc' := 1) (i := 3) (j := 3) X dL_run_0 rfl rfl rfl ?_
  refine v_iconst (pc' := 2) (v := 0) X dL_run_1 (by decide) rfl ?_
  refine v_aload_n (pc' := 3) (i := 0) (j := 0) X dL_run_2 rfl rfl rfl ?_
  refine v_iload_n (pc' := 4) (i := 1) (j := 1) X dL_run_3 rfl rfl rfl ?_
  refine v_iload_n (pc' := 5) (i := 2) (j := 2) X dL_run_4 rfl rfl rfl ?_
  refine x_callVF (pc' := 8) X hd (st := [.int 0, .ref oo]) (c_X7_run hS hU hst9 hq hcp hcp2) k_X7_run w_ml_L_15 w_im_X7_run w_se_X7_X7_run rw_X7 (by rw [hR]; exact ⟨Nat.le_of_ble_eq_true rfl, Nat.le_of_ble_eq_true rfl⟩) rfl rfl (Nat.le_of_ble_eq_true rfl) dL_run_5 rfl (by rw [hR]; exact ⟨Nat.le_of_eq (Nat.zero_add _), Nat.le_of_eq (Nat.zero_add _)⟩) ?_ ?_
  · rintro _ w1 ⟨hz0, hz1, rfl, hw1⟩
    refine v_i2l (pc' := 9) X dL_run_8 rfl rfl ?_
    refine h_last (pc' := 10) X dL_run_9 rfl ?_
    refine v_goto (pc' := 21) X dL_run_10 (by decide) ?_
    refine v_iconst (pc' := 22) (v := 0) X dL_run_21 (by decide) rfl ?_
    refine v_ireturn X R (Nat.le_of_eq (Nat.zero_add _)) (Nat.le_of_eq (Nat.zero_add _)) dL_run_22 ?_
    exact Or.inl ⟨⟨hz0, hz1⟩, rfl, w1, hw1, rfl⟩
  · rintro E _ ⟨rfl, ⟨rfl, hF⟩ | ⟨rfl, hF⟩⟩
    · refine x_catch X (E := "java/util/NoSuchElementException") (name := "java/util/NoSuchElementException") [] _ [_] (ht.trans rfl) (fun z hz => absurd hz List.not_mem_nil) (by decide) (by decide) (w_cl_L_19) xw_NS_c (hp := 13) rfl (fun q9 => ?_)
      refine v_astore (pc' := 15) (lv' := [(4, .ref q9), (0, .ref (ad (0))), (1, .int k), (2, .int c), (3, .ref oo)]) X dL_run_13 (by decide) rfl rfl ?_
      refine v_iconst (pc' := 16) (v := 1) X dL_run_15 (by decide) rfl ?_
      refine v_ireturn X R (Nat.le_of_eq (Nat.zero_add _)) (Nat.le_of_eq (Nat.zero_add _)) dL_run_16 ?_
      exact Or.inr (Or.inl ⟨rfl, hF, rfl⟩)
    · refine x_catch X (E := "java/lang/IllegalArgumentException") (name := "java/lang/IllegalArgumentException") [_] _ [] (ht.trans rfl) (fun z hz => Or.inr (by obtain rfl := List.mem_singleton.mp hz; exact ⟨by decide, "java/util/NoSuchElementException", X.w w_cl_L_19, hd.2.2.2⟩)) (by decide) (by decide) (w_cl_L_21) xw_IA_c (hp := 17) rfl (fun q9 => ?_)
      refine v_astore (pc' := 19) (lv' := [(4, .ref q9), (0, .ref (ad (0))), (1, .int k), (2, .int c), (3, .ref oo)]) X dL_run_17 (by decide) rfl rfl ?_
      refine v_iconst (pc' := 20) (v := 2) X dL_run_19 (by decide) rfl ?_
      refine v_ireturn X R (Nat.le_of_eq (Nat.zero_add _)) (Nat.le_of_eq (Nat.zero_add _)) dL_run_20 ?_
      exact Or.inr (Or.inr ⟨rfl, hF, rfl⟩)
set_option maxHeartbeats 4000000 in
set_option maxRecDepth 100000 in
theorem h_turn {l : Launch} {D : va_G} {Y : Nat → ClassId} {zz : Nat → Nat} {n s cp cq us : Nat} {ad : Nat → Nat} {M : vM} {N : vM} (hS : Sm M N n s) (hU : IU N n us) (hst9 : l.stackTraces = false) (hq : n ≤ cq ∧ cq ≤ 2 * n + 10) (hcp : s ≤ cp) (hcp2 : cp < 2 ^ 31) {oo : Nat} {f0 : Nat → Int64} {k : Int32} : Hx l D Y zz yL_turn cL_turn 4 (some FieldType.int) [(0, 9, 12, 21)] 12 335 [.ref (ad (0)), .int k, .ref oo] (wK Y n s cp cq ad M ++ [(oo, oC (Y 1) f0)]) (13 * (nn ((fTurn N k).1.1 0 2) - n) + 1) (800 * (nn ((fTurn N k).1.1 0 2) - n) + 6) (fun r w => ((¬ (k < 1 ∨ 100 < k)) ∧ r = some (.int 0) ∧ ∃ w1, pQ Y n s cp ad w1 (fTurn N k).1 ∧ w = w1 ++ [(oo, oC (Y 1) (vp_updL f0 0 (fTurn N k).2.toInt64))]) ∨ (r = some (.int 1) ∧ fTurn N k = (mI N 0 0 1, 0) ∧ w = wK Y n s cp cq ad M ++ [(oo, oC (Y 1) f0)])) := by
  refine v_entryH (by decide +kernel) (Nat.le_of_ble_eq_true rfl) ?_
  intro K X R hR ht hd hl hD hY hz
  subst hl hD hY hz
  refine v_sub (lv' := [(0, .ref (ad (0))), (1, .int k), (2, .ref oo)]) [0, 1, 2] rfl ?_
  refine v_aload_n (pc' := 1) (i := 2) (j := 2) X dL_turn_0 rfl rfl rfl ?_
  refine v_iconst (pc' := 2) (v := 0) X dL_turn_1 (by decide) rfl ?_
  refine v_aload_n (pc' := 3) (i := 0) (j := 0) X dL_turn_2 rfl rfl rfl ?_
  refine v_iload_n (pc' := 4) (i := 1) (j := 1) X dL_turn_3 rfl rfl rfl ?_
  refine x_callVF (pc' := 7) X hd (st := [.int 0, .ref oo]) (c_X7_turn hS hU hst9 hq hcp hcp2) k_X7_turn w_ml_L_23 w_im_X7_turn w_se_X7_X7_turn rw_X7 (by rw [hR]; exact ⟨Nat.le_of_ble_eq_true rfl, Nat.le_of_ble_eq_true rfl⟩) rfl rfl (Nat.le_of_ble_eq_true rfl) dL_turn_4 rfl (by rw [hR]; exact ⟨Nat.le_of_eq (Nat.zero_add _), Nat.le_of_eq (Nat.zero_add _)⟩) ?_ ?_
  · rintro _ w1 ⟨hz0, rfl, hw1⟩
    refine v_i2l (pc' := 8) X dL_turn_7 rfl rfl ?_
    refine h_last (pc' := 9) X dL_turn_8 rfl ?_
    refine v_goto (pc' := 15) X dL_turn_9 (by decide) ?_
    refine v_iconst (pc' := 16) (v := 0) X dL_turn_15 (by decide) rfl ?_
    refine v_ireturn X R (Nat.le_of_eq (Nat.zero_add _)) (Nat.le_of_eq (Nat.zero_add _)) dL_turn_16 ?_
    exact Or.inl ⟨hz0, rfl, w1, hw1, rfl⟩
  · rintro E _ ⟨rfl, rfl, hF⟩
    refine x_catch X (E := "java/lang/IllegalArgumentException") (name := "java/lang/IllegalArgumentException") [] _ [] (ht.trans rfl) (fun z hz => absurd hz List.not_mem_nil) (by decide) (by decide) (w_cl_L_21) xw_IA_c (hp := 12) rfl (fun q9 => ?_)
    refine v_astore_n (pc' := 13) (i := 3) (lv' := [(3, .ref q9), (0, .ref (ad (0))), (1, .int k), (2, .ref oo)]) X dL_turn_12 rfl (by decide) rfl rfl ?_
    refine v_iconst (pc' := 14) (v := 1) X dL_turn_13 (by decide) rfl ?_
    refine v_ireturn X R (Nat.le_of_eq (Nat.zero_add _)) (Nat.le_of_eq (Nat.zero_add _)) dL_turn_14 ?_
    exact Or.inr ⟨rfl, hF, rfl⟩
set_option maxHeartbeats 4000000 in
set_option maxRecDepth 100000 in
theorem h_thread {l : Launch} {D : va_G} {Y : Nat → ClassId} {zz : Nat → Nat} {n s cp cq us : Nat} {ad : Nat → Nat} {M : vM} {N : vM} (hS : Sm M N n s) (hU : IU N n us) (hst9 : l.stackTraces = false) (hq : n ≤ cq ∧ cq ≤ 2 * n + 10) {oo : Nat} {f0 : Nat → Int64} {k what : Int32} : Hx l D Y zz yL_thread cL_thread 5 (some FieldType.int) [(0, 10, 13, 19), (0, 10, 17, 21)] 7 113 [.ref (ad (0)), .int k, .int what, .ref oo] (wK Y n s cp cq ad M ++ [(oo, oC (Y 1) f0)]) (1) (6) (fun r w => ((fThrd N n k what).1 = 0 ∧ r = some (.int 0) ∧ w = wK Y n s cp cq ad M ++ [(oo, oC (Y 1) (vp_updL f0 0 (fThrd N n k what).2.toInt64))]) ∨ (r = some (.int 1) ∧ fThrd N n k what = (1, 0) ∧ w = wK Y n s cp cq ad M ++ [(oo, oC (Y 1) f0)]) ∨ (r = some (.int 2) ∧ fThrd N n k what = (2, 0) ∧ w = wK Y n s cp cq ad M ++ [(oo, oC (Y 1) f0)])) := by
  refine v_entryH (by decide +kernel) (Nat.le_of_ble_eq_true rfl) ?_
  intro K X R hR ht hd hl hD hY hz
  subst hl hD hY hz
  refine v_sub (lv' := [(0, .ref (ad (0))), (1, .int k), (2, .int what), (3, .ref oo)]) [0, 1, 2, 3] rfl ?_
  refine v_aload_n (pc' := 1) (i := 3) (j := 3) X dL_thread_0 rfl rfl rfl ?_
  refine v_iconst (pc' := 2) (v := 0) X dL_thread_1 (by decide) rfl ?_
  refine v_aload_n (pc' := 3) (i := 0) (j := 0) X dL_thread_2 rfl rfl rfl ?_
  refine v_iload_n (pc' := 4) (i := 1) (j := 1) X dL_thread_3 rfl rfl rfl ?_
  refine v_iload_n (pc' := 5) (i := 2) (j := 2) X dL_thread_4 rfl rfl rfl ?_
  refine x_callVF (pc' := 8) X hd (st := [.int 0, .ref oo]) (c_X7_thread hS hU hst9 hq) k_X7_thread w_ml_L_27 w_im_X7_thread w_se_X7_X7_thread rw_X7 (by rw [hR]; exact ⟨Nat.le_of_ble_eq_true rfl, Nat.le_of_ble_eq_true rfl⟩) rfl rfl (Nat.le_of_ble_eq_true rfl) dL_thread_5 rfl (by rw [hR]; exact ⟨Nat.le_of_eq (Nat.zero_add _), Nat.le_of_eq (Nat.zero_add _)⟩) ?_ ?_
  · rintro _ _ ⟨hz0, rfl, rfl⟩
    refine v_i2l (pc' := 9) X dL_thread_8 rfl rfl ?_
    refine h_last (pc' := 10) X dL_thread_9 rfl ?_
    refine v_goto (pc' := 21) X dL_thread_10 (by decide) ?_
    refine v_iconst (pc' := 22) (v := 0) X dL_thread_21 (by decide) rfl ?_
    refine v_ireturn X R (Nat.le_of_eq (Nat.zero_add _)) (Nat.le_of_eq (Nat.zero_add _)) dL_thread_22 ?_
    exact Or.inl ⟨hz0, rfl, rfl⟩
  · rintro E _ ⟨rfl, ⟨rfl, hF⟩ | ⟨rfl, hF⟩⟩
    · refine x_catch X (E := "java/util/NoSuchElementException") (name := "java/util/NoSuchElementException") [] _ [_] (ht.trans rfl) (fun z hz => absurd hz List.not_mem_nil) (by decide) (by decide) (w_cl_L_19) xw_NS_c (hp := 13) rfl (fun q9 => ?_)
      refine v_astore (pc' := 15) (lv' := [(4, .ref q9), (0, .ref (ad (0))), (1, .int k), (2, .int what), (3, .ref oo)]) X dL_thread_13 (by decide) rfl rfl ?_
      refine v_iconst (pc' := 16) (v := 1) X dL_thread_15 (by decide) rfl ?_
      refine v_ireturn X R (Nat.le_of_eq (Nat.zero_add _)) (Nat.le_of_eq (Nat.zero_add _)) dL_thread_16 ?_
      exact Or.inr (Or.inl ⟨rfl, hF, rfl⟩)
    · refine x_catch X (E := "java/lang/IllegalArgumentException") (name := "java/lang/IllegalArgumentException") [_] _ [] (ht.trans rfl) (fun z hz => Or.inr (by obtain rfl := List.mem_singleton.mp hz; exact ⟨by decide, "java/util/NoSuchElementException", X.w w_cl_L_19, hd.2.2.2⟩)) (by decide) (by decide) (w_cl_L_21) xw_IA_c (hp := 17) rfl (fun q9 => ?_)
      refine v_astore (pc' := 19) (lv' := [(4, .ref q9), (0, .ref (ad (0))), (1, .int k), (2, .int what), (3, .ref oo)]) X dL_thread_17 (by decide) rfl rfl ?_
      refine v_iconst (pc' := 20) (v := 2) X dL_thread_19 (by decide) rfl ?_
      refine v_ireturn X R (Nat.le_of_eq (Nat.zero_add _)) (Nat.le_of_eq (Nat.zero_add _)) dL_thread_20 ?_
      exact Or.inr (Or.inr ⟨rfl, hF, rfl⟩)
set_option maxHeartbeats 4000000 in
set_option maxRecDepth 100000 in
theorem h_register {l : Launch} {D : va_G} {Y : Nat → ClassId} {zz : Nat → Nat} {n s cp cq us : Nat} {ad : Nat → Nat} {M : vM} {N : vM} (hS : Sm M N n s) (hU : IU N n us) (hst9 : l.stackTraces = false) (hq : n ≤ cq ∧ cq ≤ 2 * n + 10) {oo : Nat} {f0 : Nat → Int64} {k x : Int32} : Hx l D Y zz yL_register cL_register 5 (some FieldType.int) [(0, 9, 12, 19)] 7 112 [.ref (ad (0)), .int k, .int x, .ref oo] (wK Y n s cp cq ad M ++ [(oo, oC (Y 1) f0)]) (1) (6) (fun r w => ((fReg N n k x).1 = 0 ∧ r = some (.int 0) ∧ w = wK Y n s cp cq ad M ++ [(oo, oC (Y 1) (vp_updL f0 0 (fReg N n k x).2))]) ∨ (r = some (.int 1) ∧ fReg N n k x = (1, 0) ∧ w = wK Y n s cp cq ad M ++ [(oo, oC (Y 1) f0)])) := by
  refine v_entryH (by decide +kernel) (Nat.le_of_ble_eq_true rfl) ?_
  intro K X R hR ht hd hl hD hY hz
  subst hl hD hY hz
  refine v_sub (lv' := [(0, .ref (ad (0))), (1, .int k), (2, .int x), (3, .ref oo)]) [0, 1, 2, 3] rfl ?_
  refine v_aload_n (pc' := 1) (i := 3) (j := 3) X dL_register_0 rfl rfl rfl ?_
  refine v_iconst (pc' := 2) (v := 0) X dL_register_1 (by decide) rfl ?_
  refine v_aload_n (pc' := 3) (i := 0) (j := 0) X dL_register_2 rfl rfl rfl ?_
  refine v_iload_n (pc' := 4) (i := 1) (j := 1) X dL_register_3 rfl rfl rfl ?_
  refine v_iload_n (pc' := 5) (i := 2) (j := 2) X dL_register_4 rfl rfl rfl ?_
  refine x_callVF (pc' := 8) X hd (st := [.int 0, .ref oo]) (c_X7_register hS hU hst9 hq) k_X7_register w_ml_L_30 w_im_X7_register w_se_X7_X7_register rw_X7 (by rw [hR]; exact ⟨Nat.le_of_ble_eq_true rfl, Nat.le_of_ble_eq_true rfl⟩) rfl rfl (Nat.le_of_ble_eq_true rfl) dL_register_5 rfl (by rw [hR]; exact ⟨Nat.le_of_eq (Nat.zero_add _), Nat.le_of_eq (Nat.zero_add _)⟩) ?_ ?_
  · rintro _ _ ⟨hz0, rfl, rfl⟩
    refine h_last (pc' := 9) X dL_register_8 rfl ?_
    refine v_goto (pc' := 16) X dL_register_9 (by decide) ?_
    refine v_iconst (pc' := 17) (v := 0) X dL_register_16 (by decide) rfl ?_
    refine v_ireturn X R (Nat.le_of_eq (Nat.zero_add _)) (Nat.le_of_eq (Nat.zero_add _)) dL_register_17 ?_
    exact Or.inl ⟨hz0, rfl, rfl⟩
  · rintro E _ ⟨rfl, rfl, hF⟩
    refine x_catch X (E := "java/util/NoSuchElementException") (name := "java/util/NoSuchElementException") [] _ [] (ht.trans rfl) (fun z hz => absurd hz List.not_mem_nil) (by decide) (by decide) (w_cl_L_19) xw_NS_c (hp := 12) rfl (fun q9 => ?_)
    refine v_astore (pc' := 14) (lv' := [(4, .ref q9), (0, .ref (ad (0))), (1, .int k), (2, .int x), (3, .ref oo)]) X dL_register_12 (by decide) rfl rfl ?_
    refine v_iconst (pc' := 15) (v := 1) X dL_register_14 (by decide) rfl ?_
    refine v_ireturn X R (Nat.le_of_eq (Nat.zero_add _)) (Nat.le_of_eq (Nat.zero_add _)) dL_register_15 ?_
    exact Or.inr ⟨rfl, hF, rfl⟩
set_option maxHeartbeats 4000000 in
set_option maxRecDepth 100000 in
theorem h_global {l : Launch} {D : va_G} {Y : Nat → ClassId} {zz : Nat → Nat} {n s cp cq us : Nat} {ad : Nat → Nat} {M : vM} {N : vM} (hS : Sm M N n s) (hU : IU N n us) (hst9 : l.stackTraces = false) (hq : n ≤ cq ∧ cq ≤ 2 * n + 10) {oo : Nat} {f0 : Nat → Int64} {k : Int32} : Hx l D Y zz yL_global cL_global 4 (some FieldType.int) [(0, 8, 11, 19)] 7 111 [.ref (ad (0)), .int k, .ref oo] (wK Y n s cp cq ad M ++ [(oo, oC (Y 1) f0)]) (1) (6) (fun r w => ((fGlob N k).1 = 0 ∧ r = some (.int 0) ∧ w = wK Y n s cp cq ad M ++ [(oo, oC (Y 1) (vp_updL f0 0 (fGlob N k).2))]) ∨ (r = some (.int 1) ∧ fGlob N k = (1, 0) ∧ w = wK Y n s cp cq ad M ++ [(oo, oC (Y 1) f0)])) := by
  refine v_entryH (by decide +kernel) (Nat.le_of_ble_eq_true rfl) ?_
  intro K X R hR ht hd hl hD hY hz
  subst hl hD hY hz
  refine v_sub (lv' := [(0, .ref (ad (0))), (1, .int k), (2, .ref oo)]) [0, 1, 2] rfl ?_
  refine v_aload_n (pc' := 1) (i := 2) (j := 2) X dL_global_0 rfl rfl rfl ?_
  refine v_iconst (pc' := 2) (v := 0) X dL_global_1 (by decide) rfl ?_
  refine v_aload_n (pc' := 3) (i := 0) (j := 0) X dL_global_2 rfl rfl rfl ?_
  refine v_iload_n (pc' := 4) (i := 1) (j := 1) X dL_global_3 rfl rfl rfl ?_
  refine x_callVF (pc' := 7) X hd (st := [.int 0, .ref oo]) (c_X7_global hS hU hst9 hq) k_X7_global w_ml_L_34 w_im_X7_global w_se_X7_X7_global rw_X7 (by rw [hR]; exact ⟨Nat.le_of_ble_eq_true rfl, Nat.le_of_ble_eq_true rfl⟩) rfl rfl (Nat.le_of_ble_eq_true rfl) dL_global_4 rfl (by rw [hR]; exact ⟨Nat.le_of_eq (Nat.zero_add _), Nat.le_of_eq (Nat.zero_add _)⟩) ?_ ?_
  · rintro _ _ ⟨hz0, rfl, rfl⟩
    refine h_last (pc' := 8) X dL_global_7 rfl ?_
    refine v_goto (pc' := 14) X dL_global_8 (by decide) ?_
    refine v_iconst (pc' := 15) (v := 0) X dL_global_14 (by decide) rfl ?_
    refine v_ireturn X R (Nat.le_of_eq (Nat.zero_add _)) (Nat.le_of_eq (Nat.zero_add _)) dL_global_15 ?_
    exact Or.inl ⟨hz0, rfl, rfl⟩
  · rintro E _ ⟨rfl, rfl, hF⟩
    refine x_catch X (E := "java/util/NoSuchElementException") (name := "java/util/NoSuchElementException") [] _ [] (ht.trans rfl) (fun z hz => absurd hz List.not_mem_nil) (by decide) (by decide) (w_cl_L_19) xw_NS_c (hp := 11) rfl (fun q9 => ?_)
    refine v_astore_n (pc' := 12) (i := 3) (lv' := [(3, .ref q9), (0, .ref (ad (0))), (1, .int k), (2, .ref oo)]) X dL_global_11 rfl (by decide) rfl rfl ?_
    refine v_iconst (pc' := 13) (v := 1) X dL_global_12 (by decide) rfl ?_
    refine v_ireturn X R (Nat.le_of_eq (Nat.zero_add _)) (Nat.le_of_eq (Nat.zero_add _)) dL_global_13 ?_
    exact Or.inr ⟨rfl, hF, rfl⟩
set_option maxHeartbeats 4000000 in
set_option maxRecDepth 100000 in
theorem h_place {l : Launch} {D : va_G} {Y : Nat → ClassId} {zz : Nat → Nat} {n s cp cq us : Nat} {ad : Nat → Nat} {M : vM} {N : vM} (hS : Sm M N n s) (hU : IU N n us) (hst9 : l.stackTraces = false) (hq : n ≤ cq ∧ cq ≤ 2 * n + 10) {oo : Nat} {f0 : Nat → Int64} {p what : Int32} : Hx l D Y zz yL_place cL_place 5 (some FieldType.int) [(0, 9, 12, 19), (0, 9, 16, 21)] 7 112 [.ref (ad (0)), .int p, .int what, .ref oo] (wK Y n s cp cq ad M ++ [(oo, oC (Y 1) f0)]) (1) (6) (fun r w => ((fPlace N p what).1 = 0 ∧ r = some (.int 0) ∧ w = wK Y n s cp cq ad M ++ [(oo, oC (Y 1) (vp_updL f0 0 (fPlace N p what).2))]) ∨ (r = some (.int 1) ∧ fPlace N p what = (1, 0) ∧ w = wK Y n s cp cq ad M ++ [(oo, oC (Y 1) f0)]) ∨ (r = some (.int 2) ∧ fPlace N p what = (2, 0) ∧ w = wK Y n s cp cq ad M ++ [(oo, oC (Y 1) f0)])) := by
  refine v_entryH (by decide +kernel) (Nat.le_of_ble_eq_true rfl) ?_
  intro K X R hR ht hd hl hD hY hz
  subst hl hD hY hz
  refine v_sub (lv' := [(0, .ref (ad (0))), (1, .int p), (2, .int what), (3, .ref oo)]) [0, 1, 2, 3] rfl ?_
  refine v_aload_n (pc' := 1) (i := 3) (j := 3) X dL_place_0 rfl rfl rfl ?_
  refine v_iconst (pc' := 2) (v := 0) X dL_place_1 (by decide) rfl ?_
  refine v_aload_n (pc' := 3) (i := 0) (j := 0) X dL_place_2 rfl rfl rfl ?_
  refine v_iload_n (pc' := 4) (i := 1) (j := 1) X dL_place_3 rfl rfl rfl ?_
  refine v_iload_n (pc' := 5) (i := 2) (j := 2) X dL_place_4 rfl rfl rfl ?_
  refine x_callVF (pc' := 8) X hd (st := [.int 0, .ref oo]) (c_X7_place hS hU hst9 hq) k_X7_place w_ml_L_38 w_im_X7_place w_se_X7_X7_place rw_X7 (by rw [hR]; exact ⟨Nat.le_of_ble_eq_true rfl, Nat.le_of_ble_eq_true rfl⟩) rfl rfl (Nat.le_of_ble_eq_true rfl) dL_place_5 rfl (by rw [hR]; exact ⟨Nat.le_of_eq (Nat.zero_add _), Nat.le_of_eq (Nat.zero_add _)⟩) ?_ ?_
  · rintro _ _ ⟨hz0, rfl, rfl⟩
    refine h_last (pc' := 9) X dL_place_8 rfl ?_
    refine v_goto (pc' := 20) X dL_place_9 (by decide) ?_
    refine v_iconst (pc' := 21) (v := 0) X dL_place_20 (by decide) rfl ?_
    refine v_ireturn X R (Nat.le_of_eq (Nat.zero_add _)) (Nat.le_of_eq (Nat.zero_add _)) dL_place_21 ?_
    exact Or.inl ⟨hz0, rfl, rfl⟩
  · rintro E _ ⟨rfl, ⟨rfl, hF⟩ | ⟨rfl, hF⟩⟩
    · refine x_catch X (E := "java/util/NoSuchElementException") (name := "java/util/NoSuchElementException") [] _ [_] (ht.trans rfl) (fun z hz => absurd hz List.not_mem_nil) (by decide) (by decide) (w_cl_L_19) xw_NS_c (hp := 12) rfl (fun q9 => ?_)
      refine v_astore (pc' := 14) (lv' := [(4, .ref q9), (0, .ref (ad (0))), (1, .int p), (2, .int what), (3, .ref oo)]) X dL_place_12 (by decide) rfl rfl ?_
      refine v_iconst (pc' := 15) (v := 1) X dL_place_14 (by decide) rfl ?_
      refine v_ireturn X R (Nat.le_of_eq (Nat.zero_add _)) (Nat.le_of_eq (Nat.zero_add _)) dL_place_15 ?_
      exact Or.inr (Or.inl ⟨rfl, hF, rfl⟩)
    · refine x_catch X (E := "java/lang/IllegalArgumentException") (name := "java/lang/IllegalArgumentException") [_] _ [] (ht.trans rfl) (fun z hz => Or.inr (by obtain rfl := List.mem_singleton.mp hz; exact ⟨by decide, "java/util/NoSuchElementException", X.w w_cl_L_19, hd.2.2.2⟩)) (by decide) (by decide) (w_cl_L_21) xw_IA_c (hp := 16) rfl (fun q9 => ?_)
      refine v_astore (pc' := 18) (lv' := [(4, .ref q9), (0, .ref (ad (0))), (1, .int p), (2, .int what), (3, .ref oo)]) X dL_place_16 (by decide) rfl rfl ?_
      refine v_iconst (pc' := 19) (v := 2) X dL_place_18 (by decide) rfl ?_
      refine v_ireturn X R (Nat.le_of_eq (Nat.zero_add _)) (Nat.le_of_eq (Nat.zero_add _)) dL_place_19 ?_
      exact Or.inr (Or.inr ⟨rfl, hF, rfl⟩)
set_option maxHeartbeats 4000000 in
set_option maxRecDepth 100000 in
theorem h_output {l : Launch} {D : va_G} {Y : Nat → ClassId} {zz : Nat → Nat} {n s cp cq us : Nat} {ad : Nat → Nat} {M : vM} {N : vM} (hS : Sm M N n s) (hU : IU N n us) (hst9 : l.stackTraces = false) (hq : n ≤ cq ∧ cq ≤ 2 * n + 10) {oo : Nat} {f0 : Nat → Int64} {k : Int32} : Hx l D Y zz yL_output cL_output 4 (some FieldType.int) [(0, 9, 12, 44)] 7 111 [.ref (ad (0)), .int k, .ref oo] (wK Y n s cp cq ad M ++ [(oo, oC (Y 1) f0)]) (1) (6) (fun r w => ((fOutp N k).1 = 0 ∧ r = some (.int 0) ∧ w = wK Y n s cp cq ad M ++ [(oo, oC (Y 1) (vp_updL f0 0 (fOutp N k).2.toInt64))]) ∨ (r = some (.int 1) ∧ fOutp N k = (1, 0) ∧ w = wK Y n s cp cq ad M ++ [(oo, oC (Y 1) f0)])) := by
  refine v_entryH (by decide +kernel) (Nat.le_of_ble_eq_true rfl) ?_
  intro K X R hR ht hd hl hD hY hz
  subst hl hD hY hz
  refine v_sub (lv' := [(0, .ref (ad (0))), (1, .int k), (2, .ref oo)]) [0, 1, 2] rfl ?_
  refine v_aload_n (pc' := 1) (i := 2) (j := 2) X dL_output_0 rfl rfl rfl ?_
  refine v_iconst (pc' := 2) (v := 0) X dL_output_1 (by decide) rfl ?_
  refine v_aload_n (pc' := 3) (i := 0) (j := 0) X dL_output_2 rfl rfl rfl ?_
  refine v_iload_n (pc' := 4) (i := 1) (j := 1) X dL_output_3 rfl rfl rfl ?_
  refine x_callVF (pc' := 7) X hd (st := [.int 0, .ref oo]) (c_X7_output hS hU hst9 hq) k_X7_output w_ml_L_41 w_im_X7_output w_se_X7_X7_output rw_X7 (by rw [hR]; exact ⟨Nat.le_of_ble_eq_true rfl, Nat.le_of_ble_eq_true rfl⟩) rfl rfl (Nat.le_of_ble_eq_true rfl) dL_output_4 rfl (by rw [hR]; exact ⟨Nat.le_of_eq (Nat.zero_add _), Nat.le_of_eq (Nat.zero_add _)⟩) ?_ ?_
  · rintro _ _ ⟨hz0, rfl, rfl⟩
    refine v_i2l (pc' := 8) X dL_output_7 rfl rfl ?_
    refine h_last (pc' := 9) X dL_output_8 rfl ?_
    refine v_goto (pc' := 15) X dL_output_9 (by decide) ?_
    refine v_iconst (pc' := 16) (v := 0) X dL_output_15 (by decide) rfl ?_
    refine v_ireturn X R (Nat.le_of_eq (Nat.zero_add _)) (Nat.le_of_eq (Nat.zero_add _)) dL_output_16 ?_
    exact Or.inl ⟨hz0, rfl, rfl⟩
  · rintro E _ ⟨rfl, rfl, hF⟩
    refine x_catch X (E := "java/lang/IndexOutOfBoundsException") (name := "java/lang/IndexOutOfBoundsException") [] _ [] (ht.trans rfl) (fun z hz => absurd hz List.not_mem_nil) (by decide) (by decide) (w_cl_L_44) xw_IB_c (hp := 12) rfl (fun q9 => ?_)
    refine v_astore_n (pc' := 13) (i := 3) (lv' := [(3, .ref q9), (0, .ref (ad (0))), (1, .int k), (2, .ref oo)]) X dL_output_12 rfl (by decide) rfl rfl ?_
    refine v_iconst (pc' := 14) (v := 1) X dL_output_13 (by decide) rfl ?_
    refine v_ireturn X R (Nat.le_of_eq (Nat.zero_add _)) (Nat.le_of_eq (Nat.zero_add _)) dL_output_14 ?_
    exact Or.inr ⟨rfl, hF, rfl⟩
