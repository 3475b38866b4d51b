/-! THE CLASS: THE FORK, PERFORMED -/
set_option maxHeartbeats 4000000 in
set_option maxRecDepth 100000 in
theorem c_X7_plain_25 {l : Launch} {D : va_G} {Y : Nat → ClassId} {zz : Nat → Nat} {n s cp cq : Nat} {ad : Nat → Nat} {M : vM} {i : Nat} (hi : i < n) (h16 : i < 16) {k9 : Nat} (hk9 : k9 < s) {x y z : Int32} (hx : M.1 (ib k9) 1 = x) (hy : M.1 (ib k9) 2 = y) (hz9 : M.1 (ib k9) 3 = z) (h52 : M.1 5 2 = nI n) (hn16 : n ≤ 16) (hn1 : 0 < n) (hq : n ≤ cq ∧ cq ≤ 2 * n + 10) (hx1 : x = nI (nn x)) (hx2 : nn x < 16) : Ct l D Y zz yX7_performPlainly cX7_performPlainly 8 none 8 236 [.ref (ad (0)), .ref (ad (tb i)), .ref (zz 25), .ref (ad (ib k9))] (wK Y n s cp cq ad M) ((if n = 16 then 0 else 13)) ((if n = 16 then 0 else 800)) (fun r w => r = none ∧ ∃ (ad9 : Nat → Nat) (cq9 : Nat), w = wK Y (if n = 16 then n else n + 1) s cp cq9 ad9 (gFork M n (tb i) x y) ∧ ((if n = 16 then n else n + 1) ≤ cq9 ∧ cq9 ≤ 2 * (if n = 16 then n else n + 1) + 10) ∧ ∀ c, c ≠ 6 → (c < tb n ∨ 400 ≤ c) → ad9 c = ad c) := by
  refine v_entry (by decide +kernel) (Nat.le_of_ble_eq_true rfl) ?_
  intro K X R hR hnm hl hD hY hz
  subst hl hD hY hz
  refine v_sub (lv' := [(0, .ref (ad (0))), (1, .ref (ad (tb i))), (2, .ref (kZ K 25)), (3, .ref (ad (ib k9)))]) [0, 1, 2, 3] rfl ?_
  refine v_aload_n (pc' := 1) (i := 1) (j := 1) X dX7_performPlainly_0 rfl rfl rfl ?_
  refine fk_X7_119 (pc' := 4) X hi h16 dX7_performPlainly_1 rfl ?_
  refine v_astore (pc' := 6) (lv' := [(4, .ref (ad (tb i + 8))), (0, .ref (ad (0))), (1, .ref (ad (tb i))), (2, .ref (kZ K 25)), (3, .ref (ad (ib k9)))]) X dX7_performPlainly_4 (by decide) rfl rfl ?_
  refine v_aload_n (pc' := 7) (i := 3) (j := 4) X dX7_performPlainly_6 rfl rfl rfl ?_
  refine fk_X7_191 (pc' := 10) X hk9 (v := x) hx dX7_performPlainly_7 rfl ?_
  refine v_istore (pc' := 12) (lv' := [(5, .int x), (4, .ref (ad (tb i + 8))), (0, .ref (ad (0))), (1, .ref (ad (tb i))), (2, .ref (kZ K 25)), (3, .ref (ad (ib k9)))]) X dX7_performPlainly_10 (by decide) rfl rfl ?_
  refine v_aload_n (pc' := 13) (i := 3) (j := 5) X dX7_performPlainly_12 rfl rfl rfl ?_
  refine fk_X7_194 (pc' := 16) X hk9 (v := y) hy dX7_performPlainly_13 rfl ?_
  refine v_istore (pc' := 18) (lv' := [(6, .int y), (5, .int x), (4, .ref (ad (tb i + 8))), (0, .ref (ad (0))), (1, .ref (ad (tb i))), (2, .ref (kZ K 25)), (3, .ref (ad (ib k9)))]) X dX7_performPlainly_16 (by decide) rfl rfl ?_
  refine v_aload_n (pc' := 19) (i := 3) (j := 6) X dX7_performPlainly_18 rfl rfl rfl ?_
  refine fk_X7_247 (pc' := 22) X hk9 (v := z) hz9 dX7_performPlainly_19 rfl ?_
  refine v_istore (pc' := 24) (lv' := [(7, .int z), (6, .int y), (5, .int x), (4, .ref (ad (tb i + 8))), (0, .ref (ad (0))), (1, .ref (ad (tb i))), (2, .ref (kZ K 25)), (3, .ref (ad (ib k9)))]) X dX7_performPlainly_22 (by decide) rfl rfl ?_
  refine v_gets (pc' := 27) X X.zM w_fl_X7_183 rfl dX7_performPlainly_24 rfl ?_
  refine v_aload_n (pc' := 28) (i := 2) (j := 6) X dX7_performPlainly_27 rfl rfl rfl ?_
  refine v_callU (pc' := 31) X (st := [.ref (kZ K 31)]) (c_ordinal (o := 25) (by decide)) k_Jx29ce0_ordinal_8abf5 w_ml_X7_188 w_sm_596 w_se_X4_Jx29ce0_ordinal_8abf5 w_im_Jx29ce0_ordinal_8abf5 rfl (by decide +kernel) (zE_recv X (by decide)) (by rw [hR]; exact ⟨Nat.le_of_ble_eq_true rfl, Nat.le_of_ble_eq_true rfl⟩) rfl rfl (Nat.le_of_ble_eq_true rfl) dX7_performPlainly_28 rfl (⟨Nat.zero_le _, Nat.zero_le _⟩) ?_
  rintro _ _ ⟨rfl, rfl⟩
  refine v_ti (pc' := 32) X X.zMt (25) rfl (by decide) (by decide) (v := .int 26) (rfl) dX7_performPlainly_31 rfl ?_
  refine v_tableIn (off := 393) (tgt := 425) X dX7_performPlainly_32 (by decide) (by decide) (by decide) (by decide) ?_
  refine v_aload_n (pc' := 426) (i := 0) (j := 4) X dX7_performPlainly_425 rfl rfl rfl ?_
  refine v_aload_n (pc' := 427) (i := 1) (j := 5) X dX7_performPlainly_426 rfl rfl rfl ?_
  refine v_iload (pc' := 429) (j := 2) X dX7_performPlainly_427 rfl rfl ?_
  refine v_iload (pc' := 431) (j := 1) X dX7_performPlainly_429 rfl rfl ?_
  refine v_callV (pc' := 434) X (st := []) (c_X7_fork (M := M) hi h16 h52 hn16 hn1 hq (x := x) (y := y) hx1 hx2) k_X7_fork w_ml_X7_286 w_im_X7_fork w_se_X7_X7_fork rw_X7 (by rw [hR]; exact ⟨Nat.le_of_ble_eq_true rfl, Nat.le_of_ble_eq_true rfl⟩) rfl rfl (Nat.le_of_ble_eq_true rfl) dX7_performPlainly_431 rfl (by rw [hR]; exact ⟨Nat.le_of_eq (Nat.zero_add _), Nat.le_of_eq (Nat.zero_add _)⟩) ?_
  rintro _ _ ⟨rfl, ad9, cq9, rfl, hq9, had9⟩
  refine v_goto (pc' := 500) X dX7_performPlainly_434 (by decide) ?_
  refine v_return X R (Nat.le_of_eq (Nat.zero_add _)) (Nat.le_of_eq (Nat.zero_add _)) dX7_performPlainly_500 ?_
  exact ⟨rfl, ad9, cq9, rfl, hq9, had9⟩
