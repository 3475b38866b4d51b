/-! THE CLASS: THE PLAIN INSTRUCTIONS -/
theorem gOpen_n {M : vM} {b e c : Nat} {kd al : Int32} (h : c ≠ b) (h2 : c ≠ b + 11) (h3 : c ≠ b + 12) (h4 : c ≠ b + 13) (h5 : c ≠ b + 14) : (gOpen M b e kd al).1 c = M.1 c := by
  unfold gOpen
  dsimp only
  split <;> simp only [mI_n _ _ _ _ h, mI_n _ _ _ _ h2, mI_n _ _ _ _ h3, mI_n _ _ _ _ h4, mI_n _ _ _ _ h5, mRL_1]
def gOE (M : vM) (b e : Nat) (m x : Int32) : vM := if m = 6 then gBegin (gOpen M b e 0 (M.1 b 10)) b (M.1 0 5) else if m = 7 then gOpen M b e 1 x else if m = 8 then gOpen M b e 2 x else mI (gDrop M b (nI (e - 1))) b 10 x
set_option maxHeartbeats 4000000 in
set_option maxRecDepth 100000 in
theorem c_X7_openOrEnd {l : Launch} {D : va_G} {Y : Nat → ClassId} {zz : Nat → Nat} {n s cp cq : Nat} {ad : Nat → Nat} {M : vM} {i e : Nat} (hi : i < n) (h16 : i < 16) {o : Nat} (ho : o < 30) {m x : Int32} (hm : opM.getD o 0 = m) (h12 : M.1 (tb i) 12 = nI e) (he : e ≤ 24) (he24 : m = 6 ∨ m = 7 ∨ m = 8 → e < 24) (he1 : ¬ (m = 6 ∨ m = 7 ∨ m = 8) → 1 ≤ e) : Ct l D Y zz yX7_openOrEnd cX7_openOrEnd 4 none 2 82 [.ref (ad (0)), .ref (ad (tb i)), .ref (zz o), .int x] (wK Y n s cp cq ad M) 0 0 (fun r w => r = none ∧ w = wK Y n s cp cq ad (gOE M (tb i) e m x)) := by
  refine v_entry (by decide +kernel) (Nat.le_of_ble_eq_true rfl) ?_
  intro K X R hR hnm hl hD hY hz
  subst hl hD hY hz
  refine v_sub (lv' := [(0, .ref (ad (0))), (1, .ref (ad (tb i))), (2, .ref (kZ K o)), (3, .int x)]) [0, 1, 2, 3] rfl ?_
  refine v_gets (pc' := 3) X X.zM w_fl_X7_183 rfl dX7_openOrEnd_0 rfl ?_
  refine v_aload_n (pc' := 4) (i := 2) (j := 2) X dX7_openOrEnd_3 rfl rfl rfl ?_
  refine v_callU (pc' := 7) X (st := [.ref (kZ K 31)]) (c_ordinal (o := o) ho) k_Jx29ce0_ordinal_8abf5 w_ml_X7_188 w_sm_596 w_se_X4_Jx29ce0_ordinal_8abf5 w_im_Jx29ce0_ordinal_8abf5 rfl (by decide +kernel) (zE_recv X ho) (by rw [hR]; exact ⟨Nat.le_of_ble_eq_true rfl, Nat.le_of_ble_eq_true rfl⟩) rfl rfl (Nat.le_of_ble_eq_true rfl) dX7_openOrEnd_4 rfl (⟨Nat.zero_le _, Nat.zero_le _⟩) ?_
  rintro _ _ ⟨rfl, rfl⟩
  refine v_ti (pc' := 8) X X.zMt (o) rfl ho (by decide) (v := .int m) (by show Value.int (opM.getD o 0) = _; rw [hm]) dX7_openOrEnd_7 rfl ?_
  rcases sw_6_8 m with rfl | rfl | rfl | hsw
  · refine v_tableIn (off := 28) (tgt := 36) X dX7_openOrEnd_8 (by decide) (by decide) (by decide) (by decide) ?_
    refine v_aload_n (pc' := 37) (i := 1) (j := 1) X dX7_openOrEnd_36 rfl rfl rfl ?_
    refine v_iconst (pc' := 38) (v := 0) X dX7_openOrEnd_37 (by decide) rfl ?_
    refine v_aload_n (pc' := 39) (i := 1) (j := 1) X dX7_openOrEnd_38 rfl rfl rfl ?_
    refine fk_X7_91 (pc' := 42) X hi h16 (v := M.1 (tb i) 10) rfl dX7_openOrEnd_39 rfl ?_
    refine v_callVN (pc' := 45) X (st := []) (c_X6_openNest (M := M) hi h16 (e := e) h12 (he24 (Or.inl rfl)) (kind := 0) (alt := M.1 (tb i) 10)) k_X6_openNest n_ml_X7_293 w_im_X6_openNest w_se_X6_X6_openNest (rw_X6 hi h16) (by rw [hR]; exact ⟨Nat.le_of_ble_eq_true rfl, Nat.le_of_ble_eq_true rfl⟩) rfl rfl (Nat.le_of_ble_eq_true rfl) dX7_openOrEnd_42 rfl (⟨Nat.zero_le _, Nat.zero_le _⟩) ?_
    rintro _ _ ⟨rfl, rfl⟩
    refine v_aload_n (pc' := 46) (i := 1) (j := 1) X dX7_openOrEnd_45 rfl rfl rfl ?_
    refine fk_X7_100 (pc' := 49) X hi h16 dX7_openOrEnd_46 rfl ?_
    refine v_aload_n (pc' := 50) (i := 0) (j := 0) X dX7_openOrEnd_49 rfl rfl rfl ?_
    refine fk_X7_37 (pc' := 53) X (v := M.1 0 5) (congrFun (gOpen_n (by unfold tb; omega) (by unfold tb; omega) (by unfold tb; omega) (by unfold tb; omega) (by unfold tb; omega)) _) dX7_openOrEnd_50 rfl ?_
    refine v_callVN (pc' := 56) X (st := []) (c_X3_begin (M := (gOpen M (tb i) e 0 (M.1 (tb i) 10))) hi h16 (c := M.1 0 5)) k_X3_begin n_ml_X7_297 w_im_X3_begin w_se_X3_X3_begin (rw_X3 hi h16) (by rw [hR]; exact ⟨Nat.le_of_ble_eq_true rfl, Nat.le_of_ble_eq_true rfl⟩) rfl rfl (Nat.le_of_ble_eq_true rfl) dX7_openOrEnd_53 rfl (⟨Nat.zero_le _, Nat.zero_le _⟩) ?_
    rintro _ _ ⟨rfl, rfl⟩
    refine v_goto (pc' := 92) X dX7_openOrEnd_56 (by decide) ?_
    refine v_return X R (Nat.zero_le _) (Nat.zero_le _) dX7_openOrEnd_92 ?_
    rw [gOE, if_pos rfl]
    exact ⟨rfl, rfl⟩
  · refine v_tableIn (off := 51) (tgt := 59) X dX7_openOrEnd_8 (by decide) (by decide) (by decide) (by decide) ?_
    refine v_aload_n (pc' := 60) (i := 1) (j := 1) X dX7_openOrEnd_59 rfl rfl rfl ?_
    refine v_iconst (pc' := 61) (v := 1) X dX7_openOrEnd_60 (by decide) rfl ?_
    refine v_iload_n (pc' := 62) (i := 3) (j := 3) X dX7_openOrEnd_61 rfl rfl rfl ?_
    refine v_callVN (pc' := 65) X (st := []) (c_X6_openNest (M := M) hi h16 (e := e) h12 (he24 (Or.inr (Or.inl rfl))) (kind := 1) (alt := x)) k_X6_openNest n_ml_X7_293 w_im_X6_openNest w_se_X6_X6_openNest (rw_X6 hi h16) (by rw [hR]; exact ⟨Nat.le_of_ble_eq_true rfl, Nat.le_of_ble_eq_true rfl⟩) rfl rfl (Nat.le_of_ble_eq_true rfl) dX7_openOrEnd_62 rfl (⟨Nat.zero_le _, Nat.zero_le _⟩) ?_
    rintro _ _ ⟨rfl, rfl⟩
    refine v_goto (pc' := 92) X dX7_openOrEnd_65 (by decide) ?_
    refine v_return X R (Nat.zero_le _) (Nat.zero_le _) dX7_openOrEnd_92 ?_
    rw [gOE, if_neg (by decide), if_pos rfl]
    exact ⟨rfl, rfl⟩
  · refine v_tableIn (off := 60) (tgt := 68) X dX7_openOrEnd_8 (by decide) (by decide) (by decide) (by decide) ?_
    refine v_aload_n (pc' := 69) (i := 1) (j := 1) X dX7_openOrEnd_68 rfl rfl rfl ?_
    refine v_iconst (pc' := 70) (v := 2) X dX7_openOrEnd_69 (by decide) rfl ?_
    refine v_iload_n (pc' := 71) (i := 3) (j := 3) X dX7_openOrEnd_70 rfl rfl rfl ?_
    refine v_callVN (pc' := 74) X (st := []) (c_X6_openNest (M := M) hi h16 (e := e) h12 (he24 (Or.inr (Or.inr rfl))) (kind := 2) (alt := x)) k_X6_openNest n_ml_X7_293 w_im_X6_openNest w_se_X6_X6_openNest (rw_X6 hi h16) (by rw [hR]; exact ⟨Nat.le_of_ble_eq_true rfl, Nat.le_of_ble_eq_true rfl⟩) rfl rfl (Nat.le_of_ble_eq_true rfl) dX7_openOrEnd_71 rfl (⟨Nat.zero_le _, Nat.zero_le _⟩) ?_
    rintro _ _ ⟨rfl, rfl⟩
    refine v_goto (pc' := 92) X dX7_openOrEnd_74 (by decide) ?_
    refine v_return X R (Nat.zero_le _) (Nat.zero_le _) dX7_openOrEnd_92 ?_
    rw [gOE, if_neg (by decide), if_neg (by decide), if_pos rfl]
    exact ⟨rfl, rfl⟩
  · refine v_tableOut (tgt := 77) X dX7_openOrEnd_8 hsw (by decide) ?_
    have h678 : ¬ (m = 6 ∨ m = 7 ∨ m = 8) := fun z9 => by rcases z9 with z9 | z9 | z9 <;> (subst z9; revert hsw; decide)
    have he0 := he1 h678
    refine v_aload_n (pc' := 78) (i := 1) (j := 1) X dX7_openOrEnd_77 rfl rfl rfl ?_
    refine v_aload_n (pc' := 79) (i := 1) (j := 1) X dX7_openOrEnd_78 rfl rfl rfl ?_
    refine fk_X7_97 (pc' := 82) X hi h16 (v := nI e) h12 dX7_openOrEnd_79 rfl ?_
    refine v_iconst (pc' := 83) (v := 1) X dX7_openOrEnd_82 (by decide) rfl ?_
    refine v_isubV (pc' := 84) (v := nI (e - 1)) X (pk_sub (a := e) (b := 1) (by omega)) dX7_openOrEnd_83 rfl ?_
    refine v_callVN (pc' := 87) X (st := []) (c_X6_dropNestsTo (M := M) hi h16 (k := nI (e - 1))) k_X6_dropNestsTo n_ml_X7_300 w_im_X6_dropNestsTo w_se_X6_X6_dropNestsTo (rw_X6 hi h16) (by rw [hR]; exact ⟨Nat.le_of_ble_eq_true rfl, Nat.le_of_ble_eq_true rfl⟩) rfl rfl (Nat.le_of_ble_eq_true rfl) dX7_openOrEnd_84 rfl (⟨Nat.zero_le _, Nat.zero_le _⟩) ?_
    rintro _ _ ⟨rfl, rfl⟩
    refine v_aload_n (pc' := 88) (i := 1) (j := 1) X dX7_openOrEnd_87 rfl rfl rfl ?_
    refine v_iload_n (pc' := 89) (i := 3) (j := 3) X dX7_openOrEnd_88 rfl rfl rfl ?_
    refine fq_X7_91 (pc' := 92) X hi h16 dX7_openOrEnd_89 rfl ?_
    refine v_return X R (Nat.zero_le _) (Nat.zero_le _) dX7_openOrEnd_92 ?_
    rw [gOE, if_neg (fun z9 => h678 (Or.inl z9)), if_neg (fun z9 => h678 (Or.inr (Or.inl z9))), if_neg (fun z9 => h678 (Or.inr (Or.inr z9)))]
    exact ⟨rfl, rfl⟩
set_option maxHeartbeats 4000000 in
set_option maxRecDepth 100000 in
theorem c_X7_plain_0 {l : Launch} {D : va_G} {Y : Nat → ClassId} {zz : Nat → Nat} {n s cp cq : Nat} {ad : Nat → Nat} {M : vM} {i : Nat} (hi : i < n) (h16 : i < 16) {k9 : Nat} (hk9 : k9 < s) {x y z : Int32} (hx : M.1 (ib k9) 1 = x) (hy : M.1 (ib k9) 2 = y) (hz9 : M.1 (ib k9) 3 = z)  : Ct l D Y zz yX7_performPlainly cX7_performPlainly 8 none 1 20 [.ref (ad (0)), .ref (ad (tb i)), .ref (zz 0), .ref (ad (ib k9))] (wK Y n s cp cq ad M) 0 0 (fun r w => r = none ∧ w = wK Y n s cp cq ad (mI M (tb i) 8 3)) := by
  refine v_entry (by decide +kernel) (Nat.le_of_ble_eq_true rfl) ?_
  intro K X R hR hnm hl hD hY hz
  subst hl hD hY hz
  refine v_sub (lv' := [(0, .ref (ad (0))), (1, .ref (ad (tb i))), (2, .ref (kZ K 0)), (3, .ref (ad (ib k9)))]) [0, 1, 2, 3] rfl ?_
  refine v_aload_n (pc' := 1) (i := 1) (j := 1) X dX7_performPlainly_0 rfl rfl rfl ?_
  refine fk_X7_119 (pc' := 4) X hi h16 dX7_performPlainly_1 rfl ?_
  refine v_astore (pc' := 6) (lv' := [(4, .ref (ad (tb i + 8))), (0, .ref (ad (0))), (1, .ref (ad (tb i))), (2, .ref (kZ K 0)), (3, .ref (ad (ib k9)))]) X dX7_performPlainly_4 (by decide) rfl rfl ?_
  refine v_aload_n (pc' := 7) (i := 3) (j := 4) X dX7_performPlainly_6 rfl rfl rfl ?_
  refine fk_X7_191 (pc' := 10) X hk9 (v := x) hx dX7_performPlainly_7 rfl ?_
  refine v_istore (pc' := 12) (lv' := [(5, .int x), (4, .ref (ad (tb i + 8))), (0, .ref (ad (0))), (1, .ref (ad (tb i))), (2, .ref (kZ K 0)), (3, .ref (ad (ib k9)))]) X dX7_performPlainly_10 (by decide) rfl rfl ?_
  refine v_aload_n (pc' := 13) (i := 3) (j := 5) X dX7_performPlainly_12 rfl rfl rfl ?_
  refine fk_X7_194 (pc' := 16) X hk9 (v := y) hy dX7_performPlainly_13 rfl ?_
  refine v_istore (pc' := 18) (lv' := [(6, .int y), (5, .int x), (4, .ref (ad (tb i + 8))), (0, .ref (ad (0))), (1, .ref (ad (tb i))), (2, .ref (kZ K 0)), (3, .ref (ad (ib k9)))]) X dX7_performPlainly_16 (by decide) rfl rfl ?_
  refine v_aload_n (pc' := 19) (i := 3) (j := 6) X dX7_performPlainly_18 rfl rfl rfl ?_
  refine fk_X7_247 (pc' := 22) X hk9 (v := z) hz9 dX7_performPlainly_19 rfl ?_
  refine v_istore (pc' := 24) (lv' := [(7, .int z), (6, .int y), (5, .int x), (4, .ref (ad (tb i + 8))), (0, .ref (ad (0))), (1, .ref (ad (tb i))), (2, .ref (kZ K 0)), (3, .ref (ad (ib k9)))]) X dX7_performPlainly_22 (by decide) rfl rfl ?_
  refine v_gets (pc' := 27) X X.zM w_fl_X7_183 rfl dX7_performPlainly_24 rfl ?_
  refine v_aload_n (pc' := 28) (i := 2) (j := 6) X dX7_performPlainly_27 rfl rfl rfl ?_
  refine v_callU (pc' := 31) X (st := [.ref (kZ K 31)]) (c_ordinal (o := 0) (by decide)) k_Jx29ce0_ordinal_8abf5 w_ml_X7_188 w_sm_596 w_se_X4_Jx29ce0_ordinal_8abf5 w_im_Jx29ce0_ordinal_8abf5 rfl (by decide +kernel) (zE_recv X (by decide)) (by rw [hR]; exact ⟨Nat.le_of_ble_eq_true rfl, Nat.le_of_ble_eq_true rfl⟩) rfl rfl (Nat.le_of_ble_eq_true rfl) dX7_performPlainly_28 rfl (⟨Nat.zero_le _, Nat.zero_le _⟩) ?_
  rintro _ _ ⟨rfl, rfl⟩
  refine v_ti (pc' := 32) X X.zMt (0) rfl (by decide) (by decide) (v := .int 10) (rfl) dX7_performPlainly_31 rfl ?_
  refine v_tableIn (off := 100) (tgt := 132) X dX7_performPlainly_32 (by decide) (by decide) (by decide) (by decide) ?_
  refine v_aload_n (pc' := 133) (i := 1) (j := 5) X dX7_performPlainly_132 rfl rfl rfl ?_
  refine v_iconst (pc' := 134) (v := 3) X dX7_performPlainly_133 (by decide) rfl ?_
  refine fq_X7_81 (pc' := 137) X hi h16 dX7_performPlainly_134 rfl ?_
  refine v_goto (pc' := 500) X dX7_performPlainly_137 (by decide) ?_
  refine v_return X R (Nat.zero_le _) (Nat.zero_le _) dX7_performPlainly_500 ?_
  exact ⟨rfl, rfl⟩
set_option maxHeartbeats 4000000 in
set_option maxRecDepth 100000 in
theorem c_X7_plain_1 {l : Launch} {D : va_G} {Y : Nat → ClassId} {zz : Nat → Nat} {n s cp cq : Nat} {ad : Nat → Nat} {M : vM} {i : Nat} (hi : i < n) (h16 : i < 16) {k9 : Nat} (hk9 : k9 < s) {x y z : Int32} (hx : M.1 (ib k9) 1 = x) (hy : M.1 (ib k9) 2 = y) (hz9 : M.1 (ib k9) 3 = z) (hx1 : x = nI (nn x)) (hx2 : nn x < 16)  : Ct l D Y zz yX7_performPlainly cX7_performPlainly 8 none 1 20 [.ref (ad (0)), .ref (ad (tb i)), .ref (zz 1), .ref (ad (ib k9))] (wK Y n s cp cq ad M) 0 0 (fun r w => r = none ∧ w = wK Y n s cp cq ad (mL M (tb i + 8) (nn x) (y.toInt64))) := by
  refine v_entry (by decide +kernel) (Nat.le_of_ble_eq_true rfl) ?_
  intro K X R hR hnm hl hD hY hz
  subst hl hD hY hz
  refine v_sub (lv' := [(0, .ref (ad (0))), (1, .ref (ad (tb i))), (2, .ref (kZ K 1)), (3, .ref (ad (ib k9)))]) [0, 1, 2, 3] rfl ?_
  refine v_aload_n (pc' := 1) (i := 1) (j := 1) X dX7_performPlainly_0 rfl rfl rfl ?_
  refine fk_X7_119 (pc' := 4) X hi h16 dX7_performPlainly_1 rfl ?_
  refine v_astore (pc' := 6) (lv' := [(4, .ref (ad (tb i + 8))), (0, .ref (ad (0))), (1, .ref (ad (tb i))), (2, .ref (kZ K 1)), (3, .ref (ad (ib k9)))]) X dX7_performPlainly_4 (by decide) rfl rfl ?_
  refine v_aload_n (pc' := 7) (i := 3) (j := 4) X dX7_performPlainly_6 rfl rfl rfl ?_
  refine fk_X7_191 (pc' := 10) X hk9 (v := x) hx dX7_performPlainly_7 rfl ?_
  refine v_istore (pc' := 12) (lv' := [(5, .int x), (4, .ref (ad (tb i + 8))), (0, .ref (ad (0))), (1, .ref (ad (tb i))), (2, .ref (kZ K 1)), (3, .ref (ad (ib k9)))]) X dX7_performPlainly_10 (by decide) rfl rfl ?_
  refine v_aload_n (pc' := 13) (i := 3) (j := 5) X dX7_performPlainly_12 rfl rfl rfl ?_
  refine fk_X7_194 (pc' := 16) X hk9 (v := y) hy dX7_performPlainly_13 rfl ?_
  refine v_istore (pc' := 18) (lv' := [(6, .int y), (5, .int x), (4, .ref (ad (tb i + 8))), (0, .ref (ad (0))), (1, .ref (ad (tb i))), (2, .ref (kZ K 1)), (3, .ref (ad (ib k9)))]) X dX7_performPlainly_16 (by decide) rfl rfl ?_
  refine v_aload_n (pc' := 19) (i := 3) (j := 6) X dX7_performPlainly_18 rfl rfl rfl ?_
  refine fk_X7_247 (pc' := 22) X hk9 (v := z) hz9 dX7_performPlainly_19 rfl ?_
  refine v_istore (pc' := 24) (lv' := [(7, .int z), (6, .int y), (5, .int x), (4, .ref (ad (tb i + 8))), (0, .ref (ad (0))), (1, .ref (ad (tb i))), (2, .ref (kZ K 1)), (3, .ref (ad (ib k9)))]) X dX7_performPlainly_22 (by decide) rfl rfl ?_
  refine v_gets (pc' := 27) X X.zM w_fl_X7_183 rfl dX7_performPlainly_24 rfl ?_
  refine v_aload_n (pc' := 28) (i := 2) (j := 6) X dX7_performPlainly_27 rfl rfl rfl ?_
  refine v_callU (pc' := 31) X (st := [.ref (kZ K 31)]) (c_ordinal (o := 1) (by decide)) k_Jx29ce0_ordinal_8abf5 w_ml_X7_188 w_sm_596 w_se_X4_Jx29ce0_ordinal_8abf5 w_im_Jx29ce0_ordinal_8abf5 rfl (by decide +kernel) (zE_recv X (by decide)) (by rw [hR]; exact ⟨Nat.le_of_ble_eq_true rfl, Nat.le_of_ble_eq_true rfl⟩) rfl rfl (Nat.le_of_ble_eq_true rfl) dX7_performPlainly_28 rfl (⟨Nat.zero_le _, Nat.zero_le _⟩) ?_
  rintro _ _ ⟨rfl, rfl⟩
  refine v_ti (pc' := 32) X X.zMt (1) rfl (by decide) (by decide) (v := .int 11) (rfl) dX7_performPlainly_31 rfl ?_
  refine v_tableIn (off := 108) (tgt := 140) X dX7_performPlainly_32 (by decide) (by decide) (by decide) (by decide) ?_
  refine v_aload (pc' := 142) (j := 3) X dX7_performPlainly_140 rfl rfl ?_
  refine v_iload (pc' := 144) (j := 2) X dX7_performPlainly_142 rfl rfl ?_
  refine v_iload (pc' := 146) (j := 1) X dX7_performPlainly_144 rfl rfl ?_
  refine v_i2l (pc' := 147) X dX7_performPlainly_146 rfl rfl ?_
  refine aq_G8 (pc' := 148) X hi h16 (nn x) hx1 (by omega) dX7_performPlainly_147 rfl ?_
  refine v_goto (pc' := 500) X dX7_performPlainly_148 (by decide) ?_
  refine v_return X R (Nat.zero_le _) (Nat.zero_le _) dX7_performPlainly_500 ?_
  exact ⟨rfl, rfl⟩
set_option maxHeartbeats 4000000 in
set_option maxRecDepth 100000 in
theorem c_X7_plain_2 {l : Launch} {D : va_G} {Y : Nat → ClassId} {zz : Nat → Nat} {n s cp cq : Nat} {ad : Nat → Nat} {M : vM} {i : Nat} (hi : i < n) (h16 : i < 16) {k9 : Nat} (hk9 : k9 < s) {x y z : Int32} (hx : M.1 (ib k9) 1 = x) (hy : M.1 (ib k9) 2 = y) (hz9 : M.1 (ib k9) 3 = z) (hx1 : x = nI (nn x)) (hx2 : nn x < 16) (hy1 : y = nI (nn y)) (hy2 : nn y < 16)  : Ct l D Y zz yX7_performPlainly cX7_performPlainly 8 none 1 20 [.ref (ad (0)), .ref (ad (tb i)), .ref (zz 2), .ref (ad (ib k9))] (wK Y n s cp cq ad M) 0 0 (fun r w => r = none ∧ w = wK Y n s cp cq ad (mL M (tb i + 8) (nn x) (M.2 (tb i + 8) (nn y)))) := by
  refine v_entry (by decide +kernel) (Nat.le_of_ble_eq_true rfl) ?_
  intro K X R hR hnm hl hD hY hz
  subst hl hD hY hz
  refine v_sub (lv' := [(0, .ref (ad (0))), (1, .ref (ad (tb i))), (2, .ref (kZ K 2)), (3, .ref (ad (ib k9)))]) [0, 1, 2, 3] rfl ?_
  refine v_aload_n (pc' := 1) (i := 1) (j := 1) X dX7_performPlainly_0 rfl rfl rfl ?_
  refine fk_X7_119 (pc' := 4) X hi h16 dX7_performPlainly_1 rfl ?_
  refine v_astore (pc' := 6) (lv' := [(4, .ref (ad (tb i + 8))), (0, .ref (ad (0))), (1, .ref (ad (tb i))), (2, .ref (kZ K 2)), (3, .ref (ad (ib k9)))]) X dX7_performPlainly_4 (by decide) rfl rfl ?_
  refine v_aload_n (pc' := 7) (i := 3) (j := 4) X dX7_performPlainly_6 rfl rfl rfl ?_
  refine fk_X7_191 (pc' := 10) X hk9 (v := x) hx dX7_performPlainly_7 rfl ?_
  refine v_istore (pc' := 12) (lv' := [(5, .int x), (4, .ref (ad (tb i + 8))), (0, .ref (ad (0))), (1, .ref (ad (tb i))), (2, .ref (kZ K 2)), (3, .ref (ad (ib k9)))]) X dX7_performPlainly_10 (by decide) rfl rfl ?_
  refine v_aload_n (pc' := 13) (i := 3) (j := 5) X dX7_performPlainly_12 rfl rfl rfl ?_
  refine fk_X7_194 (pc' := 16) X hk9 (v := y) hy dX7_performPlainly_13 rfl ?_
  refine v_istore (pc' := 18) (lv' := [(6, .int y), (5, .int x), (4, .ref (ad (tb i + 8))), (0, .ref (ad (0))), (1, .ref (ad (tb i))), (2, .ref (kZ K 2)), (3, .ref (ad (ib k9)))]) X dX7_performPlainly_16 (by decide) rfl rfl ?_
  refine v_aload_n (pc' := 19) (i := 3) (j := 6) X dX7_performPlainly_18 rfl rfl rfl ?_
  refine fk_X7_247 (pc' := 22) X hk9 (v := z) hz9 dX7_performPlainly_19 rfl ?_
  refine v_istore (pc' := 24) (lv' := [(7, .int z), (6, .int y), (5, .int x), (4, .ref (ad (tb i + 8))), (0, .ref (ad (0))), (1, .ref (ad (tb i))), (2, .ref (kZ K 2)), (3, .ref (ad (ib k9)))]) X dX7_performPlainly_22 (by decide) rfl rfl ?_
  refine v_gets (pc' := 27) X X.zM w_fl_X7_183 rfl dX7_performPlainly_24 rfl ?_
  refine v_aload_n (pc' := 28) (i := 2) (j := 6) X dX7_performPlainly_27 rfl rfl rfl ?_
  refine v_callU (pc' := 31) X (st := [.ref (kZ K 31)]) (c_ordinal (o := 2) (by decide)) k_Jx29ce0_ordinal_8abf5 w_ml_X7_188 w_sm_596 w_se_X4_Jx29ce0_ordinal_8abf5 w_im_Jx29ce0_ordinal_8abf5 rfl (by decide +kernel) (zE_recv X (by decide)) (by rw [hR]; exact ⟨Nat.le_of_ble_eq_true rfl, Nat.le_of_ble_eq_true rfl⟩) rfl rfl (Nat.le_of_ble_eq_true rfl) dX7_performPlainly_28 rfl (⟨Nat.zero_le _, Nat.zero_le _⟩) ?_
  rintro _ _ ⟨rfl, rfl⟩
  refine v_ti (pc' := 32) X X.zMt (2) rfl (by decide) (by decide) (v := .int 12) (rfl) dX7_performPlainly_31 rfl ?_
  refine v_tableIn (off := 119) (tgt := 151) X dX7_performPlainly_32 (by decide) (by decide) (by decide) (by decide) ?_
  refine v_aload (pc' := 153) (j := 3) X dX7_performPlainly_151 rfl rfl ?_
  refine v_iload (pc' := 155) (j := 2) X dX7_performPlainly_153 rfl rfl ?_
  refine v_aload (pc' := 157) (j := 3) X dX7_performPlainly_155 rfl rfl ?_
  refine v_iload (pc' := 159) (j := 1) X dX7_performPlainly_157 rfl rfl ?_
  refine ak_G8 (pc' := 160) X hi h16 (v := M.2 (tb i + 8) (nn y)) (nn y) hy1 (by omega) rfl dX7_performPlainly_159 rfl ?_
  refine aq_G8 (pc' := 161) X hi h16 (nn x) hx1 (by omega) dX7_performPlainly_160 rfl ?_
  refine v_goto (pc' := 500) X dX7_performPlainly_161 (by decide) ?_
  refine v_return X R (Nat.zero_le _) (Nat.zero_le _) dX7_performPlainly_500 ?_
  exact ⟨rfl, rfl⟩
set_option maxHeartbeats 4000000 in
set_option maxRecDepth 100000 in
theorem c_X7_plain_3 {l : Launch} {D : va_G} {Y : Nat → ClassId} {zz : Nat → Nat} {n s cp cq : Nat} {ad : Nat → Nat} {M : vM} {i : Nat} (hi : i < n) (h16 : i < 16) {k9 : Nat} (hk9 : k9 < s) {x y z : Int32} (hx : M.1 (ib k9) 1 = x) (hy : M.1 (ib k9) 2 = y) (hz9 : M.1 (ib k9) 3 = z) (hx1 : x = nI (nn x)) (hx2 : nn x < 16) (hy1 : y = nI (nn y)) (hy2 : nn y < 16) (hz1 : z = nI (nn z)) (hz2 : nn z < 16)  : Ct l D Y zz yX7_performPlainly cX7_performPlainly 8 none 1 20 [.ref (ad (0)), .ref (ad (tb i)), .ref (zz 3), .ref (ad (ib k9))] (wK Y n s cp cq ad M) 0 0 (fun r w => r = none ∧ w = wK Y n s cp cq ad (mL M (tb i + 8) (nn x) ((M.2 (tb i + 8) (nn y) + M.2 (tb i + 8) (nn z)).toInt32.toInt64))) := by
  refine v_entry (by decide +kernel) (Nat.le_of_ble_eq_true rfl) ?_
  intro K X R hR hnm hl hD hY hz
  subst hl hD hY hz
  refine v_sub (lv' := [(0, .ref (ad (0))), (1, .ref (ad (tb i))), (2, .ref (kZ K 3)), (3, .ref (ad (ib k9)))]) [0, 1, 2, 3] rfl ?_
  refine v_aload_n (pc' := 1) (i := 1) (j := 1) X dX7_performPlainly_0 rfl rfl rfl ?_
  refine fk_X7_119 (pc' := 4) X hi h16 dX7_performPlainly_1 rfl ?_
  refine v_astore (pc' := 6) (lv' := [(4, .ref (ad (tb i + 8))), (0, .ref (ad (0))), (1, .ref (ad (tb i))), (2, .ref (kZ K 3)), (3, .ref (ad (ib k9)))]) X dX7_performPlainly_4 (by decide) rfl rfl ?_
  refine v_aload_n (pc' := 7) (i := 3) (j := 4) X dX7_performPlainly_6 rfl rfl rfl ?_
  refine fk_X7_191 (pc' := 10) X hk9 (v := x) hx dX7_performPlainly_7 rfl ?_
  refine v_istore (pc' := 12) (lv' := [(5, .int x), (4, .ref (ad (tb i + 8))), (0, .ref (ad (0))), (1, .ref (ad (tb i))), (2, .ref (kZ K 3)), (3, .ref (ad (ib k9)))]) X dX7_performPlainly_10 (by decide) rfl rfl ?_
  refine v_aload_n (pc' := 13) (i := 3) (j := 5) X dX7_performPlainly_12 rfl rfl rfl ?_
  refine fk_X7_194 (pc' := 16) X hk9 (v := y) hy dX7_performPlainly_13 rfl ?_
  refine v_istore (pc' := 18) (lv' := [(6, .int y), (5, .int x), (4, .ref (ad (tb i + 8))), (0, .ref (ad (0))), (1, .ref (ad (tb i))), (2, .ref (kZ K 3)), (3, .ref (ad (ib k9)))]) X dX7_performPlainly_16 (by decide) rfl rfl ?_
  refine v_aload_n (pc' := 19) (i := 3) (j := 6) X dX7_performPlainly_18 rfl rfl rfl ?_
  refine fk_X7_247 (pc' := 22) X hk9 (v := z) hz9 dX7_performPlainly_19 rfl ?_
  refine v_istore (pc' := 24) (lv' := [(7, .int z), (6, .int y), (5, .int x), (4, .ref (ad (tb i + 8))), (0, .ref (ad (0))), (1, .ref (ad (tb i))), (2, .ref (kZ K 3)), (3, .ref (ad (ib k9)))]) X dX7_performPlainly_22 (by decide) rfl rfl ?_
  refine v_gets (pc' := 27) X X.zM w_fl_X7_183 rfl dX7_performPlainly_24 rfl ?_
  refine v_aload_n (pc' := 28) (i := 2) (j := 6) X dX7_performPlainly_27 rfl rfl rfl ?_
  refine v_callU (pc' := 31) X (st := [.ref (kZ K 31)]) (c_ordinal (o := 3) (by decide)) k_Jx29ce0_ordinal_8abf5 w_ml_X7_188 w_sm_596 w_se_X4_Jx29ce0_ordinal_8abf5 w_im_Jx29ce0_ordinal_8abf5 rfl (by decide +kernel) (zE_recv X (by decide)) (by rw [hR]; exact ⟨Nat.le_of_ble_eq_true rfl, Nat.le_of_ble_eq_true rfl⟩) rfl rfl (Nat.le_of_ble_eq_true rfl) dX7_performPlainly_28 rfl (⟨Nat.zero_le _, Nat.zero_le _⟩) ?_
  rintro _ _ ⟨rfl, rfl⟩
  refine v_ti (pc' := 32) X X.zMt (3) rfl (by decide) (by decide) (v := .int 13) (rfl) dX7_performPlainly_31 rfl ?_
  refine v_tableIn (off := 132) (tgt := 164) X dX7_performPlainly_32 (by decide) (by decide) (by decide) (by decide) ?_
  refine v_aload (pc' := 166) (j := 3) X dX7_performPlainly_164 rfl rfl ?_
  refine v_iload (pc' := 168) (j := 2) X dX7_performPlainly_166 rfl rfl ?_
  refine v_aload (pc' := 170) (j := 3) X dX7_performPlainly_168 rfl rfl ?_
  refine v_iload (pc' := 172) (j := 1) X dX7_performPlainly_170 rfl rfl ?_
  refine ak_G8 (pc' := 173) X hi h16 (v := M.2 (tb i + 8) (nn y)) (nn y) hy1 (by omega) rfl dX7_performPlainly_172 rfl ?_
  refine v_aload (pc' := 175) (j := 3) X dX7_performPlainly_173 rfl rfl ?_
  refine v_iload (pc' := 177) (j := 0) X dX7_performPlainly_175 rfl rfl ?_
  refine ak_G8 (pc' := 178) X hi h16 (v := M.2 (tb i + 8) (nn z)) (nn z) hz1 (by omega) rfl dX7_performPlainly_177 rfl ?_
  refine v_ladd (pc' := 179) X dX7_performPlainly_178 rfl ?_
  refine v_l2i (pc' := 180) X dX7_performPlainly_179 rfl rfl ?_
  refine v_i2l (pc' := 181) X dX7_performPlainly_180 rfl rfl ?_
  refine aq_G8 (pc' := 182) X hi h16 (nn x) hx1 (by omega) dX7_performPlainly_181 rfl ?_
  refine v_goto (pc' := 500) X dX7_performPlainly_182 (by decide) ?_
  refine v_return X R (Nat.zero_le _) (Nat.zero_le _) dX7_performPlainly_500 ?_
  exact ⟨rfl, rfl⟩
set_option maxHeartbeats 4000000 in
set_option maxRecDepth 100000 in
theorem c_X7_plain_4 {l : Launch} {D : va_G} {Y : Nat → ClassId} {zz : Nat → Nat} {n s cp cq : Nat} {ad : Nat → Nat} {M : vM} {i : Nat} (hi : i < n) (h16 : i < 16) {k9 : Nat} (hk9 : k9 < s) {x y z : Int32} (hx : M.1 (ib k9) 1 = x) (hy : M.1 (ib k9) 2 = y) (hz9 : M.1 (ib k9) 3 = z) (hx1 : x = nI (nn x)) (hx2 : nn x < 16) (hy1 : y = nI (nn y)) (hy2 : nn y < 16) (hz1 : z = nI (nn z)) (hz2 : nn z < 16)  : Ct l D Y zz yX7_performPlainly cX7_performPlainly 8 none 1 20 [.ref (ad (0)), .ref (ad (tb i)), .ref (zz 4), .ref (ad (ib k9))] (wK Y n s cp cq ad M) 0 0 (fun r w => r = none ∧ w = wK Y n s cp cq ad (mL M (tb i + 8) (nn x) ((M.2 (tb i + 8) (nn y) - M.2 (tb i + 8) (nn z)).toInt32.toInt64))) := by
  refine v_entry (by decide +kernel) (Nat.le_of_ble_eq_true rfl) ?_
  intro K X R hR hnm hl hD hY hz
  subst hl hD hY hz
  refine v_sub (lv' := [(0, .ref (ad (0))), (1, .ref (ad (tb i))), (2, .ref (kZ K 4)), (3, .ref (ad (ib k9)))]) [0, 1, 2, 3] rfl ?_
  refine v_aload_n (pc' := 1) (i := 1) (j := 1) X dX7_performPlainly_0 rfl rfl rfl ?_
  refine fk_X7_119 (pc' := 4) X hi h16 dX7_performPlainly_1 rfl ?_
  refine v_astore (pc' := 6) (lv' := [(4, .ref (ad (tb i + 8))), (0, .ref (ad (0))), (1, .ref (ad (tb i))), (2, .ref (kZ K 4)), (3, .ref (ad (ib k9)))]) X dX7_performPlainly_4 (by decide) rfl rfl ?_
  refine v_aload_n (pc' := 7) (i := 3) (j := 4) X dX7_performPlainly_6 rfl rfl rfl ?_
  refine fk_X7_191 (pc' := 10) X hk9 (v := x) hx dX7_performPlainly_7 rfl ?_
  refine v_istore (pc' := 12) (lv' := [(5, .int x), (4, .ref (ad (tb i + 8))), (0, .ref (ad (0))), (1, .ref (ad (tb i))), (2, .ref (kZ K 4)), (3, .ref (ad (ib k9)))]) X dX7_performPlainly_10 (by decide) rfl rfl ?_
  refine v_aload_n (pc' := 13) (i := 3) (j := 5) X dX7_performPlainly_12 rfl rfl rfl ?_
  refine fk_X7_194 (pc' := 16) X hk9 (v := y) hy dX7_performPlainly_13 rfl ?_
  refine v_istore (pc' := 18) (lv' := [(6, .int y), (5, .int x), (4, .ref (ad (tb i + 8))), (0, .ref (ad (0))), (1, .ref (ad (tb i))), (2, .ref (kZ K 4)), (3, .ref (ad (ib k9)))]) X dX7_performPlainly_16 (by decide) rfl rfl ?_
  refine v_aload_n (pc' := 19) (i := 3) (j := 6) X dX7_performPlainly_18 rfl rfl rfl ?_
  refine fk_X7_247 (pc' := 22) X hk9 (v := z) hz9 dX7_performPlainly_19 rfl ?_
  refine v_istore (pc' := 24) (lv' := [(7, .int z), (6, .int y), (5, .int x), (4, .ref (ad (tb i + 8))), (0, .ref (ad (0))), (1, .ref (ad (tb i))), (2, .ref (kZ K 4)), (3, .ref (ad (ib k9)))]) X dX7_performPlainly_22 (by decide) rfl rfl ?_
  refine v_gets (pc' := 27) X X.zM w_fl_X7_183 rfl dX7_performPlainly_24 rfl ?_
  refine v_aload_n (pc' := 28) (i := 2) (j := 6) X dX7_performPlainly_27 rfl rfl rfl ?_
  refine v_callU (pc' := 31) X (st := [.ref (kZ K 31)]) (c_ordinal (o := 4) (by decide)) k_Jx29ce0_ordinal_8abf5 w_ml_X7_188 w_sm_596 w_se_X4_Jx29ce0_ordinal_8abf5 w_im_Jx29ce0_ordinal_8abf5 rfl (by decide +kernel) (zE_recv X (by decide)) (by rw [hR]; exact ⟨Nat.le_of_ble_eq_true rfl, Nat.le_of_ble_eq_true rfl⟩) rfl rfl (Nat.le_of_ble_eq_true rfl) dX7_performPlainly_28 rfl (⟨Nat.zero_le _, Nat.zero_le _⟩) ?_
  rintro _ _ ⟨rfl, rfl⟩
  refine v_ti (pc' := 32) X X.zMt (4) rfl (by decide) (by decide) (v := .int 14) (rfl) dX7_performPlainly_31 rfl ?_
  refine v_tableIn (off := 153) (tgt := 185) X dX7_performPlainly_32 (by decide) (by decide) (by decide) (by decide) ?_
  refine v_aload (pc' := 187) (j := 3) X dX7_performPlainly_185 rfl rfl ?_
  refine v_iload (pc' := 189) (j := 2) X dX7_performPlainly_187 rfl rfl ?_
  refine v_aload (pc' := 191) (j := 3) X dX7_performPlainly_189 rfl rfl ?_
  refine v_iload (pc' := 193) (j := 1) X dX7_performPlainly_191 rfl rfl ?_
  refine ak_G8 (pc' := 194) X hi h16 (v := M.2 (tb i + 8) (nn y)) (nn y) hy1 (by omega) rfl dX7_performPlainly_193 rfl ?_
  refine v_aload (pc' := 196) (j := 3) X dX7_performPlainly_194 rfl rfl ?_
  refine v_iload (pc' := 198) (j := 0) X dX7_performPlainly_196 rfl rfl ?_
  refine ak_G8 (pc' := 199) X hi h16 (v := M.2 (tb i + 8) (nn z)) (nn z) hz1 (by omega) rfl dX7_performPlainly_198 rfl ?_
  refine v_lsub (pc' := 200) X dX7_performPlainly_199 rfl ?_
  refine v_l2i (pc' := 201) X dX7_performPlainly_200 rfl rfl ?_
  refine v_i2l (pc' := 202) X dX7_performPlainly_201 rfl rfl ?_
  refine aq_G8 (pc' := 203) X hi h16 (nn x) hx1 (by omega) dX7_performPlainly_202 rfl ?_
  refine v_goto (pc' := 500) X dX7_performPlainly_203 (by decide) ?_
  refine v_return X R (Nat.zero_le _) (Nat.zero_le _) dX7_performPlainly_500 ?_
  exact ⟨rfl, rfl⟩
set_option maxHeartbeats 4000000 in
set_option maxRecDepth 100000 in
theorem c_X7_plain_5 {l : Launch} {D : va_G} {Y : Nat → ClassId} {zz : Nat → Nat} {n s cp cq : Nat} {ad : Nat → Nat} {M : vM} {i : Nat} (hi : i < n) (h16 : i < 16) {k9 : Nat} (hk9 : k9 < s) {x y z : Int32} (hx : M.1 (ib k9) 1 = x) (hy : M.1 (ib k9) 2 = y) (hz9 : M.1 (ib k9) 3 = z) (hx1 : x = nI (nn x)) (hx2 : nn x < 16) (hy1 : y = nI (nn y)) (hy2 : nn y < 16) (hz1 : z = nI (nn z)) (hz2 : nn z < 16)  : Ct l D Y zz yX7_performPlainly cX7_performPlainly 8 none 1 20 [.ref (ad (0)), .ref (ad (tb i)), .ref (zz 5), .ref (ad (ib k9))] (wK Y n s cp cq ad M) 0 0 (fun r w => r = none ∧ w = wK Y n s cp cq ad (mL M (tb i + 8) (nn x) ((M.2 (tb i + 8) (nn y) * M.2 (tb i + 8) (nn z)).toInt32.toInt64))) := by
  refine v_entry (by decide +kernel) (Nat.le_of_ble_eq_true rfl) ?_
  intro K X R hR hnm hl hD hY hz
  subst hl hD hY hz
  refine v_sub (lv' := [(0, .ref (ad (0))), (1, .ref (ad (tb i))), (2, .ref (kZ K 5)), (3, .ref (ad (ib k9)))]) [0, 1, 2, 3] rfl ?_
  refine v_aload_n (pc' := 1) (i := 1) (j := 1) X dX7_performPlainly_0 rfl rfl rfl ?_
  refine fk_X7_119 (pc' := 4) X hi h16 dX7_performPlainly_1 rfl ?_
  refine v_astore (pc' := 6) (lv' := [(4, .ref (ad (tb i + 8))), (0, .ref (ad (0))), (1, .ref (ad (tb i))), (2, .ref (kZ K 5)), (3, .ref (ad (ib k9)))]) X dX7_performPlainly_4 (by decide) rfl rfl ?_
  refine v_aload_n (pc' := 7) (i := 3) (j := 4) X dX7_performPlainly_6 rfl rfl rfl ?_
  refine fk_X7_191 (pc' := 10) X hk9 (v := x) hx dX7_performPlainly_7 rfl ?_
  refine v_istore (pc' := 12) (lv' := [(5, .int x), (4, .ref (ad (tb i + 8))), (0, .ref (ad (0))), (1, .ref (ad (tb i))), (2, .ref (kZ K 5)), (3, .ref (ad (ib k9)))]) X dX7_performPlainly_10 (by decide) rfl rfl ?_
  refine v_aload_n (pc' := 13) (i := 3) (j := 5) X dX7_performPlainly_12 rfl rfl rfl ?_
  refine fk_X7_194 (pc' := 16) X hk9 (v := y) hy dX7_performPlainly_13 rfl ?_
  refine v_istore (pc' := 18) (lv' := [(6, .int y), (5, .int x), (4, .ref (ad (tb i + 8))), (0, .ref (ad (0))), (1, .ref (ad (tb i))), (2, .ref (kZ K 5)), (3, .ref (ad (ib k9)))]) X dX7_performPlainly_16 (by decide) rfl rfl ?_
  refine v_aload_n (pc' := 19) (i := 3) (j := 6) X dX7_performPlainly_18 rfl rfl rfl ?_
  refine fk_X7_247 (pc' := 22) X hk9 (v := z) hz9 dX7_performPlainly_19 rfl ?_
  refine v_istore (pc' := 24) (lv' := [(7, .int z), (6, .int y), (5, .int x), (4, .ref (ad (tb i + 8))), (0, .ref (ad (0))), (1, .ref (ad (tb i))), (2, .ref (kZ K 5)), (3, .ref (ad (ib k9)))]) X dX7_performPlainly_22 (by decide) rfl rfl ?_
  refine v_gets (pc' := 27) X X.zM w_fl_X7_183 rfl dX7_performPlainly_24 rfl ?_
  refine v_aload_n (pc' := 28) (i := 2) (j := 6) X dX7_performPlainly_27 rfl rfl rfl ?_
  refine v_callU (pc' := 31) X (st := [.ref (kZ K 31)]) (c_ordinal (o := 5) (by decide)) k_Jx29ce0_ordinal_8abf5 w_ml_X7_188 w_sm_596 w_se_X4_Jx29ce0_ordinal_8abf5 w_im_Jx29ce0_ordinal_8abf5 rfl (by decide +kernel) (zE_recv X (by decide)) (by rw [hR]; exact ⟨Nat.le_of_ble_eq_true rfl, Nat.le_of_ble_eq_true rfl⟩) rfl rfl (Nat.le_of_ble_eq_true rfl) dX7_performPlainly_28 rfl (⟨Nat.zero_le _, Nat.zero_le _⟩) ?_
  rintro _ _ ⟨rfl, rfl⟩
  refine v_ti (pc' := 32) X X.zMt (5) rfl (by decide) (by decide) (v := .int 15) (rfl) dX7_performPlainly_31 rfl ?_
  refine v_tableIn (off := 174) (tgt := 206) X dX7_performPlainly_32 (by decide) (by decide) (by decide) (by decide) ?_
  refine v_aload (pc' := 208) (j := 3) X dX7_performPlainly_206 rfl rfl ?_
  refine v_iload (pc' := 210) (j := 2) X dX7_performPlainly_208 rfl rfl ?_
  refine v_aload (pc' := 212) (j := 3) X dX7_performPlainly_210 rfl rfl ?_
  refine v_iload (pc' := 214) (j := 1) X dX7_performPlainly_212 rfl rfl ?_
  refine ak_G8 (pc' := 215) X hi h16 (v := M.2 (tb i + 8) (nn y)) (nn y) hy1 (by omega) rfl dX7_performPlainly_214 rfl ?_
  refine v_aload (pc' := 217) (j := 3) X dX7_performPlainly_215 rfl rfl ?_
  refine v_iload (pc' := 219) (j := 0) X dX7_performPlainly_217 rfl rfl ?_
  refine ak_G8 (pc' := 220) X hi h16 (v := M.2 (tb i + 8) (nn z)) (nn z) hz1 (by omega) rfl dX7_performPlainly_219 rfl ?_
  refine v_lmul (pc' := 221) X dX7_performPlainly_220 rfl ?_
  refine v_l2i (pc' := 222) X dX7_performPlainly_221 rfl rfl ?_
  refine v_i2l (pc' := 223) X dX7_performPlainly_222 rfl rfl ?_
  refine aq_G8 (pc' := 224) X hi h16 (nn x) hx1 (by omega) dX7_performPlainly_223 rfl ?_
  refine v_goto (pc' := 500) X dX7_performPlainly_224 (by decide) ?_
  refine v_return X R (Nat.zero_le _) (Nat.zero_le _) dX7_performPlainly_500 ?_
  exact ⟨rfl, rfl⟩
set_option maxHeartbeats 4000000 in
set_option maxRecDepth 100000 in
theorem c_X7_plain_6 {l : Launch} {D : va_G} {Y : Nat → ClassId} {zz : Nat → Nat} {n s cp cq : Nat} {ad : Nat → Nat} {M : vM} {i : Nat} (hi : i < n) (h16 : i < 16) {k9 : Nat} (hk9 : k9 < s) {x y z : Int32} (hx : M.1 (ib k9) 1 = x) (hy : M.1 (ib k9) 2 = y) (hz9 : M.1 (ib k9) 3 = z) (hx1 : x = nI (nn x)) (hx2 : nn x < 16) (hy1 : y = nI (nn y)) (hy2 : nn y < 16) (hz1 : z = nI (nn z)) (hz2 : nn z < 16)  : Ct l D Y zz yX7_performPlainly cX7_performPlainly 8 none 1 20 [.ref (ad (0)), .ref (ad (tb i)), .ref (zz 6), .ref (ad (ib k9))] (wK Y n s cp cq ad M) 0 0 (fun r w => r = none ∧ w = wK Y n s cp cq ad (mL M (tb i + 8) (nn x) (if M.2 (tb i + 8) (nn y) < M.2 (tb i + 8) (nn z) then 1 else 0))) := by
  refine v_entry (by decide +kernel) (Nat.le_of_ble_eq_true rfl) ?_
  intro K X R hR hnm hl hD hY hz
  subst hl hD hY hz
  refine v_sub (lv' := [(0, .ref (ad (0))), (1, .ref (ad (tb i))), (2, .ref (kZ K 6)), (3, .ref (ad (ib k9)))]) [0, 1, 2, 3] rfl ?_
  refine v_aload_n (pc' := 1) (i := 1) (j := 1) X dX7_performPlainly_0 rfl rfl rfl ?_
  refine fk_X7_119 (pc' := 4) X hi h16 dX7_performPlainly_1 rfl ?_
  refine v_astore (pc' := 6) (lv' := [(4, .ref (ad (tb i + 8))), (0, .ref (ad (0))), (1, .ref (ad (tb i))), (2, .ref (kZ K 6)), (3, .ref (ad (ib k9)))]) X dX7_performPlainly_4 (by decide) rfl rfl ?_
  refine v_aload_n (pc' := 7) (i := 3) (j := 4) X dX7_performPlainly_6 rfl rfl rfl ?_
  refine fk_X7_191 (pc' := 10) X hk9 (v := x) hx dX7_performPlainly_7 rfl ?_
  refine v_istore (pc' := 12) (lv' := [(5, .int x), (4, .ref (ad (tb i + 8))), (0, .ref (ad (0))), (1, .ref (ad (tb i))), (2, .ref (kZ K 6)), (3, .ref (ad (ib k9)))]) X dX7_performPlainly_10 (by decide) rfl rfl ?_
  refine v_aload_n (pc' := 13) (i := 3) (j := 5) X dX7_performPlainly_12 rfl rfl rfl ?_
  refine fk_X7_194 (pc' := 16) X hk9 (v := y) hy dX7_performPlainly_13 rfl ?_
  refine v_istore (pc' := 18) (lv' := [(6, .int y), (5, .int x), (4, .ref (ad (tb i + 8))), (0, .ref (ad (0))), (1, .ref (ad (tb i))), (2, .ref (kZ K 6)), (3, .ref (ad (ib k9)))]) X dX7_performPlainly_16 (by decide) rfl rfl ?_
  refine v_aload_n (pc' := 19) (i := 3) (j := 6) X dX7_performPlainly_18 rfl rfl rfl ?_
  refine fk_X7_247 (pc' := 22) X hk9 (v := z) hz9 dX7_performPlainly_19 rfl ?_
  refine v_istore (pc' := 24) (lv' := [(7, .int z), (6, .int y), (5, .int x), (4, .ref (ad (tb i + 8))), (0, .ref (ad (0))), (1, .ref (ad (tb i))), (2, .ref (kZ K 6)), (3, .ref (ad (ib k9)))]) X dX7_performPlainly_22 (by decide) rfl rfl ?_
  refine v_gets (pc' := 27) X X.zM w_fl_X7_183 rfl dX7_performPlainly_24 rfl ?_
  refine v_aload_n (pc' := 28) (i := 2) (j := 6) X dX7_performPlainly_27 rfl rfl rfl ?_
  refine v_callU (pc' := 31) X (st := [.ref (kZ K 31)]) (c_ordinal (o := 6) (by decide)) k_Jx29ce0_ordinal_8abf5 w_ml_X7_188 w_sm_596 w_se_X4_Jx29ce0_ordinal_8abf5 w_im_Jx29ce0_ordinal_8abf5 rfl (by decide +kernel) (zE_recv X (by decide)) (by rw [hR]; exact ⟨Nat.le_of_ble_eq_true rfl, Nat.le_of_ble_eq_true rfl⟩) rfl rfl (Nat.le_of_ble_eq_true rfl) dX7_performPlainly_28 rfl (⟨Nat.zero_le _, Nat.zero_le _⟩) ?_
  rintro _ _ ⟨rfl, rfl⟩
  refine v_ti (pc' := 32) X X.zMt (6) rfl (by decide) (by decide) (v := .int 16) (rfl) dX7_performPlainly_31 rfl ?_
  refine v_tableIn (off := 195) (tgt := 227) X dX7_performPlainly_32 (by decide) (by decide) (by decide) (by decide) ?_
  refine v_aload (pc' := 229) (j := 3) X dX7_performPlainly_227 rfl rfl ?_
  refine v_iload (pc' := 231) (j := 2) X dX7_performPlainly_229 rfl rfl ?_
  refine v_aload (pc' := 233) (j := 3) X dX7_performPlainly_231 rfl rfl ?_
  refine v_iload (pc' := 235) (j := 1) X dX7_performPlainly_233 rfl rfl ?_
  refine ak_G8 (pc' := 236) X hi h16 (v := M.2 (tb i + 8) (nn y)) (nn y) hy1 (by omega) rfl dX7_performPlainly_235 rfl ?_
  refine v_aload (pc' := 238) (j := 3) X dX7_performPlainly_236 rfl rfl ?_
  refine v_iload (pc' := 240) (j := 0) X dX7_performPlainly_238 rfl rfl ?_
  refine ak_G8 (pc' := 241) X hi h16 (v := M.2 (tb i + 8) (nn z)) (nn z) hz1 (by omega) rfl dX7_performPlainly_240 rfl ?_
  refine v_lcmp (pc' := 242) X dX7_performPlainly_241 rfl ?_
  refine v_lif_ge (pc' := 245) (tgt := 249) X dX7_performPlainly_242 (by decide) rfl (fun hc_242 => ?_) (fun hc_242 => ?_)
  -- taken 242
  · refine v_lconst (pc' := 250) (v := 0) X dX7_performPlainly_249 (by decide) rfl ?_
    refine aq_G8 (pc' := 251) X hi h16 (nn x) hx1 (by omega) dX7_performPlainly_250 rfl ?_
    refine v_goto (pc' := 500) X dX7_performPlainly_251 (by decide) ?_
    refine v_return X R (Nat.zero_le _) (Nat.zero_le _) dX7_performPlainly_500 ?_
    rw [if_neg (Int64.not_lt.mpr hc_242)]
    exact ⟨rfl, rfl⟩
  -- not taken 242
  · refine v_lconst (pc' := 246) (v := 1) X dX7_performPlainly_245 (by decide) rfl ?_
    refine v_goto (pc' := 250) X dX7_performPlainly_246 (by decide) ?_
    refine aq_G8 (pc' := 251) X hi h16 (nn x) hx1 (by omega) dX7_performPlainly_250 rfl ?_
    refine v_goto (pc' := 500) X dX7_performPlainly_251 (by decide) ?_
    refine v_return X R (Nat.zero_le _) (Nat.zero_le _) dX7_performPlainly_500 ?_
    rw [if_pos hc_242]
    exact ⟨rfl, rfl⟩
set_option maxHeartbeats 4000000 in
set_option maxRecDepth 100000 in
theorem c_X7_plain_7 {l : Launch} {D : va_G} {Y : Nat → ClassId} {zz : Nat → Nat} {n s cp cq : Nat} {ad : Nat → Nat} {M : vM} {i : Nat} (hi : i < n) (h16 : i < 16) {k9 : Nat} (hk9 : k9 < s) {x y z : Int32} (hx : M.1 (ib k9) 1 = x) (hy : M.1 (ib k9) 2 = y) (hz9 : M.1 (ib k9) 3 = z) (hx1 : x = nI (nn x)) (hx2 : nn x < 16) (hy1 : y = nI (nn y)) (hy2 : nn y < 16) (hz1 : z = nI (nn z)) (hz2 : nn z < 16)  : Ct l D Y zz yX7_performPlainly cX7_performPlainly 8 none 1 20 [.ref (ad (0)), .ref (ad (tb i)), .ref (zz 7), .ref (ad (ib k9))] (wK Y n s cp cq ad M) 0 0 (fun r w => r = none ∧ w = wK Y n s cp cq ad (mL M (tb i + 8) (nn x) (if M.2 (tb i + 8) (nn y) = M.2 (tb i + 8) (nn z) then 1 else 0))) := by
  refine v_entry (by decide +kernel) (Nat.le_of_ble_eq_true rfl) ?_
  intro K X R hR hnm hl hD hY hz
  subst hl hD hY hz
  refine v_sub (lv' := [(0, .ref (ad (0))), (1, .ref (ad (tb i))), (2, .ref (kZ K 7)), (3, .ref (ad (ib k9)))]) [0, 1, 2, 3] rfl ?_
  refine v_aload_n (pc' := 1) (i := 1) (j := 1) X dX7_performPlainly_0 rfl rfl rfl ?_
  refine fk_X7_119 (pc' := 4) X hi h16 dX7_performPlainly_1 rfl ?_
  refine v_astore (pc' := 6) (lv' := [(4, .ref (ad (tb i + 8))), (0, .ref (ad (0))), (1, .ref (ad (tb i))), (2, .ref (kZ K 7)), (3, .ref (ad (ib k9)))]) X dX7_performPlainly_4 (by decide) rfl rfl ?_
  refine v_aload_n (pc' := 7) (i := 3) (j := 4) X dX7_performPlainly_6 rfl rfl rfl ?_
  refine fk_X7_191 (pc' := 10) X hk9 (v := x) hx dX7_performPlainly_7 rfl ?_
  refine v_istore (pc' := 12) (lv' := [(5, .int x), (4, .ref (ad (tb i + 8))), (0, .ref (ad (0))), (1, .ref (ad (tb i))), (2, .ref (kZ K 7)), (3, .ref (ad (ib k9)))]) X dX7_performPlainly_10 (by decide) rfl rfl ?_
  refine v_aload_n (pc' := 13) (i := 3) (j := 5) X dX7_performPlainly_12 rfl rfl rfl ?_
  refine fk_X7_194 (pc' := 16) X hk9 (v := y) hy dX7_performPlainly_13 rfl ?_
  refine v_istore (pc' := 18) (lv' := [(6, .int y), (5, .int x), (4, .ref (ad (tb i + 8))), (0, .ref (ad (0))), (1, .ref (ad (tb i))), (2, .ref (kZ K 7)), (3, .ref (ad (ib k9)))]) X dX7_performPlainly_16 (by decide) rfl rfl ?_
  refine v_aload_n (pc' := 19) (i := 3) (j := 6) X dX7_performPlainly_18 rfl rfl rfl ?_
  refine fk_X7_247 (pc' := 22) X hk9 (v := z) hz9 dX7_performPlainly_19 rfl ?_
  refine v_istore (pc' := 24) (lv' := [(7, .int z), (6, .int y), (5, .int x), (4, .ref (ad (tb i + 8))), (0, .ref (ad (0))), (1, .ref (ad (tb i))), (2, .ref (kZ K 7)), (3, .ref (ad (ib k9)))]) X dX7_performPlainly_22 (by decide) rfl rfl ?_
  refine v_gets (pc' := 27) X X.zM w_fl_X7_183 rfl dX7_performPlainly_24 rfl ?_
  refine v_aload_n (pc' := 28) (i := 2) (j := 6) X dX7_performPlainly_27 rfl rfl rfl ?_
  refine v_callU (pc' := 31) X (st := [.ref (kZ K 31)]) (c_ordinal (o := 7) (by decide)) k_Jx29ce0_ordinal_8abf5 w_ml_X7_188 w_sm_596 w_se_X4_Jx29ce0_ordinal_8abf5 w_im_Jx29ce0_ordinal_8abf5 rfl (by decide +kernel) (zE_recv X (by decide)) (by rw [hR]; exact ⟨Nat.le_of_ble_eq_true rfl, Nat.le_of_ble_eq_true rfl⟩) rfl rfl (Nat.le_of_ble_eq_true rfl) dX7_performPlainly_28 rfl (⟨Nat.zero_le _, Nat.zero_le _⟩) ?_
  rintro _ _ ⟨rfl, rfl⟩
  refine v_ti (pc' := 32) X X.zMt (7) rfl (by decide) (by decide) (v := .int 17) (rfl) dX7_performPlainly_31 rfl ?_
  refine v_tableIn (off := 222) (tgt := 254) X dX7_performPlainly_32 (by decide) (by decide) (by decide) (by decide) ?_
  refine v_aload (pc' := 256) (j := 3) X dX7_performPlainly_254 rfl rfl ?_
  refine v_iload (pc' := 258) (j := 2) X dX7_performPlainly_256 rfl rfl ?_
  refine v_aload (pc' := 260) (j := 3) X dX7_performPlainly_258 rfl rfl ?_
  refine v_iload (pc' := 262) (j := 1) X dX7_performPlainly_260 rfl rfl ?_
  refine ak_G8 (pc' := 263) X hi h16 (v := M.2 (tb i + 8) (nn y)) (nn y) hy1 (by omega) rfl dX7_performPlainly_262 rfl ?_
  refine v_aload (pc' := 265) (j := 3) X dX7_performPlainly_263 rfl rfl ?_
  refine v_iload (pc' := 267) (j := 0) X dX7_performPlainly_265 rfl rfl ?_
  refine ak_G8 (pc' := 268) X hi h16 (v := M.2 (tb i + 8) (nn z)) (nn z) hz1 (by omega) rfl dX7_performPlainly_267 rfl ?_
  refine v_lcmp (pc' := 269) X dX7_performPlainly_268 rfl ?_
  refine v_lif_ne (pc' := 272) (tgt := 276) X dX7_performPlainly_269 (by decide) rfl (fun hc_269 => ?_) (fun hc_269 => ?_)
  -- taken 269
  · refine v_lconst (pc' := 277) (v := 0) X dX7_performPlainly_276 (by decide) rfl ?_
    refine aq_G8 (pc' := 278) X hi h16 (nn x) hx1 (by omega) dX7_performPlainly_277 rfl ?_
    refine v_goto (pc' := 500) X dX7_performPlainly_278 (by decide) ?_
    refine v_return X R (Nat.zero_le _) (Nat.zero_le _) dX7_performPlainly_500 ?_
    rw [if_neg hc_269]
    exact ⟨rfl, rfl⟩
  -- not taken 269
  · refine v_lconst (pc' := 273) (v := 1) X dX7_performPlainly_272 (by decide) rfl ?_
    refine v_goto (pc' := 277) X dX7_performPlainly_273 (by decide) ?_
    refine aq_G8 (pc' := 278) X hi h16 (nn x) hx1 (by omega) dX7_performPlainly_277 rfl ?_
    refine v_goto (pc' := 500) X dX7_performPlainly_278 (by decide) ?_
    refine v_return X R (Nat.zero_le _) (Nat.zero_le _) dX7_performPlainly_500 ?_
    rw [if_pos hc_269]
    exact ⟨rfl, rfl⟩
set_option maxHeartbeats 4000000 in
set_option maxRecDepth 100000 in
theorem c_X7_plain_8 {l : Launch} {D : va_G} {Y : Nat → ClassId} {zz : Nat → Nat} {n s cp cq : Nat} {ad : Nat → Nat} {M : vM} {i : Nat} (hi : i < n) (h16 : i < 16) {k9 : Nat} (hk9 : k9 < s) {x y z : Int32} (hx : M.1 (ib k9) 1 = x) (hy : M.1 (ib k9) 2 = y) (hz9 : M.1 (ib k9) 3 = z)  : Ct l D Y zz yX7_performPlainly cX7_performPlainly 8 none 1 20 [.ref (ad (0)), .ref (ad (tb i)), .ref (zz 8), .ref (ad (ib k9))] (wK Y n s cp cq ad M) 0 0 (fun r w => r = none ∧ w = wK Y n s cp cq ad (mI M (tb i) 10 x)) := by
  refine v_entry (by decide +kernel) (Nat.le_of_ble_eq_true rfl) ?_
  intro K X R hR hnm hl hD hY hz
  subst hl hD hY hz
  refine v_sub (lv' := [(0, .ref (ad (0))), (1, .ref (ad (tb i))), (2, .ref (kZ K 8)), (3, .ref (ad (ib k9)))]) [0, 1, 2, 3] rfl ?_
  refine v_aload_n (pc' := 1) (i := 1) (j := 1) X dX7_performPlainly_0 rfl rfl rfl ?_
  refine fk_X7_119 (pc' := 4) X hi h16 dX7_performPlainly_1 rfl ?_
  refine v_astore (pc' := 6) (lv' := [(4, .ref (ad (tb i + 8))), (0, .ref (ad (0))), (1, .ref (ad (tb i))), (2, .ref (kZ K 8)), (3, .ref (ad (ib k9)))]) X dX7_performPlainly_4 (by decide) rfl rfl ?_
  refine v_aload_n (pc' := 7) (i := 3) (j := 4) X dX7_performPlainly_6 rfl rfl rfl ?_
  refine fk_X7_191 (pc' := 10) X hk9 (v := x) hx dX7_performPlainly_7 rfl ?_
  refine v_istore (pc' := 12) (lv' := [(5, .int x), (4, .ref (ad (tb i + 8))), (0, .ref (ad (0))), (1, .ref (ad (tb i))), (2, .ref (kZ K 8)), (3, .ref (ad (ib k9)))]) X dX7_performPlainly_10 (by decide) rfl rfl ?_
  refine v_aload_n (pc' := 13) (i := 3) (j := 5) X dX7_performPlainly_12 rfl rfl rfl ?_
  refine fk_X7_194 (pc' := 16) X hk9 (v := y) hy dX7_performPlainly_13 rfl ?_
  refine v_istore (pc' := 18) (lv' := [(6, .int y), (5, .int x), (4, .ref (ad (tb i + 8))), (0, .ref (ad (0))), (1, .ref (ad (tb i))), (2, .ref (kZ K 8)), (3, .ref (ad (ib k9)))]) X dX7_performPlainly_16 (by decide) rfl rfl ?_
  refine v_aload_n (pc' := 19) (i := 3) (j := 6) X dX7_performPlainly_18 rfl rfl rfl ?_
  refine fk_X7_247 (pc' := 22) X hk9 (v := z) hz9 dX7_performPlainly_19 rfl ?_
  refine v_istore (pc' := 24) (lv' := [(7, .int z), (6, .int y), (5, .int x), (4, .ref (ad (tb i + 8))), (0, .ref (ad (0))), (1, .ref (ad (tb i))), (2, .ref (kZ K 8)), (3, .ref (ad (ib k9)))]) X dX7_performPlainly_22 (by decide) rfl rfl ?_
  refine v_gets (pc' := 27) X X.zM w_fl_X7_183 rfl dX7_performPlainly_24 rfl ?_
  refine v_aload_n (pc' := 28) (i := 2) (j := 6) X dX7_performPlainly_27 rfl rfl rfl ?_
  refine v_callU (pc' := 31) X (st := [.ref (kZ K 31)]) (c_ordinal (o := 8) (by decide)) k_Jx29ce0_ordinal_8abf5 w_ml_X7_188 w_sm_596 w_se_X4_Jx29ce0_ordinal_8abf5 w_im_Jx29ce0_ordinal_8abf5 rfl (by decide +kernel) (zE_recv X (by decide)) (by rw [hR]; exact ⟨Nat.le_of_ble_eq_true rfl, Nat.le_of_ble_eq_true rfl⟩) rfl rfl (Nat.le_of_ble_eq_true rfl) dX7_performPlainly_28 rfl (⟨Nat.zero_le _, Nat.zero_le _⟩) ?_
  rintro _ _ ⟨rfl, rfl⟩
  refine v_ti (pc' := 32) X X.zMt (8) rfl (by decide) (by decide) (v := .int 18) (rfl) dX7_performPlainly_31 rfl ?_
  refine v_tableIn (off := 249) (tgt := 281) X dX7_performPlainly_32 (by decide) (by decide) (by decide) (by decide) ?_
  refine v_aload_n (pc' := 282) (i := 1) (j := 5) X dX7_performPlainly_281 rfl rfl rfl ?_
  refine v_iload (pc' := 284) (j := 2) X dX7_performPlainly_282 rfl rfl ?_
  refine fq_X7_91 (pc' := 287) X hi h16 dX7_performPlainly_284 rfl ?_
  refine v_goto (pc' := 500) X dX7_performPlainly_287 (by decide) ?_
  refine v_return X R (Nat.zero_le _) (Nat.zero_le _) dX7_performPlainly_500 ?_
  exact ⟨rfl, rfl⟩
set_option maxHeartbeats 4000000 in
set_option maxRecDepth 100000 in
theorem c_X7_plain_9 {l : Launch} {D : va_G} {Y : Nat → ClassId} {zz : Nat → Nat} {n s cp cq : Nat} {ad : Nat → Nat} {M : vM} {i : Nat} (hi : i < n) (h16 : i < 16) {k9 : Nat} (hk9 : k9 < s) {x y z : Int32} (hx : M.1 (ib k9) 1 = x) (hy : M.1 (ib k9) 2 = y) (hz9 : M.1 (ib k9) 3 = z) (hx1 : x = nI (nn x)) (hx2 : nn x < 16)  : Ct l D Y zz yX7_performPlainly cX7_performPlainly 8 none 1 20 [.ref (ad (0)), .ref (ad (tb i)), .ref (zz 9), .ref (ad (ib k9))] (wK Y n s cp cq ad M) 0 0 (fun r w => r = none ∧ w = wK Y n s cp cq ad (mI M (tb i) 10 (if M.2 (tb i + 8) (nn x) = 0 then y else M.1 (tb i) 10))) := by
  refine v_entry (by decide +kernel) (Nat.le_of_ble_eq_true rfl) ?_
  intro K X R hR hnm hl hD hY hz
  subst hl hD hY hz
  refine v_sub (lv' := [(0, .ref (ad (0))), (1, .ref (ad (tb i))), (2, .ref (kZ K 9)), (3, .ref (ad (ib k9)))]) [0, 1, 2, 3] rfl ?_
  refine v_aload_n (pc' := 1) (i := 1) (j := 1) X dX7_performPlainly_0 rfl rfl rfl ?_
  refine fk_X7_119 (pc' := 4) X hi h16 dX7_performPlainly_1 rfl ?_
  refine v_astore (pc' := 6) (lv' := [(4, .ref (ad (tb i + 8))), (0, .ref (ad (0))), (1, .ref (ad (tb i))), (2, .ref (kZ K 9)), (3, .ref (ad (ib k9)))]) X dX7_performPlainly_4 (by decide) rfl rfl ?_
  refine v_aload_n (pc' := 7) (i := 3) (j := 4) X dX7_performPlainly_6 rfl rfl rfl ?_
  refine fk_X7_191 (pc' := 10) X hk9 (v := x) hx dX7_performPlainly_7 rfl ?_
  refine v_istore (pc' := 12) (lv' := [(5, .int x), (4, .ref (ad (tb i + 8))), (0, .ref (ad (0))), (1, .ref (ad (tb i))), (2, .ref (kZ K 9)), (3, .ref (ad (ib k9)))]) X dX7_performPlainly_10 (by decide) rfl rfl ?_
  refine v_aload_n (pc' := 13) (i := 3) (j := 5) X dX7_performPlainly_12 rfl rfl rfl ?_
  refine fk_X7_194 (pc' := 16) X hk9 (v := y) hy dX7_performPlainly_13 rfl ?_
  refine v_istore (pc' := 18) (lv' := [(6, .int y), (5, .int x), (4, .ref (ad (tb i + 8))), (0, .ref (ad (0))), (1, .ref (ad (tb i))), (2, .ref (kZ K 9)), (3, .ref (ad (ib k9)))]) X dX7_performPlainly_16 (by decide) rfl rfl ?_
  refine v_aload_n (pc' := 19) (i := 3) (j := 6) X dX7_performPlainly_18 rfl rfl rfl ?_
  refine fk_X7_247 (pc' := 22) X hk9 (v := z) hz9 dX7_performPlainly_19 rfl ?_
  refine v_istore (pc' := 24) (lv' := [(7, .int z), (6, .int y), (5, .int x), (4, .ref (ad (tb i + 8))), (0, .ref (ad (0))), (1, .ref (ad (tb i))), (2, .ref (kZ K 9)), (3, .ref (ad (ib k9)))]) X dX7_performPlainly_22 (by decide) rfl rfl ?_
  refine v_gets (pc' := 27) X X.zM w_fl_X7_183 rfl dX7_performPlainly_24 rfl ?_
  refine v_aload_n (pc' := 28) (i := 2) (j := 6) X dX7_performPlainly_27 rfl rfl rfl ?_
  refine v_callU (pc' := 31) X (st := [.ref (kZ K 31)]) (c_ordinal (o := 9) (by decide)) k_Jx29ce0_ordinal_8abf5 w_ml_X7_188 w_sm_596 w_se_X4_Jx29ce0_ordinal_8abf5 w_im_Jx29ce0_ordinal_8abf5 rfl (by decide +kernel) (zE_recv X (by decide)) (by rw [hR]; exact ⟨Nat.le_of_ble_eq_true rfl, Nat.le_of_ble_eq_true rfl⟩) rfl rfl (Nat.le_of_ble_eq_true rfl) dX7_performPlainly_28 rfl (⟨Nat.zero_le _, Nat.zero_le _⟩) ?_
  rintro _ _ ⟨rfl, rfl⟩
  refine v_ti (pc' := 32) X X.zMt (9) rfl (by decide) (by decide) (v := .int 19) (rfl) dX7_performPlainly_31 rfl ?_
  refine v_tableIn (off := 258) (tgt := 290) X dX7_performPlainly_32 (by decide) (by decide) (by decide) (by decide) ?_
  refine v_aload_n (pc' := 291) (i := 1) (j := 5) X dX7_performPlainly_290 rfl rfl rfl ?_
  refine v_aload (pc' := 293) (j := 3) X dX7_performPlainly_291 rfl rfl ?_
  refine v_iload (pc' := 295) (j := 2) X dX7_performPlainly_293 rfl rfl ?_
  refine ak_G8 (pc' := 296) X hi h16 (v := M.2 (tb i + 8) (nn x)) (nn x) hx1 (by omega) rfl dX7_performPlainly_295 rfl ?_
  refine v_lconst (pc' := 297) (v := 0) X dX7_performPlainly_296 (by decide) rfl ?_
  refine v_lcmp (pc' := 298) X dX7_performPlainly_297 rfl ?_
  refine v_lif_ne (pc' := 301) (tgt := 306) X dX7_performPlainly_298 (by decide) rfl (fun hc_298 => ?_) (fun hc_298 => ?_)
  -- taken 298
  · refine v_aload_n (pc' := 307) (i := 1) (j := 5) X dX7_performPlainly_306 rfl rfl rfl ?_
    refine fk_X7_91 (pc' := 310) X hi h16 (v := M.1 (tb i) 10) rfl dX7_performPlainly_307 rfl ?_
    refine fq_X7_91 (pc' := 313) X hi h16 dX7_performPlainly_310 rfl ?_
    refine v_goto (pc' := 500) X dX7_performPlainly_313 (by decide) ?_
    refine v_return X R (Nat.zero_le _) (Nat.zero_le _) dX7_performPlainly_500 ?_
    rw [if_neg hc_298]
    exact ⟨rfl, rfl⟩
  -- not taken 298
  · refine v_iload (pc' := 303) (j := 1) X dX7_performPlainly_301 rfl rfl ?_
    refine v_goto (pc' := 310) X dX7_performPlainly_303 (by decide) ?_
    refine fq_X7_91 (pc' := 313) X hi h16 dX7_performPlainly_310 rfl ?_
    refine v_goto (pc' := 500) X dX7_performPlainly_313 (by decide) ?_
    refine v_return X R (Nat.zero_le _) (Nat.zero_le _) dX7_performPlainly_500 ?_
    rw [if_pos hc_298]
    exact ⟨rfl, rfl⟩
set_option maxHeartbeats 4000000 in
set_option maxRecDepth 100000 in
theorem c_X7_plain_10 {l : Launch} {D : va_G} {Y : Nat → ClassId} {zz : Nat → Nat} {n s cp cq : Nat} {ad : Nat → Nat} {M : vM} {i : Nat} (hi : i < n) (h16 : i < 16) {k9 : Nat} (hk9 : k9 < s) {x y z : Int32} (hx : M.1 (ib k9) 1 = x) (hy : M.1 (ib k9) 2 = y) (hz9 : M.1 (ib k9) 3 = z) {ca : Nat} (h11 : M.1 (tb i) 11 = nI ca) (hca : ca < 40)  : Ct l D Y zz yX7_performPlainly cX7_performPlainly 8 none 1 21 [.ref (ad (0)), .ref (ad (tb i)), .ref (zz 10), .ref (ad (ib k9))] (wK Y n s cp cq ad M) 0 0 (fun r w => r = none ∧ w = wK Y n s cp cq ad (gEnter M (tb i) ca x)) := by
  refine v_entry (by decide +kernel) (Nat.le_of_ble_eq_true rfl) ?_
  intro K X R hR hnm hl hD hY hz
  subst hl hD hY hz
  refine v_sub (lv' := [(0, .ref (ad (0))), (1, .ref (ad (tb i))), (2, .ref (kZ K 10)), (3, .ref (ad (ib k9)))]) [0, 1, 2, 3] rfl ?_
  refine v_aload_n (pc' := 1) (i := 1) (j := 1) X dX7_performPlainly_0 rfl rfl rfl ?_
  refine fk_X7_119 (pc' := 4) X hi h16 dX7_performPlainly_1 rfl ?_
  refine v_astore (pc' := 6) (lv' := [(4, .ref (ad (tb i + 8))), (0, .ref (ad (0))), (1, .ref (ad (tb i))), (2, .ref (kZ K 10)), (3, .ref (ad (ib k9)))]) X dX7_performPlainly_4 (by decide) rfl rfl ?_
  refine v_aload_n (pc' := 7) (i := 3) (j := 4) X dX7_performPlainly_6 rfl rfl rfl ?_
  refine fk_X7_191 (pc' := 10) X hk9 (v := x) hx dX7_performPlainly_7 rfl ?_
  refine v_istore (pc' := 12) (lv' := [(5, .int x), (4, .ref (ad (tb i + 8))), (0, .ref (ad (0))), (1, .ref (ad (tb i))), (2, .ref (kZ K 10)), (3, .ref (ad (ib k9)))]) X dX7_performPlainly_10 (by decide) rfl rfl ?_
  refine v_aload_n (pc' := 13) (i := 3) (j := 5) X dX7_performPlainly_12 rfl rfl rfl ?_
  refine fk_X7_194 (pc' := 16) X hk9 (v := y) hy dX7_performPlainly_13 rfl ?_
  refine v_istore (pc' := 18) (lv' := [(6, .int y), (5, .int x), (4, .ref (ad (tb i + 8))), (0, .ref (ad (0))), (1, .ref (ad (tb i))), (2, .ref (kZ K 10)), (3, .ref (ad (ib k9)))]) X dX7_performPlainly_16 (by decide) rfl rfl ?_
  refine v_aload_n (pc' := 19) (i := 3) (j := 6) X dX7_performPlainly_18 rfl rfl rfl ?_
  refine fk_X7_247 (pc' := 22) X hk9 (v := z) hz9 dX7_performPlainly_19 rfl ?_
  refine v_istore (pc' := 24) (lv' := [(7, .int z), (6, .int y), (5, .int x), (4, .ref (ad (tb i + 8))), (0, .ref (ad (0))), (1, .ref (ad (tb i))), (2, .ref (kZ K 10)), (3, .ref (ad (ib k9)))]) X dX7_performPlainly_22 (by decide) rfl rfl ?_
  refine v_gets (pc' := 27) X X.zM w_fl_X7_183 rfl dX7_performPlainly_24 rfl ?_
  refine v_aload_n (pc' := 28) (i := 2) (j := 6) X dX7_performPlainly_27 rfl rfl rfl ?_
  refine v_callU (pc' := 31) X (st := [.ref (kZ K 31)]) (c_ordinal (o := 10) (by decide)) k_Jx29ce0_ordinal_8abf5 w_ml_X7_188 w_sm_596 w_se_X4_Jx29ce0_ordinal_8abf5 w_im_Jx29ce0_ordinal_8abf5 rfl (by decide +kernel) (zE_recv X (by decide)) (by rw [hR]; exact ⟨Nat.le_of_ble_eq_true rfl, Nat.le_of_ble_eq_true rfl⟩) rfl rfl (Nat.le_of_ble_eq_true rfl) dX7_performPlainly_28 rfl (⟨Nat.zero_le _, Nat.zero_le _⟩) ?_
  rintro _ _ ⟨rfl, rfl⟩
  refine v_ti (pc' := 32) X X.zMt (10) rfl (by decide) (by decide) (v := .int 20) (rfl) dX7_performPlainly_31 rfl ?_
  refine v_tableIn (off := 284) (tgt := 316) X dX7_performPlainly_32 (by decide) (by decide) (by decide) (by decide) ?_
  refine v_aload_n (pc' := 317) (i := 1) (j := 5) X dX7_performPlainly_316 rfl rfl rfl ?_
  refine v_iload (pc' := 319) (j := 2) X dX7_performPlainly_317 rfl rfl ?_
  refine v_callVN (pc' := 322) X (st := []) (c_X6_enter (M := M) hi h16 h11 hca (t := x)) k_X6_enter n_ml_X7_269 w_im_X6_enter w_se_X6_X6_enter (rw_X6 hi h16) (by rw [hR]; exact ⟨Nat.le_of_ble_eq_true rfl, Nat.le_of_ble_eq_true rfl⟩) rfl rfl (Nat.le_of_ble_eq_true rfl) dX7_performPlainly_319 rfl (⟨Nat.zero_le _, Nat.zero_le _⟩) ?_
  rintro _ _ ⟨rfl, rfl⟩
  refine v_goto (pc' := 500) X dX7_performPlainly_322 (by decide) ?_
  refine v_return X R (Nat.zero_le _) (Nat.zero_le _) dX7_performPlainly_500 ?_
  exact ⟨rfl, rfl⟩
set_option maxHeartbeats 4000000 in
set_option maxRecDepth 100000 in
theorem c_X7_plain_11 {l : Launch} {D : va_G} {Y : Nat → ClassId} {zz : Nat → Nat} {n s cp cq : Nat} {ad : Nat → Nat} {M : vM} {i : Nat} (hi : i < n) (h16 : i < 16) {k9 : Nat} (hk9 : k9 < s) {x y z : Int32} (hx : M.1 (ib k9) 1 = x) (hy : M.1 (ib k9) 2 = y) (hz9 : M.1 (ib k9) 3 = z) {ca : Nat} (h11 : M.1 (tb i) 11 = nI ca) (hca : ca ≤ 40) (hc1 : 1 ≤ ca)  : Ct l D Y zz yX7_performPlainly cX7_performPlainly 8 none 1 20 [.ref (ad (0)), .ref (ad (tb i)), .ref (zz 11), .ref (ad (ib k9))] (wK Y n s cp cq ad M) 0 0 (fun r w => r = none ∧ w = wK Y n s cp cq ad (gLeave M (tb i) ca)) := by
  refine v_entry (by decide +kernel) (Nat.le_of_ble_eq_true rfl) ?_
  intro K X R hR hnm hl hD hY hz
  subst hl hD hY hz
  refine v_sub (lv' := [(0, .ref (ad (0))), (1, .ref (ad (tb i))), (2, .ref (kZ K 11)), (3, .ref (ad (ib k9)))]) [0, 1, 2, 3] rfl ?_
  refine v_aload_n (pc' := 1) (i := 1) (j := 1) X dX7_performPlainly_0 rfl rfl rfl ?_
  refine fk_X7_119 (pc' := 4) X hi h16 dX7_performPlainly_1 rfl ?_
  refine v_astore (pc' := 6) (lv' := [(4, .ref (ad (tb i + 8))), (0, .ref (ad (0))), (1, .ref (ad (tb i))), (2, .ref (kZ K 11)), (3, .ref (ad (ib k9)))]) X dX7_performPlainly_4 (by decide) rfl rfl ?_
  refine v_aload_n (pc' := 7) (i := 3) (j := 4) X dX7_performPlainly_6 rfl rfl rfl ?_
  refine fk_X7_191 (pc' := 10) X hk9 (v := x) hx dX7_performPlainly_7 rfl ?_
  refine v_istore (pc' := 12) (lv' := [(5, .int x), (4, .ref (ad (tb i + 8))), (0, .ref (ad (0))), (1, .ref (ad (tb i))), (2, .ref (kZ K 11)), (3, .ref (ad (ib k9)))]) X dX7_performPlainly_10 (by decide) rfl rfl ?_
  refine v_aload_n (pc' := 13) (i := 3) (j := 5) X dX7_performPlainly_12 rfl rfl rfl ?_
  refine fk_X7_194 (pc' := 16) X hk9 (v := y) hy dX7_performPlainly_13 rfl ?_
  refine v_istore (pc' := 18) (lv' := [(6, .int y), (5, .int x), (4, .ref (ad (tb i + 8))), (0, .ref (ad (0))), (1, .ref (ad (tb i))), (2, .ref (kZ K 11)), (3, .ref (ad (ib k9)))]) X dX7_performPlainly_16 (by decide) rfl rfl ?_
  refine v_aload_n (pc' := 19) (i := 3) (j := 6) X dX7_performPlainly_18 rfl rfl rfl ?_
  refine fk_X7_247 (pc' := 22) X hk9 (v := z) hz9 dX7_performPlainly_19 rfl ?_
  refine v_istore (pc' := 24) (lv' := [(7, .int z), (6, .int y), (5, .int x), (4, .ref (ad (tb i + 8))), (0, .ref (ad (0))), (1, .ref (ad (tb i))), (2, .ref (kZ K 11)), (3, .ref (ad (ib k9)))]) X dX7_performPlainly_22 (by decide) rfl rfl ?_
  refine v_gets (pc' := 27) X X.zM w_fl_X7_183 rfl dX7_performPlainly_24 rfl ?_
  refine v_aload_n (pc' := 28) (i := 2) (j := 6) X dX7_performPlainly_27 rfl rfl rfl ?_
  refine v_callU (pc' := 31) X (st := [.ref (kZ K 31)]) (c_ordinal (o := 11) (by decide)) k_Jx29ce0_ordinal_8abf5 w_ml_X7_188 w_sm_596 w_se_X4_Jx29ce0_ordinal_8abf5 w_im_Jx29ce0_ordinal_8abf5 rfl (by decide +kernel) (zE_recv X (by decide)) (by rw [hR]; exact ⟨Nat.le_of_ble_eq_true rfl, Nat.le_of_ble_eq_true rfl⟩) rfl rfl (Nat.le_of_ble_eq_true rfl) dX7_performPlainly_28 rfl (⟨Nat.zero_le _, Nat.zero_le _⟩) ?_
  rintro _ _ ⟨rfl, rfl⟩
  refine v_ti (pc' := 32) X X.zMt (11) rfl (by decide) (by decide) (v := .int 21) (rfl) dX7_performPlainly_31 rfl ?_
  refine v_tableIn (off := 293) (tgt := 325) X dX7_performPlainly_32 (by decide) (by decide) (by decide) (by decide) ?_
  refine v_aload_n (pc' := 326) (i := 1) (j := 5) X dX7_performPlainly_325 rfl rfl rfl ?_
  refine v_callVN (pc' := 329) X (st := []) (c_X6_leave (M := M) hi h16 h11 hca hc1) k_X6_leave n_ml_X7_272 w_im_X6_leave w_se_X6_X6_leave (rw_X6 hi h16) (by rw [hR]; exact ⟨Nat.le_of_ble_eq_true rfl, Nat.le_of_ble_eq_true rfl⟩) rfl rfl (Nat.le_of_ble_eq_true rfl) dX7_performPlainly_326 rfl (⟨Nat.zero_le _, Nat.zero_le _⟩) ?_
  rintro _ _ ⟨rfl, rfl⟩
  refine v_goto (pc' := 500) X dX7_performPlainly_329 (by decide) ?_
  refine v_return X R (Nat.zero_le _) (Nat.zero_le _) dX7_performPlainly_500 ?_
  exact ⟨rfl, rfl⟩
set_option maxHeartbeats 4000000 in
set_option maxRecDepth 100000 in
theorem c_X7_plain_12 {l : Launch} {D : va_G} {Y : Nat → ClassId} {zz : Nat → Nat} {n s cp cq : Nat} {ad : Nat → Nat} {M : vM} {i : Nat} (hi : i < n) (h16 : i < 16) {k9 : Nat} (hk9 : k9 < s) {x y z : Int32} (hx : M.1 (ib k9) 1 = x) (hy : M.1 (ib k9) 2 = y) (hz9 : M.1 (ib k9) 3 = z) {us : Nat} (h5 : M.1 1 5 = nI us) (hu : us < 200) (hx1 : x = nI (nn x)) (hx2 : nn x < 16) (hy1 : y = nI (nn y)) (hy2 : nn y < 16) (hz1 : z = nI (nn z)) (hz2 : nn z < 16)  : Ct l D Y zz yX7_performPlainly cX7_performPlainly 8 none 2 50 [.ref (ad (0)), .ref (ad (tb i)), .ref (zz 12), .ref (ad (ib k9))] (wK Y n s cp cq ad M) 0 0 (fun r w => r = none ∧ w = wK Y n s cp cq ad (mL (gFill M us 1 (M.2 (tb i + 8) (nn y)) (M.2 (tb i + 8) (nn z))) (tb i + 8) (nn x) (8589934592 + lN us))) := by
  refine v_entry (by decide +kernel) (Nat.le_of_ble_eq_true rfl) ?_
  intro K X R hR hnm hl hD hY hz
  subst hl hD hY hz
  refine v_sub (lv' := [(0, .ref (ad (0))), (1, .ref (ad (tb i))), (2, .ref (kZ K 12)), (3, .ref (ad (ib k9)))]) [0, 1, 2, 3] rfl ?_
  refine v_aload_n (pc' := 1) (i := 1) (j := 1) X dX7_performPlainly_0 rfl rfl rfl ?_
  refine fk_X7_119 (pc' := 4) X hi h16 dX7_performPlainly_1 rfl ?_
  refine v_astore (pc' := 6) (lv' := [(4, .ref (ad (tb i + 8))), (0, .ref (ad (0))), (1, .ref (ad (tb i))), (2, .ref (kZ K 12)), (3, .ref (ad (ib k9)))]) X dX7_performPlainly_4 (by decide) rfl rfl ?_
  refine v_aload_n (pc' := 7) (i := 3) (j := 4) X dX7_performPlainly_6 rfl rfl rfl ?_
  refine fk_X7_191 (pc' := 10) X hk9 (v := x) hx dX7_performPlainly_7 rfl ?_
  refine v_istore (pc' := 12) (lv' := [(5, .int x), (4, .ref (ad (tb i + 8))), (0, .ref (ad (0))), (1, .ref (ad (tb i))), (2, .ref (kZ K 12)), (3, .ref (ad (ib k9)))]) X dX7_performPlainly_10 (by decide) rfl rfl ?_
  refine v_aload_n (pc' := 13) (i := 3) (j := 5) X dX7_performPlainly_12 rfl rfl rfl ?_
  refine fk_X7_194 (pc' := 16) X hk9 (v := y) hy dX7_performPlainly_13 rfl ?_
  refine v_istore (pc' := 18) (lv' := [(6, .int y), (5, .int x), (4, .ref (ad (tb i + 8))), (0, .ref (ad (0))), (1, .ref (ad (tb i))), (2, .ref (kZ K 12)), (3, .ref (ad (ib k9)))]) X dX7_performPlainly_16 (by decide) rfl rfl ?_
  refine v_aload_n (pc' := 19) (i := 3) (j := 6) X dX7_performPlainly_18 rfl rfl rfl ?_
  refine fk_X7_247 (pc' := 22) X hk9 (v := z) hz9 dX7_performPlainly_19 rfl ?_
  refine v_istore (pc' := 24) (lv' := [(7, .int z), (6, .int y), (5, .int x), (4, .ref (ad (tb i + 8))), (0, .ref (ad (0))), (1, .ref (ad (tb i))), (2, .ref (kZ K 12)), (3, .ref (ad (ib k9)))]) X dX7_performPlainly_22 (by decide) rfl rfl ?_
  refine v_gets (pc' := 27) X X.zM w_fl_X7_183 rfl dX7_performPlainly_24 rfl ?_
  refine v_aload_n (pc' := 28) (i := 2) (j := 6) X dX7_performPlainly_27 rfl rfl rfl ?_
  refine v_callU (pc' := 31) X (st := [.ref (kZ K 31)]) (c_ordinal (o := 12) (by decide)) k_Jx29ce0_ordinal_8abf5 w_ml_X7_188 w_sm_596 w_se_X4_Jx29ce0_ordinal_8abf5 w_im_Jx29ce0_ordinal_8abf5 rfl (by decide +kernel) (zE_recv X (by decide)) (by rw [hR]; exact ⟨Nat.le_of_ble_eq_true rfl, Nat.le_of_ble_eq_true rfl⟩) rfl rfl (Nat.le_of_ble_eq_true rfl) dX7_performPlainly_28 rfl (⟨Nat.zero_le _, Nat.zero_le _⟩) ?_
  rintro _ _ ⟨rfl, rfl⟩
  refine v_ti (pc' := 32) X X.zMt (12) rfl (by decide) (by decide) (v := .int 22) (rfl) dX7_performPlainly_31 rfl ?_
  refine v_tableIn (off := 300) (tgt := 332) X dX7_performPlainly_32 (by decide) (by decide) (by decide) (by decide) ?_
  refine v_aload (pc' := 334) (j := 3) X dX7_performPlainly_332 rfl rfl ?_
  refine v_iload (pc' := 336) (j := 2) X dX7_performPlainly_334 rfl rfl ?_
  refine v_aload_n (pc' := 337) (i := 0) (j := 4) X dX7_performPlainly_336 rfl rfl rfl ?_
  refine fk_X7_26 (pc' := 340) X dX7_performPlainly_337 rfl ?_
  refine v_aload (pc' := 342) (j := 3) X dX7_performPlainly_340 rfl rfl ?_
  refine v_iload (pc' := 344) (j := 1) X dX7_performPlainly_342 rfl rfl ?_
  refine ak_G8 (pc' := 345) X hi h16 (v := M.2 (tb i + 8) (nn y)) (nn y) hy1 (by omega) rfl dX7_performPlainly_344 rfl ?_
  refine v_aload (pc' := 347) (j := 3) X dX7_performPlainly_345 rfl rfl ?_
  refine v_iload (pc' := 349) (j := 0) X dX7_performPlainly_347 rfl rfl ?_
  refine ak_G8 (pc' := 350) X hi h16 (v := M.2 (tb i + 8) (nn z)) (nn z) hz1 (by omega) rfl dX7_performPlainly_349 rfl ?_
  refine v_callVN (pc' := 353) X (st := [.int x, .ref (ad (tb i + 8))]) (c_X1_newPair (M := M) h5 hu (v1 := M.2 (tb i + 8) (nn y)) (v2 := M.2 (tb i + 8) (nn z))) k_X1_newPair n_ml_X7_275 w_im_X1_newPair w_se_X1_X1_newPair rw_X1 (by rw [hR]; exact ⟨Nat.le_of_ble_eq_true rfl, Nat.le_of_ble_eq_true rfl⟩) rfl rfl (Nat.le_of_ble_eq_true rfl) dX7_performPlainly_350 rfl (⟨Nat.zero_le _, Nat.zero_le _⟩) ?_
  rintro _ _ ⟨rfl, rfl⟩
  refine aq_G8 (pc' := 354) X hi h16 (nn x) hx1 (by omega) dX7_performPlainly_353 rfl ?_
  refine v_goto (pc' := 500) X dX7_performPlainly_354 (by decide) ?_
  refine v_return X R (Nat.zero_le _) (Nat.zero_le _) dX7_performPlainly_500 ?_
  exact ⟨rfl, rfl⟩
set_option maxHeartbeats 4000000 in
set_option maxRecDepth 100000 in
theorem c_X7_plain_13 {l : Launch} {D : va_G} {Y : Nat → ClassId} {zz : Nat → Nat} {n s cp cq : Nat} {ad : Nat → Nat} {M : vM} {i : Nat} (hi : i < n) (h16 : i < 16) {k9 : Nat} (hk9 : k9 < s) {x y z : Int32} (hx : M.1 (ib k9) 1 = x) (hy : M.1 (ib k9) 2 = y) (hz9 : M.1 (ib k9) 3 = z) (hp : plOk (M.2 (tb i + 8) (nn y))) (hx1 : x = nI (nn x)) (hx2 : nn x < 16) (hy1 : y = nI (nn y)) (hy2 : nn y < 16)  : Ct l D Y zz yX7_performPlainly cX7_performPlainly 8 none 1 21 [.ref (ad (0)), .ref (ad (tb i)), .ref (zz 13), .ref (ad (ib k9))] (wK Y n s cp cq ad M) 0 0 (fun r w => r = none ∧ w = wK Y n s cp cq ad (mL M (tb i + 8) (nn x) (M.2 15 (pl (M.2 (tb i + 8) (nn y)))))) := by
  refine v_entry (by decide +kernel) (Nat.le_of_ble_eq_true rfl) ?_
  intro K X R hR hnm hl hD hY hz
  subst hl hD hY hz
  refine v_sub (lv' := [(0, .ref (ad (0))), (1, .ref (ad (tb i))), (2, .ref (kZ K 13)), (3, .ref (ad (ib k9)))]) [0, 1, 2, 3] rfl ?_
  have hp1 := hp.1
  have hp2 := hp.2
  refine v_aload_n (pc' := 1) (i := 1) (j := 1) X dX7_performPlainly_0 rfl rfl rfl ?_
  refine fk_X7_119 (pc' := 4) X hi h16 dX7_performPlainly_1 rfl ?_
  refine v_astore (pc' := 6) (lv' := [(4, .ref (ad (tb i + 8))), (0, .ref (ad (0))), (1, .ref (ad (tb i))), (2, .ref (kZ K 13)), (3, .ref (ad (ib k9)))]) X dX7_performPlainly_4 (by decide) rfl rfl ?_
  refine v_aload_n (pc' := 7) (i := 3) (j := 4) X dX7_performPlainly_6 rfl rfl rfl ?_
  refine fk_X7_191 (pc' := 10) X hk9 (v := x) hx dX7_performPlainly_7 rfl ?_
  refine v_istore (pc' := 12) (lv' := [(5, .int x), (4, .ref (ad (tb i + 8))), (0, .ref (ad (0))), (1, .ref (ad (tb i))), (2, .ref (kZ K 13)), (3, .ref (ad (ib k9)))]) X dX7_performPlainly_10 (by decide) rfl rfl ?_
  refine v_aload_n (pc' := 13) (i := 3) (j := 5) X dX7_performPlainly_12 rfl rfl rfl ?_
  refine fk_X7_194 (pc' := 16) X hk9 (v := y) hy dX7_performPlainly_13 rfl ?_
  refine v_istore (pc' := 18) (lv' := [(6, .int y), (5, .int x), (4, .ref (ad (tb i + 8))), (0, .ref (ad (0))), (1, .ref (ad (tb i))), (2, .ref (kZ K 13)), (3, .ref (ad (ib k9)))]) X dX7_performPlainly_16 (by decide) rfl rfl ?_
  refine v_aload_n (pc' := 19) (i := 3) (j := 6) X dX7_performPlainly_18 rfl rfl rfl ?_
  refine fk_X7_247 (pc' := 22) X hk9 (v := z) hz9 dX7_performPlainly_19 rfl ?_
  refine v_istore (pc' := 24) (lv' := [(7, .int z), (6, .int y), (5, .int x), (4, .ref (ad (tb i + 8))), (0, .ref (ad (0))), (1, .ref (ad (tb i))), (2, .ref (kZ K 13)), (3, .ref (ad (ib k9)))]) X dX7_performPlainly_22 (by decide) rfl rfl ?_
  refine v_gets (pc' := 27) X X.zM w_fl_X7_183 rfl dX7_performPlainly_24 rfl ?_
  refine v_aload_n (pc' := 28) (i := 2) (j := 6) X dX7_performPlainly_27 rfl rfl rfl ?_
  refine v_callU (pc' := 31) X (st := [.ref (kZ K 31)]) (c_ordinal (o := 13) (by decide)) k_Jx29ce0_ordinal_8abf5 w_ml_X7_188 w_sm_596 w_se_X4_Jx29ce0_ordinal_8abf5 w_im_Jx29ce0_ordinal_8abf5 rfl (by decide +kernel) (zE_recv X (by decide)) (by rw [hR]; exact ⟨Nat.le_of_ble_eq_true rfl, Nat.le_of_ble_eq_true rfl⟩) rfl rfl (Nat.le_of_ble_eq_true rfl) dX7_performPlainly_28 rfl (⟨Nat.zero_le _, Nat.zero_le _⟩) ?_
  rintro _ _ ⟨rfl, rfl⟩
  refine v_ti (pc' := 32) X X.zMt (13) rfl (by decide) (by decide) (v := .int 23) (rfl) dX7_performPlainly_31 rfl ?_
  refine v_tableIn (off := 325) (tgt := 357) X dX7_performPlainly_32 (by decide) (by decide) (by decide) (by decide) ?_
  refine v_aload (pc' := 359) (j := 3) X dX7_performPlainly_357 rfl rfl ?_
  refine v_iload (pc' := 361) (j := 2) X dX7_performPlainly_359 rfl rfl ?_
  refine v_aload_n (pc' := 362) (i := 0) (j := 4) X dX7_performPlainly_361 rfl rfl rfl ?_
  refine fk_X7_26 (pc' := 365) X dX7_performPlainly_362 rfl ?_
  refine fk_X7_129 (pc' := 368) X dX7_performPlainly_365 rfl ?_
  refine v_aload (pc' := 370) (j := 3) X dX7_performPlainly_368 rfl rfl ?_
  refine v_iload (pc' := 372) (j := 1) X dX7_performPlainly_370 rfl rfl ?_
  refine ak_G8 (pc' := 373) X hi h16 (v := M.2 (tb i + 8) (nn y)) (nn y) hy1 (by omega) rfl dX7_performPlainly_372 rfl ?_
  refine v_callS (pc' := 376) X (st := [.ref (ad (15)), .int x, .ref (ad (tb i + 8))]) (c_X7_placeOf (n := n) (s := s) (cp := cp) (cq := cq) (ad := ad) (M := M) (v := M.2 (tb i + 8) (nn y))) k_X7_placeOf w_ml_X7_279 w_st_X7_placeOf (by rw [hR]; exact ⟨Nat.le_of_ble_eq_true rfl, Nat.le_of_ble_eq_true rfl⟩) rfl rfl (Nat.le_of_ble_eq_true rfl) dX7_performPlainly_373 rfl (⟨Nat.zero_le _, Nat.zero_le _⟩) ?_
  rintro _ _ ⟨rfl, rfl⟩
  refine ak_K15 (pc' := 377) X (v := M.2 15 (pl (M.2 (tb i + 8) (nn y)))) (pl (M.2 (tb i + 8) (nn y))) hp2 (by omega) rfl dX7_performPlainly_376 rfl ?_
  refine aq_G8 (pc' := 378) X hi h16 (nn x) hx1 (by omega) dX7_performPlainly_377 rfl ?_
  refine v_goto (pc' := 500) X dX7_performPlainly_378 (by decide) ?_
  refine v_return X R (Nat.zero_le _) (Nat.zero_le _) dX7_performPlainly_500 ?_
  exact ⟨rfl, rfl⟩
set_option maxHeartbeats 4000000 in
set_option maxRecDepth 100000 in
theorem c_X7_plain_14 {l : Launch} {D : va_G} {Y : Nat → ClassId} {zz : Nat → Nat} {n s cp cq : Nat} {ad : Nat → Nat} {M : vM} {i : Nat} (hi : i < n) (h16 : i < 16) {k9 : Nat} (hk9 : k9 < s) {x y z : Int32} (hx : M.1 (ib k9) 1 = x) (hy : M.1 (ib k9) 2 = y) (hz9 : M.1 (ib k9) 3 = z) (hp : plOk (M.2 (tb i + 8) (nn y))) (hx1 : x = nI (nn x)) (hx2 : nn x < 16) (hy1 : y = nI (nn y)) (hy2 : nn y < 16)  : Ct l D Y zz yX7_performPlainly cX7_performPlainly 8 none 1 21 [.ref (ad (0)), .ref (ad (tb i)), .ref (zz 14), .ref (ad (ib k9))] (wK Y n s cp cq ad M) 0 0 (fun r w => r = none ∧ w = wK Y n s cp cq ad (mL M (tb i + 8) (nn x) (M.2 16 (pl (M.2 (tb i + 8) (nn y)))))) := by
  refine v_entry (by decide +kernel) (Nat.le_of_ble_eq_true rfl) ?_
  intro K X R hR hnm hl hD hY hz
  subst hl hD hY hz
  refine v_sub (lv' := [(0, .ref (ad (0))), (1, .ref (ad (tb i))), (2, .ref (kZ K 14)), (3, .ref (ad (ib k9)))]) [0, 1, 2, 3] rfl ?_
  have hp1 := hp.1
  have hp2 := hp.2
  refine v_aload_n (pc' := 1) (i := 1) (j := 1) X dX7_performPlainly_0 rfl rfl rfl ?_
  refine fk_X7_119 (pc' := 4) X hi h16 dX7_performPlainly_1 rfl ?_
  refine v_astore (pc' := 6) (lv' := [(4, .ref (ad (tb i + 8))), (0, .ref (ad (0))), (1, .ref (ad (tb i))), (2, .ref (kZ K 14)), (3, .ref (ad (ib k9)))]) X dX7_performPlainly_4 (by decide) rfl rfl ?_
  refine v_aload_n (pc' := 7) (i := 3) (j := 4) X dX7_performPlainly_6 rfl rfl rfl ?_
  refine fk_X7_191 (pc' := 10) X hk9 (v := x) hx dX7_performPlainly_7 rfl ?_
  refine v_istore (pc' := 12) (lv' := [(5, .int x), (4, .ref (ad (tb i + 8))), (0, .ref (ad (0))), (1, .ref (ad (tb i))), (2, .ref (kZ K 14)), (3, .ref (ad (ib k9)))]) X dX7_performPlainly_10 (by decide) rfl rfl ?_
  refine v_aload_n (pc' := 13) (i := 3) (j := 5) X dX7_performPlainly_12 rfl rfl rfl ?_
  refine fk_X7_194 (pc' := 16) X hk9 (v := y) hy dX7_performPlainly_13 rfl ?_
  refine v_istore (pc' := 18) (lv' := [(6, .int y), (5, .int x), (4, .ref (ad (tb i + 8))), (0, .ref (ad (0))), (1, .ref (ad (tb i))), (2, .ref (kZ K 14)), (3, .ref (ad (ib k9)))]) X dX7_performPlainly_16 (by decide) rfl rfl ?_
  refine v_aload_n (pc' := 19) (i := 3) (j := 6) X dX7_performPlainly_18 rfl rfl rfl ?_
  refine fk_X7_247 (pc' := 22) X hk9 (v := z) hz9 dX7_performPlainly_19 rfl ?_
  refine v_istore (pc' := 24) (lv' := [(7, .int z), (6, .int y), (5, .int x), (4, .ref (ad (tb i + 8))), (0, .ref (ad (0))), (1, .ref (ad (tb i))), (2, .ref (kZ K 14)), (3, .ref (ad (ib k9)))]) X dX7_performPlainly_22 (by decide) rfl rfl ?_
  refine v_gets (pc' := 27) X X.zM w_fl_X7_183 rfl dX7_performPlainly_24 rfl ?_
  refine v_aload_n (pc' := 28) (i := 2) (j := 6) X dX7_performPlainly_27 rfl rfl rfl ?_
  refine v_callU (pc' := 31) X (st := [.ref (kZ K 31)]) (c_ordinal (o := 14) (by decide)) k_Jx29ce0_ordinal_8abf5 w_ml_X7_188 w_sm_596 w_se_X4_Jx29ce0_ordinal_8abf5 w_im_Jx29ce0_ordinal_8abf5 rfl (by decide +kernel) (zE_recv X (by decide)) (by rw [hR]; exact ⟨Nat.le_of_ble_eq_true rfl, Nat.le_of_ble_eq_true rfl⟩) rfl rfl (Nat.le_of_ble_eq_true rfl) dX7_performPlainly_28 rfl (⟨Nat.zero_le _, Nat.zero_le _⟩) ?_
  rintro _ _ ⟨rfl, rfl⟩
  refine v_ti (pc' := 32) X X.zMt (14) rfl (by decide) (by decide) (v := .int 24) (rfl) dX7_performPlainly_31 rfl ?_
  refine v_tableIn (off := 349) (tgt := 381) X dX7_performPlainly_32 (by decide) (by decide) (by decide) (by decide) ?_
  refine v_aload (pc' := 383) (j := 3) X dX7_performPlainly_381 rfl rfl ?_
  refine v_iload (pc' := 385) (j := 2) X dX7_performPlainly_383 rfl rfl ?_
  refine v_aload_n (pc' := 386) (i := 0) (j := 4) X dX7_performPlainly_385 rfl rfl rfl ?_
  refine fk_X7_26 (pc' := 389) X dX7_performPlainly_386 rfl ?_
  refine fk_X7_132 (pc' := 392) X dX7_performPlainly_389 rfl ?_
  refine v_aload (pc' := 394) (j := 3) X dX7_performPlainly_392 rfl rfl ?_
  refine v_iload (pc' := 396) (j := 1) X dX7_performPlainly_394 rfl rfl ?_
  refine ak_G8 (pc' := 397) X hi h16 (v := M.2 (tb i + 8) (nn y)) (nn y) hy1 (by omega) rfl dX7_performPlainly_396 rfl ?_
  refine v_callS (pc' := 400) X (st := [.ref (ad (16)), .int x, .ref (ad (tb i + 8))]) (c_X7_placeOf (n := n) (s := s) (cp := cp) (cq := cq) (ad := ad) (M := M) (v := M.2 (tb i + 8) (nn y))) k_X7_placeOf w_ml_X7_279 w_st_X7_placeOf (by rw [hR]; exact ⟨Nat.le_of_ble_eq_true rfl, Nat.le_of_ble_eq_true rfl⟩) rfl rfl (Nat.le_of_ble_eq_true rfl) dX7_performPlainly_397 rfl (⟨Nat.zero_le _, Nat.zero_le _⟩) ?_
  rintro _ _ ⟨rfl, rfl⟩
  refine ak_K16 (pc' := 401) X (v := M.2 16 (pl (M.2 (tb i + 8) (nn y)))) (pl (M.2 (tb i + 8) (nn y))) hp2 (by omega) rfl dX7_performPlainly_400 rfl ?_
  refine aq_G8 (pc' := 402) X hi h16 (nn x) hx1 (by omega) dX7_performPlainly_401 rfl ?_
  refine v_goto (pc' := 500) X dX7_performPlainly_402 (by decide) ?_
  refine v_return X R (Nat.zero_le _) (Nat.zero_le _) dX7_performPlainly_500 ?_
  exact ⟨rfl, rfl⟩
set_option maxHeartbeats 4000000 in
set_option maxRecDepth 100000 in
theorem c_X7_plain_15 {l : Launch} {D : va_G} {Y : Nat → ClassId} {zz : Nat → Nat} {n s cp cq : Nat} {ad : Nat → Nat} {M : vM} {i : Nat} (hi : i < n) (h16 : i < 16) {k9 : Nat} (hk9 : k9 < s) {x y z : Int32} (hx : M.1 (ib k9) 1 = x) (hy : M.1 (ib k9) 2 = y) (hz9 : M.1 (ib k9) 3 = z) {us : Nat} (h5 : M.1 1 5 = nI us) (hu : us < 200) (hx1 : x = nI (nn x)) (hx2 : nn x < 16) (hy1 : y = nI (nn y)) (hy2 : nn y < 16)  : Ct l D Y zz yX7_performPlainly cX7_performPlainly 8 none 2 48 [.ref (ad (0)), .ref (ad (tb i)), .ref (zz 15), .ref (ad (ib k9))] (wK Y n s cp cq ad M) 0 0 (fun r w => r = none ∧ w = wK Y n s cp cq ad (mL (gFill M us 2 (M.2 (tb i + 8) (nn y)) 0) (tb i + 8) (nn x) (17179869184 + lN us))) := by
  refine v_entry (by decide +kernel) (Nat.le_of_ble_eq_true rfl) ?_
  intro K X R hR hnm hl hD hY hz
  subst hl hD hY hz
  refine v_sub (lv' := [(0, .ref (ad (0))), (1, .ref (ad (tb i))), (2, .ref (kZ K 15)), (3, .ref (ad (ib k9)))]) [0, 1, 2, 3] rfl ?_
  refine v_aload_n (pc' := 1) (i := 1) (j := 1) X dX7_performPlainly_0 rfl rfl rfl ?_
  refine fk_X7_119 (pc' := 4) X hi h16 dX7_performPlainly_1 rfl ?_
  refine v_astore (pc' := 6) (lv' := [(4, .ref (ad (tb i + 8))), (0, .ref (ad (0))), (1, .ref (ad (tb i))), (2, .ref (kZ K 15)), (3, .ref (ad (ib k9)))]) X dX7_performPlainly_4 (by decide) rfl rfl ?_
  refine v_aload_n (pc' := 7) (i := 3) (j := 4) X dX7_performPlainly_6 rfl rfl rfl ?_
  refine fk_X7_191 (pc' := 10) X hk9 (v := x) hx dX7_performPlainly_7 rfl ?_
  refine v_istore (pc' := 12) (lv' := [(5, .int x), (4, .ref (ad (tb i + 8))), (0, .ref (ad (0))), (1, .ref (ad (tb i))), (2, .ref (kZ K 15)), (3, .ref (ad (ib k9)))]) X dX7_performPlainly_10 (by decide) rfl rfl ?_
  refine v_aload_n (pc' := 13) (i := 3) (j := 5) X dX7_performPlainly_12 rfl rfl rfl ?_
  refine fk_X7_194 (pc' := 16) X hk9 (v := y) hy dX7_performPlainly_13 rfl ?_
  refine v_istore (pc' := 18) (lv' := [(6, .int y), (5, .int x), (4, .ref (ad (tb i + 8))), (0, .ref (ad (0))), (1, .ref (ad (tb i))), (2, .ref (kZ K 15)), (3, .ref (ad (ib k9)))]) X dX7_performPlainly_16 (by decide) rfl rfl ?_
  refine v_aload_n (pc' := 19) (i := 3) (j := 6) X dX7_performPlainly_18 rfl rfl rfl ?_
  refine fk_X7_247 (pc' := 22) X hk9 (v := z) hz9 dX7_performPlainly_19 rfl ?_
  refine v_istore (pc' := 24) (lv' := [(7, .int z), (6, .int y), (5, .int x), (4, .ref (ad (tb i + 8))), (0, .ref (ad (0))), (1, .ref (ad (tb i))), (2, .ref (kZ K 15)), (3, .ref (ad (ib k9)))]) X dX7_performPlainly_22 (by decide) rfl rfl ?_
  refine v_gets (pc' := 27) X X.zM w_fl_X7_183 rfl dX7_performPlainly_24 rfl ?_
  refine v_aload_n (pc' := 28) (i := 2) (j := 6) X dX7_performPlainly_27 rfl rfl rfl ?_
  refine v_callU (pc' := 31) X (st := [.ref (kZ K 31)]) (c_ordinal (o := 15) (by decide)) k_Jx29ce0_ordinal_8abf5 w_ml_X7_188 w_sm_596 w_se_X4_Jx29ce0_ordinal_8abf5 w_im_Jx29ce0_ordinal_8abf5 rfl (by decide +kernel) (zE_recv X (by decide)) (by rw [hR]; exact ⟨Nat.le_of_ble_eq_true rfl, Nat.le_of_ble_eq_true rfl⟩) rfl rfl (Nat.le_of_ble_eq_true rfl) dX7_performPlainly_28 rfl (⟨Nat.zero_le _, Nat.zero_le _⟩) ?_
  rintro _ _ ⟨rfl, rfl⟩
  refine v_ti (pc' := 32) X X.zMt (15) rfl (by decide) (by decide) (v := .int 25) (rfl) dX7_performPlainly_31 rfl ?_
  refine v_tableIn (off := 373) (tgt := 405) X dX7_performPlainly_32 (by decide) (by decide) (by decide) (by decide) ?_
  refine v_aload (pc' := 407) (j := 3) X dX7_performPlainly_405 rfl rfl ?_
  refine v_iload (pc' := 409) (j := 2) X dX7_performPlainly_407 rfl rfl ?_
  refine v_aload_n (pc' := 410) (i := 0) (j := 4) X dX7_performPlainly_409 rfl rfl rfl ?_
  refine fk_X7_26 (pc' := 413) X dX7_performPlainly_410 rfl ?_
  refine v_aload (pc' := 415) (j := 3) X dX7_performPlainly_413 rfl rfl ?_
  refine v_iload (pc' := 417) (j := 1) X dX7_performPlainly_415 rfl rfl ?_
  refine ak_G8 (pc' := 418) X hi h16 (v := M.2 (tb i + 8) (nn y)) (nn y) hy1 (by omega) rfl dX7_performPlainly_417 rfl ?_
  refine v_callVN (pc' := 421) X (st := [.int x, .ref (ad (tb i + 8))]) (c_X1_newVar (M := M) h5 hu (v1 := M.2 (tb i + 8) (nn y))) k_X1_newVar n_ml_X7_282 w_im_X1_newVar w_se_X1_X1_newVar rw_X1 (by rw [hR]; exact ⟨Nat.le_of_ble_eq_true rfl, Nat.le_of_ble_eq_true rfl⟩) rfl rfl (Nat.le_of_ble_eq_true rfl) dX7_performPlainly_418 rfl (⟨Nat.zero_le _, Nat.zero_le _⟩) ?_
  rintro _ _ ⟨rfl, rfl⟩
  refine aq_G8 (pc' := 422) X hi h16 (nn x) hx1 (by omega) dX7_performPlainly_421 rfl ?_
  refine v_goto (pc' := 500) X dX7_performPlainly_422 (by decide) ?_
  refine v_return X R (Nat.zero_le _) (Nat.zero_le _) dX7_performPlainly_500 ?_
  exact ⟨rfl, rfl⟩
set_option maxHeartbeats 4000000 in
set_option maxRecDepth 100000 in
theorem c_X7_plain_26 {l : Launch} {D : va_G} {Y : Nat → ClassId} {zz : Nat → Nat} {n s cp cq : Nat} {ad : Nat → Nat} {M : vM} {i : Nat} (hi : i < n) (h16 : i < 16) {k9 : Nat} (hk9 : k9 < s) {x y z : Int32} (hx : M.1 (ib k9) 1 = x) (hy : M.1 (ib k9) 2 = y) (hz9 : M.1 (ib k9) 3 = z) {od pd : Nat} (h1 : M.1 2 1 = nI od) (hod : od < 200) (h2 : M.1 2 2 = nI pd) (hpd : pd ≤ 200) (hx1 : x = nI (nn x)) (hx2 : nn x < 16)  : Ct l D Y zz yX7_performPlainly cX7_performPlainly 8 none 1 21 [.ref (ad (0)), .ref (ad (tb i)), .ref (zz 26), .ref (ad (ib k9))] (wK Y n s cp cq ad M) 0 0 (fun r w => r = none ∧ w = wK Y n s cp cq ad (gPrint M od pd (M.2 (tb i + 8) (nn x)).toInt32)) := by
  refine v_entry (by decide +kernel) (Nat.le_of_ble_eq_true rfl) ?_
  intro K X R hR hnm hl hD hY hz
  subst hl hD hY hz
  refine v_sub (lv' := [(0, .ref (ad (0))), (1, .ref (ad (tb i))), (2, .ref (kZ K 26)), (3, .ref (ad (ib k9)))]) [0, 1, 2, 3] rfl ?_
  refine v_aload_n (pc' := 1) (i := 1) (j := 1) X dX7_performPlainly_0 rfl rfl rfl ?_
  refine fk_X7_119 (pc' := 4) X hi h16 dX7_performPlainly_1 rfl ?_
  refine v_astore (pc' := 6) (lv' := [(4, .ref (ad (tb i + 8))), (0, .ref (ad (0))), (1, .ref (ad (tb i))), (2, .ref (kZ K 26)), (3, .ref (ad (ib k9)))]) X dX7_performPlainly_4 (by decide) rfl rfl ?_
  refine v_aload_n (pc' := 7) (i := 3) (j := 4) X dX7_performPlainly_6 rfl rfl rfl ?_
  refine fk_X7_191 (pc' := 10) X hk9 (v := x) hx dX7_performPlainly_7 rfl ?_
  refine v_istore (pc' := 12) (lv' := [(5, .int x), (4, .ref (ad (tb i + 8))), (0, .ref (ad (0))), (1, .ref (ad (tb i))), (2, .ref (kZ K 26)), (3, .ref (ad (ib k9)))]) X dX7_performPlainly_10 (by decide) rfl rfl ?_
  refine v_aload_n (pc' := 13) (i := 3) (j := 5) X dX7_performPlainly_12 rfl rfl rfl ?_
  refine fk_X7_194 (pc' := 16) X hk9 (v := y) hy dX7_performPlainly_13 rfl ?_
  refine v_istore (pc' := 18) (lv' := [(6, .int y), (5, .int x), (4, .ref (ad (tb i + 8))), (0, .ref (ad (0))), (1, .ref (ad (tb i))), (2, .ref (kZ K 26)), (3, .ref (ad (ib k9)))]) X dX7_performPlainly_16 (by decide) rfl rfl ?_
  refine v_aload_n (pc' := 19) (i := 3) (j := 6) X dX7_performPlainly_18 rfl rfl rfl ?_
  refine fk_X7_247 (pc' := 22) X hk9 (v := z) hz9 dX7_performPlainly_19 rfl ?_
  refine v_istore (pc' := 24) (lv' := [(7, .int z), (6, .int y), (5, .int x), (4, .ref (ad (tb i + 8))), (0, .ref (ad (0))), (1, .ref (ad (tb i))), (2, .ref (kZ K 26)), (3, .ref (ad (ib k9)))]) X dX7_performPlainly_22 (by decide) rfl rfl ?_
  refine v_gets (pc' := 27) X X.zM w_fl_X7_183 rfl dX7_performPlainly_24 rfl ?_
  refine v_aload_n (pc' := 28) (i := 2) (j := 6) X dX7_performPlainly_27 rfl rfl rfl ?_
  refine v_callU (pc' := 31) X (st := [.ref (kZ K 31)]) (c_ordinal (o := 26) (by decide)) k_Jx29ce0_ordinal_8abf5 w_ml_X7_188 w_sm_596 w_se_X4_Jx29ce0_ordinal_8abf5 w_im_Jx29ce0_ordinal_8abf5 rfl (by decide +kernel) (zE_recv X (by decide)) (by rw [hR]; exact ⟨Nat.le_of_ble_eq_true rfl, Nat.le_of_ble_eq_true rfl⟩) rfl rfl (Nat.le_of_ble_eq_true rfl) dX7_performPlainly_28 rfl (⟨Nat.zero_le _, Nat.zero_le _⟩) ?_
  rintro _ _ ⟨rfl, rfl⟩
  refine v_ti (pc' := 32) X X.zMt (26) rfl (by decide) (by decide) (v := .int 27) (rfl) dX7_performPlainly_31 rfl ?_
  refine v_tableIn (off := 405) (tgt := 437) X dX7_performPlainly_32 (by decide) (by decide) (by decide) (by decide) ?_
  refine v_aload_n (pc' := 438) (i := 0) (j := 4) X dX7_performPlainly_437 rfl rfl rfl ?_
  refine fk_X7_33 (pc' := 441) X dX7_performPlainly_438 rfl ?_
  refine v_aload (pc' := 443) (j := 3) X dX7_performPlainly_441 rfl rfl ?_
  refine v_iload (pc' := 445) (j := 2) X dX7_performPlainly_443 rfl rfl ?_
  refine ak_G8 (pc' := 446) X hi h16 (v := M.2 (tb i + 8) (nn x)) (nn x) hx1 (by omega) rfl dX7_performPlainly_445 rfl ?_
  refine v_l2i (pc' := 447) X dX7_performPlainly_446 rfl rfl ?_
  refine v_callVN (pc' := 450) X (st := []) (c_X5_append (M := M) h1 hod h2 hpd (v := (M.2 (tb i + 8) (nn x)).toInt32)) k_X5_append n_ml_X7_290 w_im_X5_append w_se_X5_X5_append rw_X5 (by rw [hR]; exact ⟨Nat.le_of_ble_eq_true rfl, Nat.le_of_ble_eq_true rfl⟩) rfl rfl (Nat.le_of_ble_eq_true rfl) dX7_performPlainly_447 rfl (⟨Nat.zero_le _, Nat.zero_le _⟩) ?_
  rintro _ _ ⟨rfl, rfl⟩
  refine v_goto (pc' := 500) X dX7_performPlainly_450 (by decide) ?_
  refine v_return X R (Nat.zero_le _) (Nat.zero_le _) dX7_performPlainly_500 ?_
  exact ⟨rfl, rfl⟩
set_option maxHeartbeats 4000000 in
set_option maxRecDepth 100000 in
theorem c_X7_plain_27 {l : Launch} {D : va_G} {Y : Nat → ClassId} {zz : Nat → Nat} {n s cp cq : Nat} {ad : Nat → Nat} {M : vM} {i : Nat} (hi : i < n) (h16 : i < 16) {k9 : Nat} (hk9 : k9 < s) {x y z : Int32} (hx : M.1 (ib k9) 1 = x) (hy : M.1 (ib k9) 2 = y) (hz9 : M.1 (ib k9) 3 = z) (hx1 : x = nI (nn x)) (hx2 : nn x < 8) (hy1 : y = nI (nn y)) (hy2 : nn y < 16)  : Ct l D Y zz yX7_performPlainly cX7_performPlainly 8 none 1 20 [.ref (ad (0)), .ref (ad (tb i)), .ref (zz 27), .ref (ad (ib k9))] (wK Y n s cp cq ad M) 0 0 (fun r w => r = none ∧ w = wK Y n s cp cq ad (mL M 14 (nn x) (M.2 (tb i + 8) (nn y)))) := by
  refine v_entry (by decide +kernel) (Nat.le_of_ble_eq_true rfl) ?_
  intro K X R hR hnm hl hD hY hz
  subst hl hD hY hz
  refine v_sub (lv' := [(0, .ref (ad (0))), (1, .ref (ad (tb i))), (2, .ref (kZ K 27)), (3, .ref (ad (ib k9)))]) [0, 1, 2, 3] rfl ?_
  refine v_aload_n (pc' := 1) (i := 1) (j := 1) X dX7_performPlainly_0 rfl rfl rfl ?_
  refine fk_X7_119 (pc' := 4) X hi h16 dX7_performPlainly_1 rfl ?_
  refine v_astore (pc' := 6) (lv' := [(4, .ref (ad (tb i + 8))), (0, .ref (ad (0))), (1, .ref (ad (tb i))), (2, .ref (kZ K 27)), (3, .ref (ad (ib k9)))]) X dX7_performPlainly_4 (by decide) rfl rfl ?_
  refine v_aload_n (pc' := 7) (i := 3) (j := 4) X dX7_performPlainly_6 rfl rfl rfl ?_
  refine fk_X7_191 (pc' := 10) X hk9 (v := x) hx dX7_performPlainly_7 rfl ?_
  refine v_istore (pc' := 12) (lv' := [(5, .int x), (4, .ref (ad (tb i + 8))), (0, .ref (ad (0))), (1, .ref (ad (tb i))), (2, .ref (kZ K 27)), (3, .ref (ad (ib k9)))]) X dX7_performPlainly_10 (by decide) rfl rfl ?_
  refine v_aload_n (pc' := 13) (i := 3) (j := 5) X dX7_performPlainly_12 rfl rfl rfl ?_
  refine fk_X7_194 (pc' := 16) X hk9 (v := y) hy dX7_performPlainly_13 rfl ?_
  refine v_istore (pc' := 18) (lv' := [(6, .int y), (5, .int x), (4, .ref (ad (tb i + 8))), (0, .ref (ad (0))), (1, .ref (ad (tb i))), (2, .ref (kZ K 27)), (3, .ref (ad (ib k9)))]) X dX7_performPlainly_16 (by decide) rfl rfl ?_
  refine v_aload_n (pc' := 19) (i := 3) (j := 6) X dX7_performPlainly_18 rfl rfl rfl ?_
  refine fk_X7_247 (pc' := 22) X hk9 (v := z) hz9 dX7_performPlainly_19 rfl ?_
  refine v_istore (pc' := 24) (lv' := [(7, .int z), (6, .int y), (5, .int x), (4, .ref (ad (tb i + 8))), (0, .ref (ad (0))), (1, .ref (ad (tb i))), (2, .ref (kZ K 27)), (3, .ref (ad (ib k9)))]) X dX7_performPlainly_22 (by decide) rfl rfl ?_
  refine v_gets (pc' := 27) X X.zM w_fl_X7_183 rfl dX7_performPlainly_24 rfl ?_
  refine v_aload_n (pc' := 28) (i := 2) (j := 6) X dX7_performPlainly_27 rfl rfl rfl ?_
  refine v_callU (pc' := 31) X (st := [.ref (kZ K 31)]) (c_ordinal (o := 27) (by decide)) k_Jx29ce0_ordinal_8abf5 w_ml_X7_188 w_sm_596 w_se_X4_Jx29ce0_ordinal_8abf5 w_im_Jx29ce0_ordinal_8abf5 rfl (by decide +kernel) (zE_recv X (by decide)) (by rw [hR]; exact ⟨Nat.le_of_ble_eq_true rfl, Nat.le_of_ble_eq_true rfl⟩) rfl rfl (Nat.le_of_ble_eq_true rfl) dX7_performPlainly_28 rfl (⟨Nat.zero_le _, Nat.zero_le _⟩) ?_
  rintro _ _ ⟨rfl, rfl⟩
  refine v_ti (pc' := 32) X X.zMt (27) rfl (by decide) (by decide) (v := .int 28) (rfl) dX7_performPlainly_31 rfl ?_
  refine v_tableIn (off := 421) (tgt := 453) X dX7_performPlainly_32 (by decide) (by decide) (by decide) (by decide) ?_
  refine v_aload_n (pc' := 454) (i := 0) (j := 4) X dX7_performPlainly_453 rfl rfl rfl ?_
  refine fk_X7_19 (pc' := 457) X dX7_performPlainly_454 rfl ?_
  refine v_iload (pc' := 459) (j := 2) X dX7_performPlainly_457 rfl rfl ?_
  refine v_aload (pc' := 461) (j := 3) X dX7_performPlainly_459 rfl rfl ?_
  refine v_iload (pc' := 463) (j := 1) X dX7_performPlainly_461 rfl rfl ?_
  refine ak_G8 (pc' := 464) X hi h16 (v := M.2 (tb i + 8) (nn y)) (nn y) hy1 (by omega) rfl dX7_performPlainly_463 rfl ?_
  refine aq_K14 (pc' := 465) X (nn x) hx1 (by omega) dX7_performPlainly_464 rfl ?_
  refine v_goto (pc' := 500) X dX7_performPlainly_465 (by decide) ?_
  refine v_return X R (Nat.zero_le _) (Nat.zero_le _) dX7_performPlainly_500 ?_
  exact ⟨rfl, rfl⟩
set_option maxHeartbeats 4000000 in
set_option maxRecDepth 100000 in
theorem c_X7_plain_28 {l : Launch} {D : va_G} {Y : Nat → ClassId} {zz : Nat → Nat} {n s cp cq : Nat} {ad : Nat → Nat} {M : vM} {i : Nat} (hi : i < n) (h16 : i < 16) {k9 : Nat} (hk9 : k9 < s) {x y z : Int32} (hx : M.1 (ib k9) 1 = x) (hy : M.1 (ib k9) 2 = y) (hz9 : M.1 (ib k9) 3 = z) (hx1 : x = nI (nn x)) (hx2 : nn x < 16) (hy1 : y = nI (nn y)) (hy2 : nn y < 8)  : Ct l D Y zz yX7_performPlainly cX7_performPlainly 8 none 1 20 [.ref (ad (0)), .ref (ad (tb i)), .ref (zz 28), .ref (ad (ib k9))] (wK Y n s cp cq ad M) 0 0 (fun r w => r = none ∧ w = wK Y n s cp cq ad (mL M (tb i + 8) (nn x) (M.2 14 (nn y)))) := by
  refine v_entry (by decide +kernel) (Nat.le_of_ble_eq_true rfl) ?_
  intro K X R hR hnm hl hD hY hz
  subst hl hD hY hz
  refine v_sub (lv' := [(0, .ref (ad (0))), (1, .ref (ad (tb i))), (2, .ref (kZ K 28)), (3, .ref (ad (ib k9)))]) [0, 1, 2, 3] rfl ?_
  refine v_aload_n (pc' := 1) (i := 1) (j := 1) X dX7_performPlainly_0 rfl rfl rfl ?_
  refine fk_X7_119 (pc' := 4) X hi h16 dX7_performPlainly_1 rfl ?_
  refine v_astore (pc' := 6) (lv' := [(4, .ref (ad (tb i + 8))), (0, .ref (ad (0))), (1, .ref (ad (tb i))), (2, .ref (kZ K 28)), (3, .ref (ad (ib k9)))]) X dX7_performPlainly_4 (by decide) rfl rfl ?_
  refine v_aload_n (pc' := 7) (i := 3) (j := 4) X dX7_performPlainly_6 rfl rfl rfl ?_
  refine fk_X7_191 (pc' := 10) X hk9 (v := x) hx dX7_performPlainly_7 rfl ?_
  refine v_istore (pc' := 12) (lv' := [(5, .int x), (4, .ref (ad (tb i + 8))), (0, .ref (ad (0))), (1, .ref (ad (tb i))), (2, .ref (kZ K 28)), (3, .ref (ad (ib k9)))]) X dX7_performPlainly_10 (by decide) rfl rfl ?_
  refine v_aload_n (pc' := 13) (i := 3) (j := 5) X dX7_performPlainly_12 rfl rfl rfl ?_
  refine fk_X7_194 (pc' := 16) X hk9 (v := y) hy dX7_performPlainly_13 rfl ?_
  refine v_istore (pc' := 18) (lv' := [(6, .int y), (5, .int x), (4, .ref (ad (tb i + 8))), (0, .ref (ad (0))), (1, .ref (ad (tb i))), (2, .ref (kZ K 28)), (3, .ref (ad (ib k9)))]) X dX7_performPlainly_16 (by decide) rfl rfl ?_
  refine v_aload_n (pc' := 19) (i := 3) (j := 6) X dX7_performPlainly_18 rfl rfl rfl ?_
  refine fk_X7_247 (pc' := 22) X hk9 (v := z) hz9 dX7_performPlainly_19 rfl ?_
  refine v_istore (pc' := 24) (lv' := [(7, .int z), (6, .int y), (5, .int x), (4, .ref (ad (tb i + 8))), (0, .ref (ad (0))), (1, .ref (ad (tb i))), (2, .ref (kZ K 28)), (3, .ref (ad (ib k9)))]) X dX7_performPlainly_22 (by decide) rfl rfl ?_
  refine v_gets (pc' := 27) X X.zM w_fl_X7_183 rfl dX7_performPlainly_24 rfl ?_
  refine v_aload_n (pc' := 28) (i := 2) (j := 6) X dX7_performPlainly_27 rfl rfl rfl ?_
  refine v_callU (pc' := 31) X (st := [.ref (kZ K 31)]) (c_ordinal (o := 28) (by decide)) k_Jx29ce0_ordinal_8abf5 w_ml_X7_188 w_sm_596 w_se_X4_Jx29ce0_ordinal_8abf5 w_im_Jx29ce0_ordinal_8abf5 rfl (by decide +kernel) (zE_recv X (by decide)) (by rw [hR]; exact ⟨Nat.le_of_ble_eq_true rfl, Nat.le_of_ble_eq_true rfl⟩) rfl rfl (Nat.le_of_ble_eq_true rfl) dX7_performPlainly_28 rfl (⟨Nat.zero_le _, Nat.zero_le _⟩) ?_
  rintro _ _ ⟨rfl, rfl⟩
  refine v_ti (pc' := 32) X X.zMt (28) rfl (by decide) (by decide) (v := .int 29) (rfl) dX7_performPlainly_31 rfl ?_
  refine v_tableIn (off := 436) (tgt := 468) X dX7_performPlainly_32 (by decide) (by decide) (by decide) (by decide) ?_
  refine v_aload (pc' := 470) (j := 3) X dX7_performPlainly_468 rfl rfl ?_
  refine v_iload (pc' := 472) (j := 2) X dX7_performPlainly_470 rfl rfl ?_
  refine v_aload_n (pc' := 473) (i := 0) (j := 4) X dX7_performPlainly_472 rfl rfl rfl ?_
  refine fk_X7_19 (pc' := 476) X dX7_performPlainly_473 rfl ?_
  refine v_iload (pc' := 478) (j := 1) X dX7_performPlainly_476 rfl rfl ?_
  refine ak_K14 (pc' := 479) X (v := M.2 14 (nn y)) (nn y) hy1 (by omega) rfl dX7_performPlainly_478 rfl ?_
  refine aq_G8 (pc' := 480) X hi h16 (nn x) hx1 (by omega) dX7_performPlainly_479 rfl ?_
  refine v_goto (pc' := 500) X dX7_performPlainly_480 (by decide) ?_
  refine v_return X R (Nat.zero_le _) (Nat.zero_le _) dX7_performPlainly_500 ?_
  exact ⟨rfl, rfl⟩
set_option maxHeartbeats 4000000 in
set_option maxRecDepth 100000 in
theorem c_X7_plain_29 {l : Launch} {D : va_G} {Y : Nat → ClassId} {zz : Nat → Nat} {n s cp cq : Nat} {ad : Nat → Nat} {M : vM} {i : Nat} (hi : i < n) (h16 : i < 16) {k9 : Nat} (hk9 : k9 < s) {x y z : Int32} (hx : M.1 (ib k9) 1 = x) (hy : M.1 (ib k9) 2 = y) (hz9 : M.1 (ib k9) 3 = z) (hx1 : x = nI (nn x)) (hx2 : nn x < 16) (hy1 : y = nI (nn y)) (hy2 : nn y < 16)  : Ct l D Y zz yX7_performPlainly cX7_performPlainly 8 none 1 21 [.ref (ad (0)), .ref (ad (tb i)), .ref (zz 29), .ref (ad (ib k9))] (wK Y n s cp cq ad M) 0 0 (fun r w => r = none ∧ w = wK Y n s cp cq ad (mL M (tb i + 8) (nn x) ((if 17179869184 ≤ M.2 (tb i + 8) (nn y) then (2 : Int32) else if 8589934592 ≤ M.2 (tb i + 8) (nn y) then 1 else 0).toInt64))) := by
  refine v_entry (by decide +kernel) (Nat.le_of_ble_eq_true rfl) ?_
  intro K X R hR hnm hl hD hY hz
  subst hl hD hY hz
  refine v_sub (lv' := [(0, .ref (ad (0))), (1, .ref (ad (tb i))), (2, .ref (kZ K 29)), (3, .ref (ad (ib k9)))]) [0, 1, 2, 3] rfl ?_
  refine v_aload_n (pc' := 1) (i := 1) (j := 1) X dX7_performPlainly_0 rfl rfl rfl ?_
  refine fk_X7_119 (pc' := 4) X hi h16 dX7_performPlainly_1 rfl ?_
  refine v_astore (pc' := 6) (lv' := [(4, .ref (ad (tb i + 8))), (0, .ref (ad (0))), (1, .ref (ad (tb i))), (2, .ref (kZ K 29)), (3, .ref (ad (ib k9)))]) X dX7_performPlainly_4 (by decide) rfl rfl ?_
  refine v_aload_n (pc' := 7) (i := 3) (j := 4) X dX7_performPlainly_6 rfl rfl rfl ?_
  refine fk_X7_191 (pc' := 10) X hk9 (v := x) hx dX7_performPlainly_7 rfl ?_
  refine v_istore (pc' := 12) (lv' := [(5, .int x), (4, .ref (ad (tb i + 8))), (0, .ref (ad (0))), (1, .ref (ad (tb i))), (2, .ref (kZ K 29)), (3, .ref (ad (ib k9)))]) X dX7_performPlainly_10 (by decide) rfl rfl ?_
  refine v_aload_n (pc' := 13) (i := 3) (j := 5) X dX7_performPlainly_12 rfl rfl rfl ?_
  refine fk_X7_194 (pc' := 16) X hk9 (v := y) hy dX7_performPlainly_13 rfl ?_
  refine v_istore (pc' := 18) (lv' := [(6, .int y), (5, .int x), (4, .ref (ad (tb i + 8))), (0, .ref (ad (0))), (1, .ref (ad (tb i))), (2, .ref (kZ K 29)), (3, .ref (ad (ib k9)))]) X dX7_performPlainly_16 (by decide) rfl rfl ?_
  refine v_aload_n (pc' := 19) (i := 3) (j := 6) X dX7_performPlainly_18 rfl rfl rfl ?_
  refine fk_X7_247 (pc' := 22) X hk9 (v := z) hz9 dX7_performPlainly_19 rfl ?_
  refine v_istore (pc' := 24) (lv' := [(7, .int z), (6, .int y), (5, .int x), (4, .ref (ad (tb i + 8))), (0, .ref (ad (0))), (1, .ref (ad (tb i))), (2, .ref (kZ K 29)), (3, .ref (ad (ib k9)))]) X dX7_performPlainly_22 (by decide) rfl rfl ?_
  refine v_gets (pc' := 27) X X.zM w_fl_X7_183 rfl dX7_performPlainly_24 rfl ?_
  refine v_aload_n (pc' := 28) (i := 2) (j := 6) X dX7_performPlainly_27 rfl rfl rfl ?_
  refine v_callU (pc' := 31) X (st := [.ref (kZ K 31)]) (c_ordinal (o := 29) (by decide)) k_Jx29ce0_ordinal_8abf5 w_ml_X7_188 w_sm_596 w_se_X4_Jx29ce0_ordinal_8abf5 w_im_Jx29ce0_ordinal_8abf5 rfl (by decide +kernel) (zE_recv X (by decide)) (by rw [hR]; exact ⟨Nat.le_of_ble_eq_true rfl, Nat.le_of_ble_eq_true rfl⟩) rfl rfl (Nat.le_of_ble_eq_true rfl) dX7_performPlainly_28 rfl (⟨Nat.zero_le _, Nat.zero_le _⟩) ?_
  rintro _ _ ⟨rfl, rfl⟩
  refine v_ti (pc' := 32) X X.zMt (29) rfl (by decide) (by decide) (v := .int 30) (rfl) dX7_performPlainly_31 rfl ?_
  refine v_tableIn (off := 451) (tgt := 483) X dX7_performPlainly_32 (by decide) (by decide) (by decide) (by decide) ?_
  refine v_aload (pc' := 485) (j := 3) X dX7_performPlainly_483 rfl rfl ?_
  refine v_iload (pc' := 487) (j := 2) X dX7_performPlainly_485 rfl rfl ?_
  refine v_aload (pc' := 489) (j := 3) X dX7_performPlainly_487 rfl rfl ?_
  refine v_iload (pc' := 491) (j := 1) X dX7_performPlainly_489 rfl rfl ?_
  refine ak_G8 (pc' := 492) X hi h16 (v := M.2 (tb i + 8) (nn y)) (nn y) hy1 (by omega) rfl dX7_performPlainly_491 rfl ?_
  refine v_callS (pc' := 495) X (st := [.int x, .ref (ad (tb i + 8))]) (c_X7_sortOf (n := n) (s := s) (cp := cp) (cq := cq) (ad := ad) (M := M) (v := M.2 (tb i + 8) (nn y))) k_X7_sortOf w_ml_X7_250 w_st_X7_sortOf (by rw [hR]; exact ⟨Nat.le_of_ble_eq_true rfl, Nat.le_of_ble_eq_true rfl⟩) rfl rfl (Nat.le_of_ble_eq_true rfl) dX7_performPlainly_492 rfl (⟨Nat.zero_le _, Nat.zero_le _⟩) ?_
  rintro _ _ ⟨rfl, rfl⟩
  refine v_i2l (pc' := 496) X dX7_performPlainly_495 rfl rfl ?_
  refine aq_G8 (pc' := 497) X hi h16 (nn x) hx1 (by omega) dX7_performPlainly_496 rfl ?_
  refine v_goto (pc' := 500) X dX7_performPlainly_497 (by decide) ?_
  refine v_return X R (Nat.zero_le _) (Nat.zero_le _) dX7_performPlainly_500 ?_
  exact ⟨rfl, rfl⟩
