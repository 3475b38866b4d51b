/-! THE CLASS: COUNT, COLLECT -/
set_option maxHeartbeats 4000000 in
set_option maxRecDepth 100000 in
theorem c_X7_count {l : Launch} {D : va_G} {Y : Nat → ClassId} {zz : Nat → Nat} {n s cp cq us : Nat} {ad : Nat → Nat} {M : vM} {N : vM} (hS : Sm M N n s) (hU : IU N n us) (hq : n ≤ cq ∧ cq ≤ 2 * n + 10) {what : Int32}  : Ct l D Y zz yX7_count cX7_count 2 (some FieldType.int) 4 87 [.ref (ad (0)), .int what] (wK Y n s cp cq ad M) 0 0 (fun r w => r = some (.int (fCount N n what)) ∧ w = wK Y n s cp cq ad M) := by
  refine v_entry (by decide +kernel) (Nat.le_of_ble_eq_true rfl) ?_
  intro K X R hR hnm hl hD hY hz
  subst hl hD hY hz
  refine v_sub (lv' := [(0, .ref (ad (0))), (1, .int what)]) [0, 1] rfl ?_
  have hq2 : cq < 2 ^ 31 := by have := hU.n16; omega
  obtain ⟨c1, c2, c3, c4⟩ := hS.c
  obtain ⟨s1, s2, s3⟩ := hS.2.2.2.2.1
  obtain ⟨n1, n2, n3⟩ := hS.2.2.2.2.2.1
  obtain ⟨pd, od, p1, p2, p3, p4, p5, p6⟩ := hS.2.2.2.1
  have hu5 := (hS.v hU).1
  have h3 := hU.g3
  refine v_iload_n (pc' := 1) (i := 1) (j := 1) X dX7_count_0 rfl rfl rfl ?_
  rcases sw_0_8 what with rfl | rfl | rfl | rfl | rfl | rfl | rfl | rfl | rfl | hsw
  · refine v_tableIn (off := 51) (tgt := 52) X dX7_count_1 (by decide) (by decide) (by decide) (by decide) ?_
    refine v_aload_n (pc' := 53) (i := 0) (j := 0) X dX7_count_52 rfl rfl rfl ?_
    refine fk_X7_10 (pc' := 56) X dX7_count_53 rfl ?_
    refine v_callV (pc' := 59) X (st := []) (c_size3 (M := M)) k_Jx4a65c_size_8abf5 w_ml_X7_59 w_im_Jx4a65c_size_8abf5 w_se_Jx4a65c_Jx4a65c_size_8abf5 rw_L3 (by rw [hR]; exact ⟨Nat.le_of_ble_eq_true rfl, Nat.le_of_ble_eq_true rfl⟩) rfl rfl (Nat.le_of_ble_eq_true rfl) dX7_count_56 rfl (⟨Nat.zero_le _, Nat.zero_le _⟩) ?_
    rintro _ _ ⟨rfl, rfl⟩
    rw [s1, ← s2]
    refine v_ireturn X R (Nat.zero_le _) (Nat.zero_le _) dX7_count_59 ?_
    have hF : fCount N n 0 = N.1 0 1 := by
      unfold fCount
      rw [if_pos rfl]
    exact ⟨by rw [hF], rfl⟩
  · refine v_tableIn (off := 59) (tgt := 60) X dX7_count_1 (by decide) (by decide) (by decide) (by decide) ?_
    refine v_aload_n (pc' := 61) (i := 0) (j := 0) X dX7_count_60 rfl rfl rfl ?_
    refine fk_X7_16 (pc' := 64) X dX7_count_61 rfl ?_
    refine v_callV (pc' := 67) X (st := []) (c_size5 (M := M)) k_Jx4a65c_size_8abf5 w_ml_X7_59 w_im_Jx4a65c_size_8abf5 w_se_Jx4a65c_Jx4a65c_size_8abf5 rw_L5 (by rw [hR]; exact ⟨Nat.le_of_ble_eq_true rfl, Nat.le_of_ble_eq_true rfl⟩) rfl rfl (Nat.le_of_ble_eq_true rfl) dX7_count_64 rfl (⟨Nat.zero_le _, Nat.zero_le _⟩) ?_
    rintro _ _ ⟨rfl, rfl⟩
    rw [n1, ← n2]
    refine v_ireturn X R (Nat.zero_le _) (Nat.zero_le _) dX7_count_67 ?_
    have hF : fCount N n 1 = N.1 0 2 := by
      unfold fCount
      rw [if_neg (by decide), if_pos rfl]
    exact ⟨by rw [hF], rfl⟩
  · refine v_tableIn (off := 67) (tgt := 68) X dX7_count_1 (by decide) (by decide) (by decide) (by decide) ?_
    refine v_aload_n (pc' := 69) (i := 0) (j := 0) X dX7_count_68 rfl rfl rfl ?_
    refine fk_X7_26 (pc' := 72) X dX7_count_69 rfl ?_
    refine fk_X7_122 (pc' := 75) X (v := N.1 0 3) (hu5.trans h3.symm) dX7_count_72 rfl ?_
    refine v_ireturn X R (Nat.zero_le _) (Nat.zero_le _) dX7_count_75 ?_
    have hF : fCount N n 2 = N.1 0 3 := by
      unfold fCount
      rw [if_neg (by decide), if_neg (by decide), if_pos rfl]
    exact ⟨by rw [hF], rfl⟩
  · refine v_tableIn (off := 75) (tgt := 76) X dX7_count_1 (by decide) (by decide) (by decide) (by decide) ?_
    refine v_aload_n (pc' := 77) (i := 0) (j := 0) X dX7_count_76 rfl rfl rfl ?_
    refine fk_X7_37 (pc' := 80) X (v := N.1 0 4) c1 dX7_count_77 rfl ?_
    refine v_ireturn X R (Nat.zero_le _) (Nat.zero_le _) dX7_count_80 ?_
    have hF : fCount N n 3 = N.1 0 4 := by
      unfold fCount
      rw [if_neg (by decide), if_neg (by decide), if_neg (by decide), if_pos rfl]
    exact ⟨by rw [hF], rfl⟩
  · refine v_tableIn (off := 80) (tgt := 81) X dX7_count_1 (by decide) (by decide) (by decide) (by decide) ?_
    refine v_aload_n (pc' := 82) (i := 0) (j := 0) X dX7_count_81 rfl rfl rfl ?_
    refine fk_X7_41 (pc' := 85) X (v := N.1 0 5) c2 dX7_count_82 rfl ?_
    refine v_ireturn X R (Nat.zero_le _) (Nat.zero_le _) dX7_count_85 ?_
    have hF : fCount N n 4 = N.1 0 5 := by
      unfold fCount
      rw [if_neg (by decide), if_neg (by decide), if_neg (by decide), if_neg (by decide), if_pos rfl]
    exact ⟨by rw [hF], rfl⟩
  · refine v_tableIn (off := 85) (tgt := 86) X dX7_count_1 (by decide) (by decide) (by decide) (by decide) ?_
    refine v_aload_n (pc' := 87) (i := 0) (j := 0) X dX7_count_86 rfl rfl rfl ?_
    refine fk_X7_44 (pc' := 90) X (v := N.1 0 6) c3 dX7_count_87 rfl ?_
    refine v_ireturn X R (Nat.zero_le _) (Nat.zero_le _) dX7_count_90 ?_
    have hF : fCount N n 5 = N.1 0 6 := by
      unfold fCount
      rw [if_neg (by decide), if_neg (by decide), if_neg (by decide), if_neg (by decide), if_neg (by decide), if_pos rfl]
    exact ⟨by rw [hF], rfl⟩
  · refine v_tableIn (off := 90) (tgt := 91) X dX7_count_1 (by decide) (by decide) (by decide) (by decide) ?_
    refine v_aload_n (pc' := 92) (i := 0) (j := 0) X dX7_count_91 rfl rfl rfl ?_
    refine fk_X7_47 (pc' := 95) X (v := N.1 0 7) c4 dX7_count_92 rfl ?_
    refine v_ireturn X R (Nat.zero_le _) (Nat.zero_le _) dX7_count_95 ?_
    have hF : fCount N n 6 = N.1 0 7 := by
      unfold fCount
      rw [if_neg (by decide), if_neg (by decide), if_neg (by decide), if_neg (by decide), if_neg (by decide), if_neg (by decide), if_pos rfl]
    exact ⟨by rw [hF], rfl⟩
  · refine v_tableIn (off := 95) (tgt := 96) X dX7_count_1 (by decide) (by decide) (by decide) (by decide) ?_
    refine v_aload_n (pc' := 97) (i := 0) (j := 0) X dX7_count_96 rfl rfl rfl ?_
    refine fk_X7_33 (pc' := 100) X dX7_count_97 rfl ?_
    refine fk_X7_135 (pc' := 103) X (v := N.1 0 8) (p3.trans p5.symm) dX7_count_100 rfl ?_
    refine v_ireturn X R (Nat.zero_le _) (Nat.zero_le _) dX7_count_103 ?_
    have hF : fCount N n 7 = N.1 0 8 := by
      unfold fCount
      rw [if_neg (by decide), if_neg (by decide), if_neg (by decide), if_neg (by decide), if_neg (by decide), if_neg (by decide), if_neg (by decide), if_pos rfl]
    exact ⟨by rw [hF], rfl⟩
  · refine v_tableIn (off := 103) (tgt := 104) X dX7_count_1 (by decide) (by decide) (by decide) (by decide) ?_
    refine v_aload_n (pc' := 105) (i := 0) (j := 0) X dX7_count_104 rfl rfl rfl ?_
    refine v_callV (pc' := 108) X (st := []) (c_X7_isDeadlocked (M := M) n1 n3 hq.1 hq2) k_X7_isDeadlocked w_ml_X7_148 w_im_X7_isDeadlocked w_se_X7_X7_isDeadlocked rw_X7 (by rw [hR]; exact ⟨Nat.le_of_ble_eq_true rfl, Nat.le_of_ble_eq_true rfl⟩) rfl rfl (Nat.le_of_ble_eq_true rfl) dX7_count_105 rfl (⟨Nat.zero_le _, Nat.zero_le _⟩) ?_
    rintro _ _ ⟨rfl, rfl⟩
    refine v_ifB_eq (pc' := 111) (tgt := 115) X dX7_count_108 (by decide) rfl (fun hc_108 => ?_) (fun hc_108 => ?_)
    -- taken 108
    · refine v_iconst (pc' := 116) (v := 0) X dX7_count_115 (by decide) rfl ?_
      refine v_ireturn X R (Nat.zero_le _) (Nat.zero_le _) dX7_count_116 ?_
      have hF : fCount N n 8 = 0 := by
        unfold fCount
        rw [if_neg (by decide), if_neg (by decide), if_neg (by decide), if_neg (by decide), if_neg (by decide), if_neg (by decide), if_neg (by decide), if_neg (by decide), if_pos rfl]
        have h8 : ∀ q, q < n → M.1 (tb q) 8 = N.1 (tb q) 0 := fun q hq => (hS.T hq).1.1
        exact bP_f (fun z9 => hc_108 ⟨fun q hq => by rw [h8 q hq]; exact z9.1 q hq, by obtain ⟨q, hq, y⟩ := z9.2; exact ⟨q, hq, by rw [h8 q hq]; exact y⟩⟩)
      exact ⟨by rw [hF], rfl⟩
    -- not taken 108
    · refine v_iconst (pc' := 112) (v := 1) X dX7_count_111 (by decide) rfl ?_
      refine v_goto (pc' := 116) X dX7_count_112 (by decide) ?_
      refine v_ireturn X R (Nat.zero_le _) (Nat.zero_le _) dX7_count_116 ?_
      have hF : fCount N n 8 = 1 := by
        unfold fCount
        rw [if_neg (by decide), if_neg (by decide), if_neg (by decide), if_neg (by decide), if_neg (by decide), if_neg (by decide), if_neg (by decide), if_neg (by decide), if_pos rfl]
        have h8 : ∀ q, q < n → M.1 (tb q) 8 = N.1 (tb q) 0 := fun q hq => (hS.T hq).1.1
        exact bP_t ⟨fun q hq => by rw [← h8 q hq]; exact hc_108.1 q hq, by obtain ⟨q, hq, y⟩ := hc_108.2; exact ⟨q, hq, by rw [← h8 q hq]; exact y⟩⟩
      exact ⟨by rw [hF], rfl⟩
  · refine v_tableOut (tgt := 117) X dX7_count_1 hsw (by decide) ?_
    refine v_iconst (pc' := 118) (v := (-1)) X dX7_count_117 (by decide) rfl ?_
    refine v_ireturn X R (Nat.zero_le _) (Nat.zero_le _) dX7_count_118 ?_
    have hF : fCount N n what = -1 := by
      unfold fCount
      rw [if_neg (sw_out (k := 0) hsw (by decide) (by decide)), if_neg (sw_out (k := 1) hsw (by decide) (by decide)), if_neg (sw_out (k := 2) hsw (by decide) (by decide)), if_neg (sw_out (k := 3) hsw (by decide) (by decide)), if_neg (sw_out (k := 4) hsw (by decide) (by decide)), if_neg (sw_out (k := 5) hsw (by decide) (by decide)), if_neg (sw_out (k := 6) hsw (by decide) (by decide)), if_neg (sw_out (k := 7) hsw (by decide) (by decide)), if_neg (sw_out (k := 8) hsw (by decide) (by decide))]
    exact ⟨by rw [hF], rfl⟩
set_option maxHeartbeats 4000000 in
set_option maxRecDepth 100000 in
theorem c_X7_collect {l : Launch} {D : va_G} {Y : Nat → ClassId} {zz : Nat → Nat} {n s cp cq us : Nat} {ad : Nat → Nat} {M : vM} {N : vM} (hS : Sm M N n s) (hU : IU N n us) (hq : n ≤ cq ∧ cq ≤ 2 * n + 10)  : Ct l D Y zz yX7_collect cX7_collect 1 (some FieldType.int) 5 109 [.ref (ad (0))] (wK Y n s cp cq ad M) 0 0 (fun r w => r = some (.int ((fGather (mI N 0 0 0) n us).1 0 3)) ∧ ∃ G9, w = wK Y n s cp cq ad G9 ∧ Sm G9 (fGather (mI N 0 0 0) n us) n s) := by
  refine v_entry (by decide +kernel) (Nat.le_of_ble_eq_true rfl) ?_
  intro K X R hR hnm hl hD hY hz
  subst hl hD hY hz
  refine v_sub (lv' := [(0, .ref (ad (0)))]) [0] rfl ?_
  have hn16 := hU.n16
  have hq2 : cq < 2 ^ 31 := by omega
  have hu := hU.us
  have hS0 : Sm M (mI N 0 0 0) n s := z_thr hS
  have hU0 : IU (mI N 0 0 0) n us := iu_cnt hU (by decide)
  have b52 : M.1 5 2 = nI n := hS.2.2.2.2.2.1.1
  have hu5 := (hS.v hU).1
  refine v_aload_n (pc' := 1) (i := 0) (j := 0) X dX7_collect_0 rfl rfl rfl ?_
  refine v_callV (pc' := 4) X (st := []) (c_X7_markAndSlide (M := M) b52 hn16 hq.1 hq2 hu5 hu hS.2.2.1 (fun k hk => gl_ok hS hU hk) (fun j hj => cOK_of hS hU hj)) k_X7_markAndSlide w_ml_X7_145 w_im_X7_markAndSlide w_se_X7_X7_markAndSlide rw_X7 (by rw [hR]; exact ⟨Nat.le_of_ble_eq_true rfl, Nat.le_of_ble_eq_true rfl⟩) rfl rfl (Nat.le_of_ble_eq_true rfl) dX7_collect_1 rfl (⟨Nat.zero_le _, Nat.zero_le _⟩) ?_
  rintro _ _ ⟨rfl, rfl⟩
  obtain ⟨u2, hu2, hG3, hU2⟩ := iu_gather hU0
  have hS2 := z_coll hS0 hU0
  have hu25 : (gColl M n us).1 1 5 = nI u2 := (hS2.v hU2).1
  refine v_aload_n (pc' := 5) (i := 0) (j := 0) X dX7_collect_4 rfl rfl rfl ?_
  refine fk_X7_26 (pc' := 8) X dX7_collect_5 rfl ?_
  refine fk_X7_122 (pc' := 11) X (v := (fGather (mI N 0 0 0) n us).1 0 3) (hu25.trans hG3.symm) dX7_collect_8 rfl ?_
  refine v_ireturn X R (Nat.zero_le _) (Nat.zero_le _) dX7_collect_11 ?_
  exact ⟨rfl, _, rfl, hS2⟩
