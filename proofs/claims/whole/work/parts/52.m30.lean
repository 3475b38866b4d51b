/-! LISTS READ -/
set_option maxHeartbeats 4000000 in
set_option maxRecDepth 100000 in
theorem c_size5 {l : Launch} {D : va_G} {Y : Nat → ClassId} {zz : Nat → Nat} {n s cp cq : Nat} {ad : Nat → Nat} {M : vM}  : Ct l D Y zz yJx4a65c_size_8abf5 cJx4a65c_size_8abf5 1 (some FieldType.int) 0 0 [.ref (ad (5))] (wK Y n s cp cq ad M) 0 0 (fun r w => r = some (.int (M.1 5 2)) ∧ w = wK Y n s cp cq ad M) := by
  refine v_entry (by decide +kernel) (Nat.le_of_ble_eq_true rfl) ?_
  intro K X R hR hnm hl hD hY hz
  subst hl hD hY hz
  refine v_sub (lv' := [(0, .ref (ad (5)))]) [0] rfl ?_
  refine v_aload_n (pc' := 1) (i := 0) (j := 0) X dJx4a65c_size_8abf5_0 rfl rfl rfl ?_
  refine fk_Jx4a65c_48_5 (pc' := 4) X (v := M.1 5 2) rfl dJx4a65c_size_8abf5_1 rfl ?_
  refine v_ireturn X R (Nat.zero_le _) (Nat.zero_le _) dJx4a65c_size_8abf5_4 ?_
  exact ⟨rfl, rfl⟩
set_option maxHeartbeats 4000000 in
set_option maxRecDepth 100000 in
theorem c_size3 {l : Launch} {D : va_G} {Y : Nat → ClassId} {zz : Nat → Nat} {n s cp cq : Nat} {ad : Nat → Nat} {M : vM}  : Ct l D Y zz yJx4a65c_size_8abf5 cJx4a65c_size_8abf5 1 (some FieldType.int) 0 0 [.ref (ad (3))] (wK Y n s cp cq ad M) 0 0 (fun r w => r = some (.int (M.1 3 2)) ∧ w = wK Y n s cp cq ad M) := by
  refine v_entry (by decide +kernel) (Nat.le_of_ble_eq_true rfl) ?_
  intro K X R hR hnm hl hD hY hz
  subst hl hD hY hz
  refine v_sub (lv' := [(0, .ref (ad (3)))]) [0] rfl ?_
  refine v_aload_n (pc' := 1) (i := 0) (j := 0) X dJx4a65c_size_8abf5_0 rfl rfl rfl ?_
  refine fk_Jx4a65c_48_3 (pc' := 4) X (v := M.1 3 2) rfl dJx4a65c_size_8abf5_1 rfl ?_
  refine v_ireturn X R (Nat.zero_le _) (Nat.zero_le _) dJx4a65c_size_8abf5_4 ?_
  exact ⟨rfl, rfl⟩
set_option maxHeartbeats 4000000 in
set_option maxRecDepth 100000 in
theorem c_J3_checkIndex {l : Launch} {D : va_G} {Y : Nat → ClassId} {zz : Nat → Nat} {n s cp cq : Nat} {ad : Nat → Nat} {M : vM} {k m : Nat} (hkm : k < m) (hm : m < 2 ^ 31)  : Ct l D Y zz yJ3_checkIndex_8e157 cJ3_checkIndex_8e157 3 (some FieldType.int) 0 0 [.int (nI k), .int (nI m), .null] (wK Y n s cp cq ad M) 0 0 (fun r w => r = some (.int (nI k)) ∧ w = wK Y n s cp cq ad M) := by
  refine v_entry (by decide +kernel) (Nat.le_of_ble_eq_true rfl) ?_
  intro K X R hR hnm hl hD hY hz
  subst hl hD hY hz
  refine v_sub (lv' := [(0, .int (nI k)), (1, .int (nI m)), (2, .null)]) [0, 1, 2] rfl ?_
  refine v_iload_n (pc' := 1) (i := 0) (j := 0) X dJ3_checkIndex_8e157_0 rfl rfl rfl ?_
  refine v_if_lt (pc' := 4) (tgt := 9) X dJ3_checkIndex_8e157_1 (by decide) rfl (fun hc_1 => absurd hc_1 (nI_pos (by omega))) (fun _ => ?_)
  refine v_iload_n (pc' := 5) (i := 0) (j := 0) X dJ3_checkIndex_8e157_4 rfl rfl rfl ?_
  refine v_iload_n (pc' := 6) (i := 1) (j := 1) X dJ3_checkIndex_8e157_5 rfl rfl rfl ?_
  refine v_icmp_lt (pc' := 9) (tgt := 16) X dJ3_checkIndex_8e157_6 (by decide) rfl (fun _ => ?_) (fun hc_6 => absurd (nI_lt hkm hm) hc_6)
  refine v_iload_n (pc' := 17) (i := 0) (j := 0) X dJ3_checkIndex_8e157_16 rfl rfl rfl ?_
  refine v_ireturn X R (Nat.zero_le _) (Nat.zero_le _) dJ3_checkIndex_8e157_17 ?_
  exact ⟨rfl, rfl⟩
set_option maxHeartbeats 4000000 in
set_option maxRecDepth 100000 in
theorem c_J15_checkIndex {l : Launch} {D : va_G} {Y : Nat → ClassId} {zz : Nat → Nat} {n s cp cq : Nat} {ad : Nat → Nat} {M : vM} {k m : Nat} (hkm : k < m) (hm : m < 2 ^ 31)  : Ct l D Y zz yJ15_checkIndex_7cf53 cJ15_checkIndex_7cf53 2 (some FieldType.int) 1 22 [.int (nI k), .int (nI m)] (wK Y n s cp cq ad M) 0 0 (fun r w => r = some (.int (nI k)) ∧ w = wK Y n s cp cq ad M) := by
  refine v_entry (by decide +kernel) (Nat.le_of_ble_eq_true rfl) ?_
  intro K X R hR hnm hl hD hY hz
  subst hl hD hY hz
  refine v_sub (lv' := [(0, .int (nI k)), (1, .int (nI m))]) [0, 1] rfl ?_
  refine v_iload_n (pc' := 1) (i := 0) (j := 0) X dJ15_checkIndex_7cf53_0 rfl rfl rfl ?_
  refine v_iload_n (pc' := 2) (i := 1) (j := 1) X dJ15_checkIndex_7cf53_1 rfl rfl rfl ?_
  refine v_null (pc' := 3) X dJ15_checkIndex_7cf53_2 rfl ?_
  refine v_callS (pc' := 6) X (st := []) (c_J3_checkIndex (n := n) (s := s) (cp := cp) (cq := cq) (ad := ad) (M := M) hkm hm) k_J3_checkIndex_8e157 w_ml_J15_105 w_st_J3_checkIndex_8e157 (by rw [hR]; exact ⟨Nat.le_of_ble_eq_true rfl, Nat.le_of_ble_eq_true rfl⟩) rfl rfl (Nat.le_of_ble_eq_true rfl) dJ15_checkIndex_7cf53_3 rfl (⟨Nat.zero_le _, Nat.zero_le _⟩) ?_
  rintro _ _ ⟨rfl, rfl⟩
  refine v_ireturn X R (Nat.zero_le _) (Nat.zero_le _) dJ15_checkIndex_7cf53_6 ?_
  exact ⟨rfl, rfl⟩
set_option maxHeartbeats 4000000 in
set_option maxRecDepth 100000 in
theorem c_elementData5 {l : Launch} {D : va_G} {Y : Nat → ClassId} {zz : Nat → Nat} {n s cp cq : Nat} {ad : Nat → Nat} {M : vM} {k : Nat} (hkm : k < n) (hq : n ≤ cq) (hq2 : cq < 2 ^ 31) (h2 : M.1 5 2 = nI n)  : Ct l D Y zz yJx4a65c_elementData_915e3 cJx4a65c_elementData_915e3 2 (some (FieldType.object "java/lang/Object")) 0 0 [.ref (ad (5)), .int (nI k)] (wK Y n s cp cq ad M) 0 0 (fun r w => r = some (.ref (ad (tb k))) ∧ w = wK Y n s cp cq ad M) := by
  refine v_entry (by decide +kernel) (Nat.le_of_ble_eq_true rfl) ?_
  intro K X R hR hnm hl hD hY hz
  subst hl hD hY hz
  refine v_sub (lv' := [(0, .ref (ad (5))), (1, .int (nI k))]) [0, 1] rfl ?_
  refine v_aload_n (pc' := 1) (i := 0) (j := 0) X dJx4a65c_elementData_915e3_0 rfl rfl rfl ?_
  refine fk_Jx4a65c_9_5 (pc' := 4) X dJx4a65c_elementData_915e3_1 rfl ?_
  refine v_iload_n (pc' := 5) (i := 1) (j := 1) X dJx4a65c_elementData_915e3_4 rfl rfl rfl ?_
  refine ak_K6 (pc' := 6) X (k) rfl (by omega) (by omega) (by omega) dJx4a65c_elementData_915e3_5 rfl ?_
  refine v_areturn X R (Or.inl ⟨_, rfl⟩) (Or.inr ⟨_, rfl⟩) (Nat.zero_le _) (Nat.zero_le _) dJx4a65c_elementData_915e3_6 ?_
  exact ⟨rfl, rfl⟩
set_option maxHeartbeats 4000000 in
set_option maxRecDepth 100000 in
theorem c_get5 {l : Launch} {D : va_G} {Y : Nat → ClassId} {zz : Nat → Nat} {n s cp cq : Nat} {ad : Nat → Nat} {M : vM} {k : Nat} (hkm : k < n) (hq : n ≤ cq) (hq2 : cq < 2 ^ 31) (h2 : M.1 5 2 = nI n)  : Ct l D Y zz yJx4a65c_get_915e3 cJx4a65c_get_915e3 2 (some (FieldType.object "java/lang/Object")) 2 43 [.ref (ad (5)), .int (nI k)] (wK Y n s cp cq ad M) 0 0 (fun r w => r = some (.ref (ad (tb k))) ∧ w = wK Y n s cp cq ad M) := by
  refine v_entry (by decide +kernel) (Nat.le_of_ble_eq_true rfl) ?_
  intro K X R hR hnm hl hD hY hz
  subst hl hD hY hz
  refine v_sub (lv' := [(0, .ref (ad (5))), (1, .int (nI k))]) [0, 1] rfl ?_
  refine v_iload_n (pc' := 1) (i := 1) (j := 1) X dJx4a65c_get_915e3_0 rfl rfl rfl ?_
  refine v_aload_n (pc' := 2) (i := 0) (j := 0) X dJx4a65c_get_915e3_1 rfl rfl rfl ?_
  refine fk_Jx4a65c_48_5 (pc' := 5) X (v := nI n) h2 dJx4a65c_get_915e3_2 rfl ?_
  refine v_callS (pc' := 8) X (st := []) (c_J15_checkIndex (n := n) (s := s) (cp := cp) (cq := cq) (ad := ad) (M := M) (k := k) (m := n) hkm (by omega)) k_J15_checkIndex_7cf53 w_ml_Jx4a65c_118 w_st_J15_checkIndex_7cf53 (by rw [hR]; exact ⟨Nat.le_of_ble_eq_true rfl, Nat.le_of_ble_eq_true rfl⟩) rfl rfl (Nat.le_of_ble_eq_true rfl) dJx4a65c_get_915e3_5 rfl (⟨Nat.zero_le _, Nat.zero_le _⟩) ?_
  rintro _ _ ⟨rfl, rfl⟩
  refine v_pop (pc' := 9) X dJx4a65c_get_915e3_8 rfl rfl ?_
  refine v_aload_n (pc' := 10) (i := 0) (j := 0) X dJx4a65c_get_915e3_9 rfl rfl rfl ?_
  refine v_iload_n (pc' := 11) (i := 1) (j := 1) X dJx4a65c_get_915e3_10 rfl rfl rfl ?_
  refine v_callV (pc' := 14) X (st := []) (c_elementData5 (M := M) hkm hq hq2 h2) k_Jx4a65c_elementData_915e3 w_ml_Jx4a65c_123 w_im_Jx4a65c_elementData_915e3 w_se_Jx4a65c_Jx4a65c_elementData_915e3 rw_L5 (by rw [hR]; exact ⟨Nat.le_of_ble_eq_true rfl, Nat.le_of_ble_eq_true rfl⟩) rfl rfl (Nat.le_of_ble_eq_true rfl) dJx4a65c_get_915e3_11 rfl (⟨Nat.zero_le _, Nat.zero_le _⟩) ?_
  rintro _ _ ⟨rfl, rfl⟩
  refine v_areturn X R (Or.inl ⟨_, rfl⟩) (Or.inr ⟨_, rfl⟩) (Nat.zero_le _) (Nat.zero_le _) dJx4a65c_get_915e3_14 ?_
  exact ⟨rfl, rfl⟩
set_option maxHeartbeats 4000000 in
set_option maxRecDepth 100000 in
theorem c_elementData3 {l : Launch} {D : va_G} {Y : Nat → ClassId} {zz : Nat → Nat} {n s cp cq : Nat} {ad : Nat → Nat} {M : vM} {k : Nat} (hkm : k < s) (hq : s ≤ cp) (hq2 : cp < 2 ^ 31) (h2 : M.1 3 2 = nI s)  : Ct l D Y zz yJx4a65c_elementData_915e3 cJx4a65c_elementData_915e3 2 (some (FieldType.object "java/lang/Object")) 0 0 [.ref (ad (3)), .int (nI k)] (wK Y n s cp cq ad M) 0 0 (fun r w => r = some (.ref (ad (ib k))) ∧ w = wK Y n s cp cq ad M) := by
  refine v_entry (by decide +kernel) (Nat.le_of_ble_eq_true rfl) ?_
  intro K X R hR hnm hl hD hY hz
  subst hl hD hY hz
  refine v_sub (lv' := [(0, .ref (ad (3))), (1, .int (nI k))]) [0, 1] rfl ?_
  refine v_aload_n (pc' := 1) (i := 0) (j := 0) X dJx4a65c_elementData_915e3_0 rfl rfl rfl ?_
  refine fk_Jx4a65c_9_3 (pc' := 4) X dJx4a65c_elementData_915e3_1 rfl ?_
  refine v_iload_n (pc' := 5) (i := 1) (j := 1) X dJx4a65c_elementData_915e3_4 rfl rfl rfl ?_
  refine ak_K4 (pc' := 6) X (k) rfl (by omega) (by omega) (by omega) dJx4a65c_elementData_915e3_5 rfl ?_
  refine v_areturn X R (Or.inl ⟨_, rfl⟩) (Or.inr ⟨_, rfl⟩) (Nat.zero_le _) (Nat.zero_le _) dJx4a65c_elementData_915e3_6 ?_
  exact ⟨rfl, rfl⟩
set_option maxHeartbeats 4000000 in
set_option maxRecDepth 100000 in
theorem c_get3 {l : Launch} {D : va_G} {Y : Nat → ClassId} {zz : Nat → Nat} {n s cp cq : Nat} {ad : Nat → Nat} {M : vM} {k : Nat} (hkm : k < s) (hq : s ≤ cp) (hq2 : cp < 2 ^ 31) (h2 : M.1 3 2 = nI s)  : Ct l D Y zz yJx4a65c_get_915e3 cJx4a65c_get_915e3 2 (some (FieldType.object "java/lang/Object")) 2 43 [.ref (ad (3)), .int (nI k)] (wK Y n s cp cq ad M) 0 0 (fun r w => r = some (.ref (ad (ib k))) ∧ w = wK Y n s cp cq ad M) := by
  refine v_entry (by decide +kernel) (Nat.le_of_ble_eq_true rfl) ?_
  intro K X R hR hnm hl hD hY hz
  subst hl hD hY hz
  refine v_sub (lv' := [(0, .ref (ad (3))), (1, .int (nI k))]) [0, 1] rfl ?_
  refine v_iload_n (pc' := 1) (i := 1) (j := 1) X dJx4a65c_get_915e3_0 rfl rfl rfl ?_
  refine v_aload_n (pc' := 2) (i := 0) (j := 0) X dJx4a65c_get_915e3_1 rfl rfl rfl ?_
  refine fk_Jx4a65c_48_3 (pc' := 5) X (v := nI s) h2 dJx4a65c_get_915e3_2 rfl ?_
  refine v_callS (pc' := 8) X (st := []) (c_J15_checkIndex (n := n) (s := s) (cp := cp) (cq := cq) (ad := ad) (M := M) (k := k) (m := s) hkm (by omega)) k_J15_checkIndex_7cf53 w_ml_Jx4a65c_118 w_st_J15_checkIndex_7cf53 (by rw [hR]; exact ⟨Nat.le_of_ble_eq_true rfl, Nat.le_of_ble_eq_true rfl⟩) rfl rfl (Nat.le_of_ble_eq_true rfl) dJx4a65c_get_915e3_5 rfl (⟨Nat.zero_le _, Nat.zero_le _⟩) ?_
  rintro _ _ ⟨rfl, rfl⟩
  refine v_pop (pc' := 9) X dJx4a65c_get_915e3_8 rfl rfl ?_
  refine v_aload_n (pc' := 10) (i := 0) (j := 0) X dJx4a65c_get_915e3_9 rfl rfl rfl ?_
  refine v_iload_n (pc' := 11) (i := 1) (j := 1) X dJx4a65c_get_915e3_10 rfl rfl rfl ?_
  refine v_callV (pc' := 14) X (st := []) (c_elementData3 (M := M) hkm hq hq2 h2) k_Jx4a65c_elementData_915e3 w_ml_Jx4a65c_123 w_im_Jx4a65c_elementData_915e3 w_se_Jx4a65c_Jx4a65c_elementData_915e3 rw_L3 (by rw [hR]; exact ⟨Nat.le_of_ble_eq_true rfl, Nat.le_of_ble_eq_true rfl⟩) rfl rfl (Nat.le_of_ble_eq_true rfl) dJx4a65c_get_915e3_11 rfl (⟨Nat.zero_le _, Nat.zero_le _⟩) ?_
  rintro _ _ ⟨rfl, rfl⟩
  refine v_areturn X R (Or.inl ⟨_, rfl⟩) (Or.inr ⟨_, rfl⟩) (Nat.zero_le _) (Nat.zero_le _) dJx4a65c_get_915e3_14 ?_
  exact ⟨rfl, rfl⟩
