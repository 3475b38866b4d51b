/-! THE CLASS'S LOGS AND PRINTOUT -/
/-- the last of the first k places that holds v, -1 if none does -/
def lastI (f : Nat → Int32) : Nat → Int32 → Int32
  | 0, _ => -1
  | k + 1, v => if f k = v then nI k else lastI f k v
set_option maxHeartbeats 4000000 in
set_option maxRecDepth 100000 in
theorem c_X3_hasRead {l : Launch} {D : va_G} {Y : Nat → ClassId} {zz : Nat → Nat} {n s cp cq : Nat} {ad : Nat → Nat} {M : vM} {i r9 : Nat} (hi : i < n) (h16 : i < 16) (h3 : M.1 (tb i + 18) 3 = nI r9) (hr : r9 ≤ 40) {p : Int32} : Ct l D Y zz yX3_hasRead cX3_hasRead 3 (some FieldType.boolean) 0 0 [.ref (ad (tb i + 18)), .int p] (wK Y n s cp cq ad M) 0 0 (fun r w => r = some (.int (bP (∃ k, k < r9 ∧ M.1 (tb i + 15) k = p))) ∧ w = wK Y n s cp cq ad M) := by
  refine v_entry (by decide +kernel) (Nat.le_of_ble_eq_true rfl) ?_
  intro K X R hR hnm hl hD hY hz
  subst hl hD hY hz
  refine v_sub (lv' := [(0, .ref (ad (tb i + 18))), (1, .int p)]) [0, 1] rfl ?_
  refine v_iconst (pc' := 1) (v := 0) X dX3_hasRead_0 (by decide) rfl ?_
  refine v_istore_n (pc' := 2) (i := 2) (lv' := [(2, .int 0), (0, .ref (ad (tb i + 18))), (1, .int p)]) X dX3_hasRead_1 rfl (by decide) rfl rfl ?_
  have hloop : ∀ (dd_hloop : Nat) (k : Nat), r9 - k < dd_hloop → (k ≤ r9) → (∀ j, j < k → M.1 (tb i + 15) j ≠ p) → V K 3 (wK (kY K) n s cp cq ad M) 0 0 2 [(2, .int (nI k)), (1, .int p), (0, .ref (ad (tb i + 18)))] [] := by
    intro dd_hloop
    induction dd_hloop with
    | zero => intro k hlt_hloop; exact absurd hlt_hloop (Nat.not_lt_zero _)
    | succ dd_hloop ih_hloop =>
      intro k hlt_hloop hk hno
      refine v_iload_n (pc' := 3) (i := 2) (j := 0) X dX3_hasRead_2 rfl rfl rfl ?_
      refine v_aload_n (pc' := 4) (i := 0) (j := 2) X dX3_hasRead_3 rfl rfl rfl ?_
      refine fk_X3_22 (pc' := 7) X hi h16 (v := nI r9) h3 dX3_hasRead_4 rfl ?_
      refine v_icmp_ge (pc' := 10) (tgt := 28) X dX3_hasRead_7 (by decide) rfl (fun hc_7 => ?_) (fun hc_7 => ?_)
      -- taken 7
      · refine v_iconst (pc' := 29) (v := 0) X dX3_hasRead_28 (by decide) rfl ?_
        refine v_zreturn X R (by decide) (Nat.zero_le _) (Nat.zero_le _) dX3_hasRead_29 ?_
        have hh := le_of_nI hc_7 (by omega) (by omega)
        exact ⟨by rw [bP_f (fun z9 => by obtain ⟨q9, y9, y8⟩ := z9; exact hno q9 (by omega) y8)], rfl⟩
      -- not taken 7
      · have hke : k < r9 := by
          rcases Nat.lt_or_ge k r9 with q9 | q9
          · exact q9
          · exact absurd (nI_le q9 (by omega)) hc_7
        refine v_aload_n (pc' := 11) (i := 0) (j := 2) X dX3_hasRead_10 rfl rfl rfl ?_
        refine fk_X3_9 (pc' := 14) X hi h16 dX3_hasRead_11 rfl ?_
        refine v_iload_n (pc' := 15) (i := 2) (j := 0) X dX3_hasRead_14 rfl rfl rfl ?_
        refine ak_G15 (pc' := 16) X hi h16 (v := M.1 (tb i + 15) k) (k) rfl (by omega) rfl dX3_hasRead_15 rfl ?_
        refine v_iload_n (pc' := 17) (i := 1) (j := 1) X dX3_hasRead_16 rfl rfl rfl ?_
        refine v_icmp_ne (pc' := 20) (tgt := 22) X dX3_hasRead_17 (by decide) rfl (fun hc_17 => ?_) (fun hc_17 => ?_)
        -- taken 17
        · refine v_iinc (pc' := 25) (j := 0) (v := nI (k + 1)) (lv' := [(2, .int (nI (k + 1))), (1, .int p), (0, .ref (ad (tb i + 18)))]) X dX3_hasRead_22 rfl (nI_add (k) 1) (by decide) rfl rfl ?_
          refine v_goto (pc' := 2) X dX3_hasRead_25 (by decide) ?_
          exact ih_hloop (k + 1) (by omega) (by omega) (lt_s hno hc_17)
        -- not taken 17
        · refine v_iconst (pc' := 21) (v := 1) X dX3_hasRead_20 (by decide) rfl ?_
          refine v_zreturn X R (by decide) (Nat.zero_le _) (Nat.zero_le _) dX3_hasRead_21 ?_
          exact ⟨by rw [bP_t ⟨k, hke, hc_17⟩], rfl⟩
  refine v_sub (lv' := [(2, .int 0), (1, .int p), (0, .ref (ad (tb i + 18)))]) [0, 2, 1] rfl ?_
  exact hloop _ 0 (Nat.lt_succ_self _) (by omega) lt_0
set_option maxHeartbeats 4000000 in
set_option maxRecDepth 100000 in
theorem c_X3_isValid {l : Launch} {D : va_G} {Y : Nat → ClassId} {zz : Nat → Nat} {n s cp cq : Nat} {ad : Nat → Nat} {M : vM} {i r9 : Nat} (hi : i < n) (h16 : i < 16) (h3 : M.1 (tb i + 18) 3 = nI r9) (hr : r9 ≤ 40) (hpl : ∀ k, k < r9 → M.1 (tb i + 15) k = nI (nn (M.1 (tb i + 15) k)) ∧ nn (M.1 (tb i + 15) k) < 200) : Ct l D Y zz yX3_isValid cX3_isValid 3 (some FieldType.boolean) 0 0 [.ref (ad (tb i + 18)), .ref (ad (1))] (wK Y n s cp cq ad M) 0 0 (fun r w => r = some (.int (bP (∀ k, k < r9 → ¬ (M.1 (tb i + 18) 5).toInt64 < M.2 16 (nn (M.1 (tb i + 15) k))))) ∧ w = wK Y n s cp cq ad M) := by
  refine v_entry (by decide +kernel) (Nat.le_of_ble_eq_true rfl) ?_
  intro K X R hR hnm hl hD hY hz
  subst hl hD hY hz
  refine v_sub (lv' := [(0, .ref (ad (tb i + 18))), (1, .ref (ad (1)))]) [0, 1] rfl ?_
  refine v_iconst (pc' := 1) (v := 0) X dX3_isValid_0 (by decide) rfl ?_
  refine v_istore_n (pc' := 2) (i := 2) (lv' := [(2, .int 0), (0, .ref (ad (tb i + 18))), (1, .ref (ad (1)))]) X dX3_isValid_1 rfl (by decide) rfl rfl ?_
  have hloop : ∀ (dd_hloop : Nat) (k : Nat), r9 - k < dd_hloop → (k ≤ r9) → (∀ j, j < k → ¬ (M.1 (tb i + 18) 5).toInt64 < M.2 16 (nn (M.1 (tb i + 15) j))) → V K 3 (wK (kY K) n s cp cq ad M) 0 0 2 [(2, .int (nI k)), (1, .ref (ad (1))), (0, .ref (ad (tb i + 18)))] [] := by
    intro dd_hloop
    induction dd_hloop with
    | zero => intro k hlt_hloop; exact absurd hlt_hloop (Nat.not_lt_zero _)
    | succ dd_hloop ih_hloop =>
      intro k hlt_hloop hk hno
      refine v_iload_n (pc' := 3) (i := 2) (j := 0) X dX3_isValid_2 rfl rfl rfl ?_
      refine v_aload_n (pc' := 4) (i := 0) (j := 2) X dX3_isValid_3 rfl rfl rfl ?_
      refine fk_X3_22 (pc' := 7) X hi h16 (v := nI r9) h3 dX3_isValid_4 rfl ?_
      refine v_icmp_ge (pc' := 10) (tgt := 38) X dX3_isValid_7 (by decide) rfl (fun hc_7 => ?_) (fun hc_7 => ?_)
      -- taken 7
      · refine v_iconst (pc' := 39) (v := 1) X dX3_isValid_38 (by decide) rfl ?_
        refine v_zreturn X R (by decide) (Nat.zero_le _) (Nat.zero_le _) dX3_isValid_39 ?_
        have hh := le_of_nI hc_7 (by omega) (by omega)
        exact ⟨by rw [bP_t (fun q9 y9 => hno q9 (by omega))], rfl⟩
      -- not taken 7
      · have hke : k < r9 := by
          rcases Nat.lt_or_ge k r9 with q9 | q9
          · exact q9
          · exact absurd (nI_le q9 (by omega)) hc_7
        have hp2 := hpl k hke
        refine v_aload_n (pc' := 11) (i := 1) (j := 1) X dX3_isValid_10 rfl rfl rfl ?_
        refine fk_X3_32 (pc' := 14) X dX3_isValid_11 rfl ?_
        refine v_aload_n (pc' := 15) (i := 0) (j := 2) X dX3_isValid_14 rfl rfl rfl ?_
        refine fk_X3_9 (pc' := 18) X hi h16 dX3_isValid_15 rfl ?_
        refine v_iload_n (pc' := 19) (i := 2) (j := 0) X dX3_isValid_18 rfl rfl rfl ?_
        refine ak_G15 (pc' := 20) X hi h16 (v := M.1 (tb i + 15) k) (k) rfl (by omega) rfl dX3_isValid_19 rfl ?_
        refine ak_K16 (pc' := 21) X (v := M.2 16 (nn (M.1 (tb i + 15) k))) (nn (M.1 (tb i + 15) k)) hp2.1 (by omega) rfl dX3_isValid_20 rfl ?_
        refine v_aload_n (pc' := 22) (i := 0) (j := 2) X dX3_isValid_21 rfl rfl rfl ?_
        refine fk_X3_29 (pc' := 25) X hi h16 (v := M.1 (tb i + 18) 5) rfl dX3_isValid_22 rfl ?_
        refine v_i2l (pc' := 26) X dX3_isValid_25 rfl rfl ?_
        refine v_lcmp (pc' := 27) X dX3_isValid_26 rfl ?_
        refine v_lif_le (pc' := 30) (tgt := 32) X dX3_isValid_27 (by decide) rfl (fun hc_27 => ?_) (fun hc_27 => ?_)
        -- taken 27
        · refine v_iinc (pc' := 35) (j := 0) (v := nI (k + 1)) (lv' := [(2, .int (nI (k + 1))), (1, .ref (ad (1))), (0, .ref (ad (tb i + 18)))]) X dX3_isValid_32 rfl (nI_add (k) 1) (by decide) rfl rfl ?_
          refine v_goto (pc' := 2) X dX3_isValid_35 (by decide) ?_
          exact ih_hloop (k + 1) (by omega) (by omega) (lt_s hno (Int64.not_lt.mpr hc_27))
        -- not taken 27
        · refine v_iconst (pc' := 31) (v := 0) X dX3_isValid_30 (by decide) rfl ?_
          refine v_zreturn X R (by decide) (Nat.zero_le _) (Nat.zero_le _) dX3_isValid_31 ?_
          exact ⟨by rw [bP_f (fun z9 => z9 k hke hc_27)], rfl⟩
  refine v_sub (lv' := [(2, .int 0), (1, .ref (ad (1))), (0, .ref (ad (tb i + 18)))]) [0, 2, 1] rfl ?_
  exact hloop _ 0 (Nat.lt_succ_self _) (by omega) lt_0
set_option maxHeartbeats 4000000 in
set_option maxRecDepth 100000 in
theorem c_X3_lastWriteOf {l : Launch} {D : va_G} {Y : Nat → ClassId} {zz : Nat → Nat} {n s cp cq : Nat} {ad : Nat → Nat} {M : vM} {i nw : Nat} (hi : i < n) (h16 : i < 16) (h4 : M.1 (tb i + 18) 4 = nI nw) (hw : nw ≤ 40) {p : Int32} : Ct l D Y zz yX3_lastWriteOf cX3_lastWriteOf 3 (some FieldType.int) 0 0 [.ref (ad (tb i + 18)), .int p] (wK Y n s cp cq ad M) 0 0 (fun r w => r = some (.int (lastI (M.1 (tb i + 16)) nw p)) ∧ w = wK Y n s cp cq ad M) := by
  refine v_entry (by decide +kernel) (Nat.le_of_ble_eq_true rfl) ?_
  intro K X R hR hnm hl hD hY hz
  subst hl hD hY hz
  refine v_sub (lv' := [(0, .ref (ad (tb i + 18))), (1, .int p)]) [0, 1] rfl ?_
  refine v_aload_n (pc' := 1) (i := 0) (j := 0) X dX3_lastWriteOf_0 rfl rfl rfl ?_
  refine fk_X3_26 (pc' := 4) X hi h16 (v := nI nw) h4 dX3_lastWriteOf_1 rfl ?_
  refine v_iconst (pc' := 5) (v := 1) X dX3_lastWriteOf_4 (by decide) rfl ?_
  refine v_isub (pc' := 6) X dX3_lastWriteOf_5 rfl ?_
  refine v_istore_n (pc' := 7) (i := 2) (lv' := [(2, .int (kq nw)), (0, .ref (ad (tb i + 18))), (1, .int p)]) X dX3_lastWriteOf_6 rfl (by decide) rfl rfl ?_
  have hloop : ∀ (dd_hloop : Nat) (q : Nat), q < dd_hloop → (q ≤ nw) → (lastI (M.1 (tb i + 16)) nw p = lastI (M.1 (tb i + 16)) q p) → V K 3 (wK (kY K) n s cp cq ad M) 0 0 7 [(2, .int (kq q)), (1, .int p), (0, .ref (ad (tb i + 18)))] [] := by
    intro dd_hloop
    induction dd_hloop with
    | zero => intro q hlt_hloop; exact absurd hlt_hloop (Nat.not_lt_zero _)
    | succ dd_hloop ih_hloop =>
      intro q hlt_hloop hq hlw
      cases q with
      | zero =>
        rw [kq_0]
        refine v_iload_n (pc' := 8) (i := 2) (j := 0) X dX3_lastWriteOf_7 rfl rfl rfl ?_
        refine v_if_lt (pc' := 11) (tgt := 29) X dX3_lastWriteOf_8 (by decide) rfl (fun _ => ?_) (fun hc_8 => absurd (by decide) hc_8)
        refine v_iconst (pc' := 30) (v := (-1)) X dX3_lastWriteOf_29 (by decide) rfl ?_
        refine v_ireturn X R (Nat.zero_le _) (Nat.zero_le _) dX3_lastWriteOf_30 ?_
        rw [hlw, show lastI (M.1 (tb i + 16)) 0 p = -1 from rfl]
        exact ⟨rfl, rfl⟩
      | succ q =>
        rw [kq_s]
        refine v_iload_n (pc' := 8) (i := 2) (j := 0) X dX3_lastWriteOf_7 rfl rfl rfl ?_
        refine v_if_lt (pc' := 11) (tgt := 29) X dX3_lastWriteOf_8 (by decide) rfl (fun hc_8 => absurd hc_8 (nI_pos (by omega))) (fun _ => ?_)
        refine v_aload_n (pc' := 12) (i := 0) (j := 2) X dX3_lastWriteOf_11 rfl rfl rfl ?_
        refine fk_X3_15 (pc' := 15) X hi h16 dX3_lastWriteOf_12 rfl ?_
        refine v_iload_n (pc' := 16) (i := 2) (j := 0) X dX3_lastWriteOf_15 rfl rfl rfl ?_
        refine ak_G16 (pc' := 17) X hi h16 (v := M.1 (tb i + 16) q) (q) rfl (by omega) rfl dX3_lastWriteOf_16 rfl ?_
        refine v_iload_n (pc' := 18) (i := 1) (j := 1) X dX3_lastWriteOf_17 rfl rfl rfl ?_
        refine v_icmp_ne (pc' := 21) (tgt := 23) X dX3_lastWriteOf_18 (by decide) rfl (fun hc_18 => ?_) (fun hc_18 => ?_)
        -- taken 18
        · refine v_iinc (pc' := 26) (j := 0) (v := kq q) (lv' := [(2, .int (kq q)), (1, .int p), (0, .ref (ad (tb i + 18)))]) X dX3_lastWriteOf_23 rfl (kq_d q) (by decide) rfl rfl ?_
          refine v_goto (pc' := 7) X dX3_lastWriteOf_26 (by decide) ?_
          exact ih_hloop q (by omega) (by omega) (hlw.trans (by rw [lastI, if_neg hc_18]))
        -- not taken 18
        · refine v_iload_n (pc' := 22) (i := 2) (j := 0) X dX3_lastWriteOf_21 rfl rfl rfl ?_
          refine v_ireturn X R (Nat.zero_le _) (Nat.zero_le _) dX3_lastWriteOf_22 ?_
          rw [hlw, lastI, if_pos hc_18]
          exact ⟨rfl, rfl⟩
  refine v_sub (lv' := [(2, .int (kq nw)), (1, .int p), (0, .ref (ad (tb i + 18)))]) [0, 2, 1] rfl ?_
  exact hloop _ nw (Nat.lt_succ_self _) (Nat.le_refl _) rfl
set_option maxHeartbeats 4000000 in
set_option maxRecDepth 100000 in
theorem c_X3_readsOneThatIsIn {l : Launch} {D : va_G} {Y : Nat → ClassId} {zz : Nat → Nat} {n s cp cq : Nat} {ad : Nat → Nat} {M : vM} {i j r9 nw : Nat} (hi : i < n) (h16 : i < 16) (hj : j < n) (hj16 : j < 16) (h3 : M.1 (tb i + 18) 3 = nI r9) (hr : r9 ≤ 40) (h4 : M.1 (tb j + 18) 4 = nI nw) (hw : nw ≤ 40) : Ct l D Y zz yX3_readsOneThatIsIn cX3_readsOneThatIsIn 3 (some FieldType.boolean) 1 22 [.ref (ad (tb i + 18)), .ref (ad (tb j + 18))] (wK Y n s cp cq ad M) 0 0 (fun r w => r = some (.int (bP (∃ k, k < r9 ∧ ¬ lastI (M.1 (tb j + 16)) nw (M.1 (tb i + 15) k) < 0))) ∧ w = wK Y n s cp cq ad M) := by
  refine v_entry (by decide +kernel) (Nat.le_of_ble_eq_true rfl) ?_
  intro K X R hR hnm hl hD hY hz
  subst hl hD hY hz
  refine v_sub (lv' := [(0, .ref (ad (tb i + 18))), (1, .ref (ad (tb j + 18)))]) [0, 1] rfl ?_
  refine v_iconst (pc' := 1) (v := 0) X dX3_readsOneThatIsIn_0 (by decide) rfl ?_
  refine v_istore_n (pc' := 2) (i := 2) (lv' := [(2, .int 0), (0, .ref (ad (tb i + 18))), (1, .ref (ad (tb j + 18)))]) X dX3_readsOneThatIsIn_1 rfl (by decide) rfl rfl ?_
  have hloop : ∀ (dd_hloop : Nat) (k : Nat), r9 - k < dd_hloop → (k ≤ r9) → (∀ q, q < k → lastI (M.1 (tb j + 16)) nw (M.1 (tb i + 15) q) < 0) → V K 3 (wK (kY K) n s cp cq ad M) 0 0 2 [(2, .int (nI k)), (1, .ref (ad (tb j + 18))), (0, .ref (ad (tb i + 18)))] [] := by
    intro dd_hloop
    induction dd_hloop with
    | zero => intro k hlt_hloop; exact absurd hlt_hloop (Nat.not_lt_zero _)
    | succ dd_hloop ih_hloop =>
      intro k hlt_hloop hk hno
      refine v_iload_n (pc' := 3) (i := 2) (j := 0) X dX3_readsOneThatIsIn_2 rfl rfl rfl ?_
      refine v_aload_n (pc' := 4) (i := 0) (j := 2) X dX3_readsOneThatIsIn_3 rfl rfl rfl ?_
      refine fk_X3_22 (pc' := 7) X hi h16 (v := nI r9) h3 dX3_readsOneThatIsIn_4 rfl ?_
      refine v_icmp_ge (pc' := 10) (tgt := 31) X dX3_readsOneThatIsIn_7 (by decide) rfl (fun hc_7 => ?_) (fun hc_7 => ?_)
      -- taken 7
      · refine v_iconst (pc' := 32) (v := 0) X dX3_readsOneThatIsIn_31 (by decide) rfl ?_
        refine v_zreturn X R (by decide) (Nat.zero_le _) (Nat.zero_le _) dX3_readsOneThatIsIn_32 ?_
        have hh := le_of_nI hc_7 (by omega) (by omega)
        exact ⟨by rw [bP_f (fun z9 => by obtain ⟨q9, y9, y8⟩ := z9; exact y8 (hno q9 (by omega)))], rfl⟩
      -- not taken 7
      · have hke : k < r9 := by
          rcases Nat.lt_or_ge k r9 with q9 | q9
          · exact q9
          · exact absurd (nI_le q9 (by omega)) hc_7
        refine v_aload_n (pc' := 11) (i := 1) (j := 1) X dX3_readsOneThatIsIn_10 rfl rfl rfl ?_
        refine v_aload_n (pc' := 12) (i := 0) (j := 2) X dX3_readsOneThatIsIn_11 rfl rfl rfl ?_
        refine fk_X3_9 (pc' := 15) X hi h16 dX3_readsOneThatIsIn_12 rfl ?_
        refine v_iload_n (pc' := 16) (i := 2) (j := 0) X dX3_readsOneThatIsIn_15 rfl rfl rfl ?_
        refine ak_G15 (pc' := 17) X hi h16 (v := M.1 (tb i + 15) k) (k) rfl (by omega) rfl dX3_readsOneThatIsIn_16 rfl ?_
        refine v_callV (pc' := 20) X (st := []) (c_X3_lastWriteOf (M := M) hj hj16 (nw := nw) h4 hw (p := M.1 (tb i + 15) k)) k_X3_lastWriteOf w_ml_X3_37 w_im_X3_lastWriteOf w_se_X3_X3_lastWriteOf (rw_X3 hj hj16) (by rw [hR]; exact ⟨Nat.le_of_ble_eq_true rfl, Nat.le_of_ble_eq_true rfl⟩) rfl rfl (Nat.le_of_ble_eq_true rfl) dX3_readsOneThatIsIn_17 rfl (⟨Nat.zero_le _, Nat.zero_le _⟩) ?_
        rintro _ _ ⟨rfl, rfl⟩
        refine v_if_lt (pc' := 23) (tgt := 25) X dX3_readsOneThatIsIn_20 (by decide) rfl (fun hc_20 => ?_) (fun hc_20 => ?_)
        -- taken 20
        · refine v_iinc (pc' := 28) (j := 0) (v := nI (k + 1)) (lv' := [(2, .int (nI (k + 1))), (1, .ref (ad (tb j + 18))), (0, .ref (ad (tb i + 18)))]) X dX3_readsOneThatIsIn_25 rfl (nI_add (k) 1) (by decide) rfl rfl ?_
          refine v_goto (pc' := 2) X dX3_readsOneThatIsIn_28 (by decide) ?_
          exact ih_hloop (k + 1) (by omega) (by omega) (lt_s hno hc_20)
        -- not taken 20
        · refine v_iconst (pc' := 24) (v := 1) X dX3_readsOneThatIsIn_23 (by decide) rfl ?_
          refine v_zreturn X R (by decide) (Nat.zero_le _) (Nat.zero_le _) dX3_readsOneThatIsIn_24 ?_
          exact ⟨by rw [bP_t ⟨k, hke, hc_20⟩], rfl⟩
  refine v_sub (lv' := [(2, .int 0), (1, .ref (ad (tb j + 18))), (0, .ref (ad (tb i + 18)))]) [0, 2, 1] rfl ?_
  exact hloop _ 0 (Nat.lt_succ_self _) (by omega) lt_0
set_option maxHeartbeats 4000000 in
set_option maxRecDepth 100000 in
theorem c_X5_append {l : Launch} {D : va_G} {Y : Nat → ClassId} {zz : Nat → Nat} {n s cp cq : Nat} {ad : Nat → Nat} {M : vM} {od pd : Nat} (h1 : M.1 2 1 = nI od) (ho : od < 200) (h2 : M.1 2 2 = nI pd) (hp : pd ≤ 200) {v : Int32} : Ct l D Y zz yX5_append cX5_append 2 none 0 0 [.ref (ad (2)), .int v] (wK Y n s cp cq ad M) 0 0 (fun r w => r = none ∧ w = wK Y n s cp cq ad (gPrint M od pd v)) := by
  refine v_entry (by decide +kernel) (Nat.le_of_ble_eq_true rfl) ?_
  intro K X R hR hnm hl hD hY hz
  subst hl hD hY hz
  refine v_sub (lv' := [(0, .ref (ad (2))), (1, .int v)]) [0, 1] rfl ?_
  refine v_aload_n (pc' := 1) (i := 0) (j := 0) X dX5_append_0 rfl rfl rfl ?_
  refine fk_X5_9 (pc' := 4) X dX5_append_1 rfl ?_
  refine v_aload_n (pc' := 5) (i := 0) (j := 0) X dX5_append_4 rfl rfl rfl ?_
  refine fk_X5_15 (pc' := 8) X (v := nI od) h1 dX5_append_5 rfl ?_
  refine v_aload_n (pc' := 9) (i := 0) (j := 0) X dX5_append_8 rfl rfl rfl ?_
  refine fk_X5_19 (pc' := 12) X (v := nI pd) h2 dX5_append_9 rfl ?_
  refine v_iaddV (pc' := 13) (v := nI (od + pd)) X (nI_add (od) (pd)) dX5_append_12 rfl ?_
  refine v_sipush (pc' := 16) (v := 200) X dX5_append_13 (by decide) rfl ?_
  refine v_irem (pc' := 17) X dX5_append_16 (by decide) rfl ?_
  refine v_iload_n (pc' := 18) (i := 1) (j := 1) X dX5_append_17 rfl rfl rfl ?_
  refine aq_K21 (pc' := 19) X ((od + pd) % 200) (rem_200 (by omega)) (by omega) dX5_append_18 rfl ?_
  refine v_aload_n (pc' := 20) (i := 0) (j := 0) X dX5_append_19 rfl rfl rfl ?_
  refine fk_X5_19 (pc' := 23) X (v := nI pd) ((congrFun (mI_n _ _ _ _ (by decide)) _).trans h2) dX5_append_20 rfl ?_
  refine v_sipush (pc' := 26) (v := 200) X dX5_append_23 (by decide) rfl ?_
  refine v_icmp_ge (pc' := 29) (tgt := 42) X dX5_append_26 (by decide) rfl (fun hc_26 => ?_) (fun hc_26 => ?_)
  -- taken 26
  · refine v_aload_n (pc' := 43) (i := 0) (j := 0) X dX5_append_42 rfl rfl rfl ?_
    refine v_aload_n (pc' := 44) (i := 0) (j := 0) X dX5_append_43 rfl rfl rfl ?_
    refine fk_X5_15 (pc' := 47) X (v := nI od) ((congrFun (mI_n _ _ _ _ (by decide)) _).trans h1) dX5_append_44 rfl ?_
    refine v_iconst (pc' := 48) (v := 1) X dX5_append_47 (by decide) rfl ?_
    refine v_iaddV (pc' := 49) (v := nI (od + 1)) X (nI_add (od) 1) dX5_append_48 rfl ?_
    refine v_sipush (pc' := 52) (v := 200) X dX5_append_49 (by decide) rfl ?_
    refine v_irem (pc' := 53) X dX5_append_52 (by decide) rfl ?_
    refine fq_X5_15 (pc' := 56) X dX5_append_53 rfl ?_
    refine v_return X R (Nat.zero_le _) (Nat.zero_le _) dX5_append_56 ?_
    unfold gPrint
    rw [if_neg (Int32.not_lt.mpr hc_26), rem_200 (by omega)]
    exact ⟨rfl, rfl⟩
  -- not taken 26
  · refine v_aload_n (pc' := 30) (i := 0) (j := 0) X dX5_append_29 rfl rfl rfl ?_
    refine v_dup (pc' := 31) X dX5_append_30 rfl rfl ?_
    refine fk_X5_19 (pc' := 34) X (v := nI pd) ((congrFun (mI_n _ _ _ _ (by decide)) _).trans h2) dX5_append_31 rfl ?_
    refine v_iconst (pc' := 35) (v := 1) X dX5_append_34 (by decide) rfl ?_
    refine v_iaddV (pc' := 36) (v := nI (pd + 1)) X (nI_add (pd) 1) dX5_append_35 rfl ?_
    refine fq_X5_19 (pc' := 39) X dX5_append_36 rfl ?_
    refine v_goto (pc' := 56) X dX5_append_39 (by decide) ?_
    refine v_return X R (Nat.zero_le _) (Nat.zero_le _) dX5_append_56 ?_
    unfold gPrint
    rw [if_pos (Int32.not_le.mp hc_26)]
    exact ⟨rfl, rfl⟩
set_option maxHeartbeats 4000000 in
set_option maxRecDepth 100000 in
theorem c_X5_numberAt {l : Launch} {D : va_G} {Y : Nat → ClassId} {zz : Nat → Nat} {n s cp cq : Nat} {ad : Nat → Nat} {M : vM} {od pd : Nat} (h1 : M.1 2 1 = nI od) (ho : od < 200) (h2 : M.1 2 2 = nI pd) (hp : pd ≤ 200) {k : Nat} (hk : k < 200) : Ct l D Y zz yX5_numberAt cX5_numberAt 2 (some FieldType.int) 0 0 [.ref (ad (2)), .int (nI k)] (wK Y n s cp cq ad M) 0 0 (fun r w => r = some (.int (M.1 21 ((od + k) % 200))) ∧ w = wK Y n s cp cq ad M) := by
  refine v_entry (by decide +kernel) (Nat.le_of_ble_eq_true rfl) ?_
  intro K X R hR hnm hl hD hY hz
  subst hl hD hY hz
  refine v_sub (lv' := [(0, .ref (ad (2))), (1, .int (nI k))]) [0, 1] rfl ?_
  refine v_aload_n (pc' := 1) (i := 0) (j := 0) X dX5_numberAt_0 rfl rfl rfl ?_
  refine fk_X5_9 (pc' := 4) X dX5_numberAt_1 rfl ?_
  refine v_aload_n (pc' := 5) (i := 0) (j := 0) X dX5_numberAt_4 rfl rfl rfl ?_
  refine fk_X5_15 (pc' := 8) X (v := nI od) h1 dX5_numberAt_5 rfl ?_
  refine v_iload_n (pc' := 9) (i := 1) (j := 1) X dX5_numberAt_8 rfl rfl rfl ?_
  refine v_iaddV (pc' := 10) (v := nI (od + k)) X (nI_add (od) (k)) dX5_numberAt_9 rfl ?_
  refine v_sipush (pc' := 13) (v := 200) X dX5_numberAt_10 (by decide) rfl ?_
  refine v_irem (pc' := 14) X dX5_numberAt_13 (by decide) rfl ?_
  refine ak_K21 (pc' := 15) X (v := M.1 21 ((od + k) % 200)) ((od + k) % 200) (rem_200 (by omega)) (by omega) rfl dX5_numberAt_14 rfl ?_
  refine v_ireturn X R (Nat.zero_le _) (Nat.zero_le _) dX5_numberAt_15 ?_
  exact ⟨rfl, rfl⟩
