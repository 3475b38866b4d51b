/-! THE CLASS: DO THE OPERANDS FIT -/
theorem i32_lt {x y : Int32} : x < y ↔ x.toInt < y.toInt := Int32.lt_iff_toInt_lt
theorem i32_le {x y : Int32} : x ≤ y ↔ x.toInt ≤ y.toInt := Int32.le_iff_toInt_le
theorem i32_7 : (7 : Int32).toInt = 7 := by decide
theorem i32_8 : (8 : Int32).toInt = 8 := by decide
theorem i32_15 : (15 : Int32).toInt = 15 := by decide
theorem i32_16 : (16 : Int32).toInt = 16 := by decide
theorem rg_of {x : Int32} (h1 : ¬ x < 0) (h2 : x < 16) : ¬ nrg x := by
  intro z9
  rcases z9 with z9 | z9
  · exact h1 z9
  · rw [i32_lt, i32_15] at z9; rw [i32_lt, i32_16] at h2; omega
theorem rg_no {x : Int32} (h : ¬ x < 16) : nrg x := by
  refine Or.inr ?_
  rw [i32_lt, i32_16] at h; rw [i32_lt, i32_15]; omega
theorem gl_of {x : Int32} (h1 : ¬ x < 0) (h2 : ¬ 8 ≤ x) : ¬ ngl x := by
  intro z9
  rcases z9 with z9 | z9
  · exact h1 z9
  · rw [i32_lt, i32_7] at z9; rw [i32_le, i32_8] at h2; omega
theorem gl_no {x : Int32} (h : 8 ≤ x) : ngl x := by
  refine Or.inr ?_
  rw [i32_le, i32_8] at h; rw [i32_lt, i32_7]; omega
theorem srt_0 {v : Int64} : (if 17179869184 ≤ v then (2 : Int32) else if 8589934592 ≤ v then 1 else 0) = 0 ↔ isI v := by
  unfold isI
  by_cases h : 17179869184 ≤ v
  · rw [if_pos h]
    refine ⟨fun z9 => absurd z9 (by decide), fun z9 => absurd (Int64.lt_of_lt_of_le z9 (Int64.le_trans (by decide) h)) (Int64.lt_irrefl)⟩
  · rw [if_neg h]
    by_cases h2 : 8589934592 ≤ v
    · rw [if_pos h2]
      exact ⟨fun z9 => absurd z9 (by decide), fun z9 => absurd (Int64.lt_of_lt_of_le z9 h2) (Int64.lt_irrefl)⟩
    · rw [if_neg h2]
      exact ⟨fun _ => Int64.not_le.mp h2, fun _ => rfl⟩
theorem srt_1 {v : Int64} : (if 17179869184 ≤ v then (2 : Int32) else if 8589934592 ≤ v then 1 else 0) = 1 ↔ isP v := by
  unfold isP
  by_cases h : 17179869184 ≤ v
  · rw [if_pos h]
    exact ⟨fun z9 => absurd z9 (by decide), fun z9 => absurd (Int64.lt_of_lt_of_le z9.2 h) (Int64.lt_irrefl)⟩
  · rw [if_neg h]
    by_cases h2 : 8589934592 ≤ v
    · rw [if_pos h2]
      exact ⟨fun _ => ⟨h2, Int64.not_le.mp h⟩, fun _ => rfl⟩
    · rw [if_neg h2]
      exact ⟨fun z9 => absurd z9 (by decide), fun z9 => absurd z9.1 h2⟩
theorem srt_2 {v : Int64} : (if 17179869184 ≤ v then (2 : Int32) else if 8589934592 ≤ v then 1 else 0) = 2 ↔ isV v := by
  unfold isV
  by_cases h : 17179869184 ≤ v
  · rw [if_pos h]; exact ⟨fun _ => h, fun _ => rfl⟩
  · rw [if_neg h]
    refine ⟨fun z9 => ?_, fun z9 => absurd z9 h⟩
    split at z9 <;> exact absurd z9 (by decide)
def gFit (M : vM) (b : Nat) (sg x : Int32) : Prop := if sg = 45 then True else if sg = 71 then ¬ ngl x else ¬ nrg x ∧ (if sg = 73 then isI (rgx M b x) else if sg = 80 then isP (rgx M b x) else if sg = 86 then isV (rgx M b x) else if sg = 67 then isI (rgx M b x) ∧ 0 ≤ rgx M b x else True)
theorem gFit_45 {M : vM} {b : Nat} {x : Int32} : gFit M b 45 x = True := by
  unfold gFit; rw [if_pos rfl]
theorem gFit_71 {M : vM} {b : Nat} {x : Int32} : gFit M b 71 x = ¬ ngl x := by
  unfold gFit; rw [if_neg (by decide), if_pos rfl]
theorem gFit_82 {M : vM} {b : Nat} {x : Int32} : gFit M b 82 x = (¬ nrg x ∧ True) := by
  unfold gFit; rw [if_neg (by decide), if_neg (by decide), if_neg (by decide), if_neg (by decide), if_neg (by decide), if_neg (by decide)]
theorem gFit_73 {M : vM} {b : Nat} {x : Int32} : gFit M b 73 x = (¬ nrg x ∧ isI (rgx M b x)) := by
  unfold gFit; rw [if_neg (by decide), if_neg (by decide), if_pos rfl]
theorem gFit_80 {M : vM} {b : Nat} {x : Int32} : gFit M b 80 x = (¬ nrg x ∧ isP (rgx M b x)) := by
  unfold gFit; rw [if_neg (by decide), if_neg (by decide), if_neg (by decide), if_pos rfl]
theorem gFit_86 {M : vM} {b : Nat} {x : Int32} : gFit M b 86 x = (¬ nrg x ∧ isV (rgx M b x)) := by
  unfold gFit; rw [if_neg (by decide), if_neg (by decide), if_neg (by decide), if_neg (by decide), if_pos rfl]
theorem gFit_67 {M : vM} {b : Nat} {x : Int32} : gFit M b 67 x = (¬ nrg x ∧ (isI (rgx M b x) ∧ 0 ≤ rgx M b x)) := by
  unfold gFit; rw [if_neg (by decide), if_neg (by decide), if_neg (by decide), if_neg (by decide), if_neg (by decide), if_pos rfl]
set_option maxHeartbeats 4000000 in
set_option maxRecDepth 100000 in
theorem c_X7_operandFits_45 {l : Launch} {D : va_G} {Y : Nat → ClassId} {zz : Nat → Nat} {n s cp cq : Nat} {ad : Nat → Nat} {M : vM} {i : Nat} (hi : i < n) (h16 : i < 16) {x : Int32}  : Ct l D Y zz yX7_operandFits cX7_operandFits 5 (some FieldType.boolean) 1 21 [.ref (ad (tb i)), .int 45, .int x] (wK Y n s cp cq ad M) 0 0 (fun r w => r = some (.int (bP (gFit M (tb i) 45 x))) ∧ w = wK Y n s cp cq ad M) := by
  refine v_entry (by decide +kernel) (Nat.le_of_ble_eq_true rfl) ?_
  intro K X R hR hnm hl hD hY hz
  subst hl hD hY hz
  refine v_sub (lv' := [(0, .ref (ad (tb i))), (1, .int 45), (2, .int x)]) [0, 1, 2] rfl ?_
  refine v_iload_n (pc' := 1) (i := 1) (j := 1) X dX7_operandFits_0 rfl rfl rfl ?_
  refine v_bipush (pc' := 3) (v := 45) X dX7_operandFits_1 (by decide) rfl ?_
  refine v_icmp_ne (pc' := 6) (tgt := 8) X dX7_operandFits_3 (by decide) rfl (fun hc_3 => absurd (by decide) hc_3) (fun _ => ?_)
  refine v_iconst (pc' := 7) (v := 1) X dX7_operandFits_6 (by decide) rfl ?_
  refine v_zreturn X R (by decide) (Nat.zero_le _) (Nat.zero_le _) dX7_operandFits_7 ?_
  exact ⟨by rw [gFit_45, bP_t trivial], rfl⟩
set_option maxHeartbeats 4000000 in
set_option maxRecDepth 100000 in
theorem c_X7_operandFits_71 {l : Launch} {D : va_G} {Y : Nat → ClassId} {zz : Nat → Nat} {n s cp cq : Nat} {ad : Nat → Nat} {M : vM} {i : Nat} (hi : i < n) (h16 : i < 16) {x : Int32}  : Ct l D Y zz yX7_operandFits cX7_operandFits 5 (some FieldType.boolean) 1 21 [.ref (ad (tb i)), .int 71, .int x] (wK Y n s cp cq ad M) 0 0 (fun r w => r = some (.int (bP (gFit M (tb i) 71 x))) ∧ w = wK Y n s cp cq ad M) := by
  refine v_entry (by decide +kernel) (Nat.le_of_ble_eq_true rfl) ?_
  intro K X R hR hnm hl hD hY hz
  subst hl hD hY hz
  refine v_sub (lv' := [(0, .ref (ad (tb i))), (1, .int 71), (2, .int x)]) [0, 1, 2] rfl ?_
  refine v_iload_n (pc' := 1) (i := 1) (j := 1) X dX7_operandFits_0 rfl rfl rfl ?_
  refine v_bipush (pc' := 3) (v := 45) X dX7_operandFits_1 (by decide) rfl ?_
  refine v_icmp_ne (pc' := 6) (tgt := 8) X dX7_operandFits_3 (by decide) rfl (fun _ => ?_) (fun hc_3 => absurd hc_3 (by decide))
  refine v_iload_n (pc' := 9) (i := 1) (j := 1) X dX7_operandFits_8 rfl rfl rfl ?_
  refine v_bipush (pc' := 11) (v := 71) X dX7_operandFits_9 (by decide) rfl ?_
  refine v_icmp_ne (pc' := 14) (tgt := 30) X dX7_operandFits_11 (by decide) rfl (fun hc_11 => absurd (by decide) hc_11) (fun _ => ?_)
  refine v_iload_n (pc' := 15) (i := 2) (j := 2) X dX7_operandFits_14 rfl rfl rfl ?_
  refine v_if_lt (pc' := 18) (tgt := 28) X dX7_operandFits_15 (by decide) rfl (fun hc_15 => ?_) (fun hc_15 => ?_)
  -- taken 15
  · refine v_iconst (pc' := 29) (v := 0) X dX7_operandFits_28 (by decide) rfl ?_
    refine v_zreturn X R (by decide) (Nat.zero_le _) (Nat.zero_le _) dX7_operandFits_29 ?_
    exact ⟨by rw [gFit_71, bP_f (fun z9 => z9 (Or.inl hc_15))], rfl⟩
  -- not taken 15
  · refine v_iload_n (pc' := 19) (i := 2) (j := 2) X dX7_operandFits_18 rfl rfl rfl ?_
    refine v_bipush (pc' := 21) (v := 8) X dX7_operandFits_19 (by decide) rfl ?_
    refine v_icmp_ge (pc' := 24) (tgt := 28) X dX7_operandFits_21 (by decide) rfl (fun hc_21 => ?_) (fun hc_21 => ?_)
    -- taken 21
    · refine v_iconst (pc' := 29) (v := 0) X dX7_operandFits_28 (by decide) rfl ?_
      refine v_zreturn X R (by decide) (Nat.zero_le _) (Nat.zero_le _) dX7_operandFits_29 ?_
      exact ⟨by rw [gFit_71, bP_f (fun z9 => z9 (gl_no hc_21))], rfl⟩
    -- not taken 21
    · refine v_iconst (pc' := 25) (v := 1) X dX7_operandFits_24 (by decide) rfl ?_
      refine v_goto (pc' := 29) X dX7_operandFits_25 (by decide) ?_
      refine v_zreturn X R (by decide) (Nat.zero_le _) (Nat.zero_le _) dX7_operandFits_29 ?_
      exact ⟨by rw [gFit_71, bP_t (gl_of hc_15 hc_21)], rfl⟩
set_option maxHeartbeats 4000000 in
set_option maxRecDepth 100000 in
theorem c_X7_operandFits_82 {l : Launch} {D : va_G} {Y : Nat → ClassId} {zz : Nat → Nat} {n s cp cq : Nat} {ad : Nat → Nat} {M : vM} {i : Nat} (hi : i < n) (h16 : i < 16) {x : Int32}  : Ct l D Y zz yX7_operandFits cX7_operandFits 5 (some FieldType.boolean) 1 21 [.ref (ad (tb i)), .int 82, .int x] (wK Y n s cp cq ad M) 0 0 (fun r w => r = some (.int (bP (gFit M (tb i) 82 x))) ∧ w = wK Y n s cp cq ad M) := by
  refine v_entry (by decide +kernel) (Nat.le_of_ble_eq_true rfl) ?_
  intro K X R hR hnm hl hD hY hz
  subst hl hD hY hz
  refine v_sub (lv' := [(0, .ref (ad (tb i))), (1, .int 82), (2, .int x)]) [0, 1, 2] rfl ?_
  refine v_iload_n (pc' := 1) (i := 1) (j := 1) X dX7_operandFits_0 rfl rfl rfl ?_
  refine v_bipush (pc' := 3) (v := 45) X dX7_operandFits_1 (by decide) rfl ?_
  refine v_icmp_ne (pc' := 6) (tgt := 8) X dX7_operandFits_3 (by decide) rfl (fun _ => ?_) (fun hc_3 => absurd hc_3 (by decide))
  refine v_iload_n (pc' := 9) (i := 1) (j := 1) X dX7_operandFits_8 rfl rfl rfl ?_
  refine v_bipush (pc' := 11) (v := 71) X dX7_operandFits_9 (by decide) rfl ?_
  refine v_icmp_ne (pc' := 14) (tgt := 30) X dX7_operandFits_11 (by decide) rfl (fun _ => ?_) (fun hc_11 => absurd hc_11 (by decide))
  refine v_iload_n (pc' := 31) (i := 2) (j := 2) X dX7_operandFits_30 rfl rfl rfl ?_
  refine v_if_lt (pc' := 34) (tgt := 40) X dX7_operandFits_31 (by decide) rfl (fun hc_31 => ?_) (fun hc_31 => ?_)
  -- taken 31
  · refine v_iconst (pc' := 41) (v := 0) X dX7_operandFits_40 (by decide) rfl ?_
    refine v_zreturn X R (by decide) (Nat.zero_le _) (Nat.zero_le _) dX7_operandFits_41 ?_
    exact ⟨by rw [gFit_82, bP_f (fun z9 => z9.1 (Or.inl hc_31))], rfl⟩
  -- not taken 31
  · refine v_iload_n (pc' := 35) (i := 2) (j := 2) X dX7_operandFits_34 rfl rfl rfl ?_
    refine v_bipush (pc' := 37) (v := 16) X dX7_operandFits_35 (by decide) rfl ?_
    refine v_icmp_lt (pc' := 40) (tgt := 42) X dX7_operandFits_37 (by decide) rfl (fun hc_37 => ?_) (fun hc_37 => ?_)
    -- taken 37
    · have hnr : ¬ nrg x := rg_of hc_31 hc_37
      obtain ⟨hx1, hx2⟩ := nrg_not hnr
      refine v_aload_n (pc' := 43) (i := 0) (j := 0) X dX7_operandFits_42 rfl rfl rfl ?_
      refine fk_X7_119 (pc' := 46) X hi h16 dX7_operandFits_43 rfl ?_
      refine v_iload_n (pc' := 47) (i := 2) (j := 2) X dX7_operandFits_46 rfl rfl rfl ?_
      refine ak_G8 (pc' := 48) X hi h16 (v := M.2 (tb i + 8) (nn x)) (nn x) hx1 (by omega) rfl dX7_operandFits_47 rfl ?_
      refine v_lstore_n (pc' := 49) (i := 3) (lv' := [(3, .long (M.2 (tb i + 8) (nn x))), (0, .ref (ad (tb i))), (1, .int 82), (2, .int x)]) X dX7_operandFits_48 rfl (by decide) rfl rfl ?_
      refine v_iload_n (pc' := 50) (i := 1) (j := 2) X dX7_operandFits_49 rfl rfl rfl ?_
      refine v_lookup (off := 102) (tgt := 152) X dX7_operandFits_50 (by decide) (by decide) (by decide) ?_
      refine v_iconst (pc' := 153) (v := 1) X dX7_operandFits_152 (by decide) rfl ?_
      refine v_zreturn X R (by decide) (Nat.zero_le _) (Nat.zero_le _) dX7_operandFits_153 ?_
      exact ⟨by rw [gFit_82, bP_t ⟨hnr, trivial⟩], rfl⟩
    -- not taken 37
    · refine v_iconst (pc' := 41) (v := 0) X dX7_operandFits_40 (by decide) rfl ?_
      refine v_zreturn X R (by decide) (Nat.zero_le _) (Nat.zero_le _) dX7_operandFits_41 ?_
      exact ⟨by rw [gFit_82, bP_f (fun z9 => z9.1 (rg_no hc_37))], rfl⟩
set_option maxHeartbeats 4000000 in
set_option maxRecDepth 100000 in
theorem c_X7_operandFits_73 {l : Launch} {D : va_G} {Y : Nat → ClassId} {zz : Nat → Nat} {n s cp cq : Nat} {ad : Nat → Nat} {M : vM} {i : Nat} (hi : i < n) (h16 : i < 16) {x : Int32}  : Ct l D Y zz yX7_operandFits cX7_operandFits 5 (some FieldType.boolean) 1 21 [.ref (ad (tb i)), .int 73, .int x] (wK Y n s cp cq ad M) 0 0 (fun r w => r = some (.int (bP (gFit M (tb i) 73 x))) ∧ w = wK Y n s cp cq ad M) := by
  refine v_entry (by decide +kernel) (Nat.le_of_ble_eq_true rfl) ?_
  intro K X R hR hnm hl hD hY hz
  subst hl hD hY hz
  refine v_sub (lv' := [(0, .ref (ad (tb i))), (1, .int 73), (2, .int x)]) [0, 1, 2] rfl ?_
  refine v_iload_n (pc' := 1) (i := 1) (j := 1) X dX7_operandFits_0 rfl rfl rfl ?_
  refine v_bipush (pc' := 3) (v := 45) X dX7_operandFits_1 (by decide) rfl ?_
  refine v_icmp_ne (pc' := 6) (tgt := 8) X dX7_operandFits_3 (by decide) rfl (fun _ => ?_) (fun hc_3 => absurd hc_3 (by decide))
  refine v_iload_n (pc' := 9) (i := 1) (j := 1) X dX7_operandFits_8 rfl rfl rfl ?_
  refine v_bipush (pc' := 11) (v := 71) X dX7_operandFits_9 (by decide) rfl ?_
  refine v_icmp_ne (pc' := 14) (tgt := 30) X dX7_operandFits_11 (by decide) rfl (fun _ => ?_) (fun hc_11 => absurd hc_11 (by decide))
  refine v_iload_n (pc' := 31) (i := 2) (j := 2) X dX7_operandFits_30 rfl rfl rfl ?_
  refine v_if_lt (pc' := 34) (tgt := 40) X dX7_operandFits_31 (by decide) rfl (fun hc_31 => ?_) (fun hc_31 => ?_)
  -- taken 31
  · refine v_iconst (pc' := 41) (v := 0) X dX7_operandFits_40 (by decide) rfl ?_
    refine v_zreturn X R (by decide) (Nat.zero_le _) (Nat.zero_le _) dX7_operandFits_41 ?_
    exact ⟨by rw [gFit_73, bP_f (fun z9 => z9.1 (Or.inl hc_31))], rfl⟩
  -- not taken 31
  · refine v_iload_n (pc' := 35) (i := 2) (j := 2) X dX7_operandFits_34 rfl rfl rfl ?_
    refine v_bipush (pc' := 37) (v := 16) X dX7_operandFits_35 (by decide) rfl ?_
    refine v_icmp_lt (pc' := 40) (tgt := 42) X dX7_operandFits_37 (by decide) rfl (fun hc_37 => ?_) (fun hc_37 => ?_)
    -- taken 37
    · have hnr : ¬ nrg x := rg_of hc_31 hc_37
      obtain ⟨hx1, hx2⟩ := nrg_not hnr
      refine v_aload_n (pc' := 43) (i := 0) (j := 0) X dX7_operandFits_42 rfl rfl rfl ?_
      refine fk_X7_119 (pc' := 46) X hi h16 dX7_operandFits_43 rfl ?_
      refine v_iload_n (pc' := 47) (i := 2) (j := 2) X dX7_operandFits_46 rfl rfl rfl ?_
      refine ak_G8 (pc' := 48) X hi h16 (v := M.2 (tb i + 8) (nn x)) (nn x) hx1 (by omega) rfl dX7_operandFits_47 rfl ?_
      refine v_lstore_n (pc' := 49) (i := 3) (lv' := [(3, .long (M.2 (tb i + 8) (nn x))), (0, .ref (ad (tb i))), (1, .int 73), (2, .int x)]) X dX7_operandFits_48 rfl (by decide) rfl rfl ?_
      refine v_iload_n (pc' := 50) (i := 1) (j := 2) X dX7_operandFits_49 rfl rfl rfl ?_
      refine v_lookup (off := 42) (tgt := 92) X dX7_operandFits_50 (by decide) (by decide) (by decide) ?_
      refine v_lload_n (pc' := 93) (i := 3) (j := 0) X dX7_operandFits_92 rfl rfl rfl ?_
      refine v_callS (pc' := 96) X (st := []) (c_X7_sortOf (n := n) (s := s) (cp := cp) (cq := cq) (ad := ad) (M := M) (v := M.2 (tb i + 8) (nn x))) k_X7_sortOf w_ml_X7_250 w_st_X7_sortOf (by rw [hR]; exact ⟨Nat.le_of_ble_eq_true rfl, Nat.le_of_ble_eq_true rfl⟩) rfl rfl (Nat.le_of_ble_eq_true rfl) dX7_operandFits_93 rfl (⟨Nat.zero_le _, Nat.zero_le _⟩) ?_
      rintro _ _ ⟨rfl, rfl⟩
      refine v_if_ne (pc' := 99) (tgt := 103) X dX7_operandFits_96 (by decide) rfl (fun hc_96 => ?_) (fun hc_96 => ?_)
      -- taken 96
      · refine v_iconst (pc' := 104) (v := 0) X dX7_operandFits_103 (by decide) rfl ?_
        refine v_zreturn X R (by decide) (Nat.zero_le _) (Nat.zero_le _) dX7_operandFits_104 ?_
        exact ⟨by rw [gFit_73, bP_f (fun z9 => hc_96 (srt_0.mpr z9.2))], rfl⟩
      -- not taken 96
      · refine v_iconst (pc' := 100) (v := 1) X dX7_operandFits_99 (by decide) rfl ?_
        refine v_goto (pc' := 104) X dX7_operandFits_100 (by decide) ?_
        refine v_zreturn X R (by decide) (Nat.zero_le _) (Nat.zero_le _) dX7_operandFits_104 ?_
        exact ⟨by rw [gFit_73, bP_t ⟨hnr, srt_0.mp hc_96⟩], rfl⟩
    -- not taken 37
    · refine v_iconst (pc' := 41) (v := 0) X dX7_operandFits_40 (by decide) rfl ?_
      refine v_zreturn X R (by decide) (Nat.zero_le _) (Nat.zero_le _) dX7_operandFits_41 ?_
      exact ⟨by rw [gFit_73, bP_f (fun z9 => z9.1 (rg_no hc_37))], rfl⟩
set_option maxHeartbeats 4000000 in
set_option maxRecDepth 100000 in
theorem c_X7_operandFits_80 {l : Launch} {D : va_G} {Y : Nat → ClassId} {zz : Nat → Nat} {n s cp cq : Nat} {ad : Nat → Nat} {M : vM} {i : Nat} (hi : i < n) (h16 : i < 16) {x : Int32}  : Ct l D Y zz yX7_operandFits cX7_operandFits 5 (some FieldType.boolean) 1 21 [.ref (ad (tb i)), .int 80, .int x] (wK Y n s cp cq ad M) 0 0 (fun r w => r = some (.int (bP (gFit M (tb i) 80 x))) ∧ w = wK Y n s cp cq ad M) := by
  refine v_entry (by decide +kernel) (Nat.le_of_ble_eq_true rfl) ?_
  intro K X R hR hnm hl hD hY hz
  subst hl hD hY hz
  refine v_sub (lv' := [(0, .ref (ad (tb i))), (1, .int 80), (2, .int x)]) [0, 1, 2] rfl ?_
  refine v_iload_n (pc' := 1) (i := 1) (j := 1) X dX7_operandFits_0 rfl rfl rfl ?_
  refine v_bipush (pc' := 3) (v := 45) X dX7_operandFits_1 (by decide) rfl ?_
  refine v_icmp_ne (pc' := 6) (tgt := 8) X dX7_operandFits_3 (by decide) rfl (fun _ => ?_) (fun hc_3 => absurd hc_3 (by decide))
  refine v_iload_n (pc' := 9) (i := 1) (j := 1) X dX7_operandFits_8 rfl rfl rfl ?_
  refine v_bipush (pc' := 11) (v := 71) X dX7_operandFits_9 (by decide) rfl ?_
  refine v_icmp_ne (pc' := 14) (tgt := 30) X dX7_operandFits_11 (by decide) rfl (fun _ => ?_) (fun hc_11 => absurd hc_11 (by decide))
  refine v_iload_n (pc' := 31) (i := 2) (j := 2) X dX7_operandFits_30 rfl rfl rfl ?_
  refine v_if_lt (pc' := 34) (tgt := 40) X dX7_operandFits_31 (by decide) rfl (fun hc_31 => ?_) (fun hc_31 => ?_)
  -- taken 31
  · refine v_iconst (pc' := 41) (v := 0) X dX7_operandFits_40 (by decide) rfl ?_
    refine v_zreturn X R (by decide) (Nat.zero_le _) (Nat.zero_le _) dX7_operandFits_41 ?_
    exact ⟨by rw [gFit_80, bP_f (fun z9 => z9.1 (Or.inl hc_31))], rfl⟩
  -- not taken 31
  · refine v_iload_n (pc' := 35) (i := 2) (j := 2) X dX7_operandFits_34 rfl rfl rfl ?_
    refine v_bipush (pc' := 37) (v := 16) X dX7_operandFits_35 (by decide) rfl ?_
    refine v_icmp_lt (pc' := 40) (tgt := 42) X dX7_operandFits_37 (by decide) rfl (fun hc_37 => ?_) (fun hc_37 => ?_)
    -- taken 37
    · have hnr : ¬ nrg x := rg_of hc_31 hc_37
      obtain ⟨hx1, hx2⟩ := nrg_not hnr
      refine v_aload_n (pc' := 43) (i := 0) (j := 0) X dX7_operandFits_42 rfl rfl rfl ?_
      refine fk_X7_119 (pc' := 46) X hi h16 dX7_operandFits_43 rfl ?_
      refine v_iload_n (pc' := 47) (i := 2) (j := 2) X dX7_operandFits_46 rfl rfl rfl ?_
      refine ak_G8 (pc' := 48) X hi h16 (v := M.2 (tb i + 8) (nn x)) (nn x) hx1 (by omega) rfl dX7_operandFits_47 rfl ?_
      refine v_lstore_n (pc' := 49) (i := 3) (lv' := [(3, .long (M.2 (tb i + 8) (nn x))), (0, .ref (ad (tb i))), (1, .int 80), (2, .int x)]) X dX7_operandFits_48 rfl (by decide) rfl rfl ?_
      refine v_iload_n (pc' := 50) (i := 1) (j := 2) X dX7_operandFits_49 rfl rfl rfl ?_
      refine v_lookup (off := 55) (tgt := 105) X dX7_operandFits_50 (by decide) (by decide) (by decide) ?_
      refine v_lload_n (pc' := 106) (i := 3) (j := 0) X dX7_operandFits_105 rfl rfl rfl ?_
      refine v_callS (pc' := 109) X (st := []) (c_X7_sortOf (n := n) (s := s) (cp := cp) (cq := cq) (ad := ad) (M := M) (v := M.2 (tb i + 8) (nn x))) k_X7_sortOf w_ml_X7_250 w_st_X7_sortOf (by rw [hR]; exact ⟨Nat.le_of_ble_eq_true rfl, Nat.le_of_ble_eq_true rfl⟩) rfl rfl (Nat.le_of_ble_eq_true rfl) dX7_operandFits_106 rfl (⟨Nat.zero_le _, Nat.zero_le _⟩) ?_
      rintro _ _ ⟨rfl, rfl⟩
      refine v_iconst (pc' := 110) (v := 1) X dX7_operandFits_109 (by decide) rfl ?_
      refine v_icmp_ne (pc' := 113) (tgt := 117) X dX7_operandFits_110 (by decide) rfl (fun hc_110 => ?_) (fun hc_110 => ?_)
      -- taken 110
      · refine v_iconst (pc' := 118) (v := 0) X dX7_operandFits_117 (by decide) rfl ?_
        refine v_zreturn X R (by decide) (Nat.zero_le _) (Nat.zero_le _) dX7_operandFits_118 ?_
        exact ⟨by rw [gFit_80, bP_f (fun z9 => hc_110 (srt_1.mpr z9.2))], rfl⟩
      -- not taken 110
      · refine v_iconst (pc' := 114) (v := 1) X dX7_operandFits_113 (by decide) rfl ?_
        refine v_goto (pc' := 118) X dX7_operandFits_114 (by decide) ?_
        refine v_zreturn X R (by decide) (Nat.zero_le _) (Nat.zero_le _) dX7_operandFits_118 ?_
        exact ⟨by rw [gFit_80, bP_t ⟨hnr, srt_1.mp hc_110⟩], rfl⟩
    -- not taken 37
    · refine v_iconst (pc' := 41) (v := 0) X dX7_operandFits_40 (by decide) rfl ?_
      refine v_zreturn X R (by decide) (Nat.zero_le _) (Nat.zero_le _) dX7_operandFits_41 ?_
      exact ⟨by rw [gFit_80, bP_f (fun z9 => z9.1 (rg_no hc_37))], rfl⟩
set_option maxHeartbeats 4000000 in
set_option maxRecDepth 100000 in
theorem c_X7_operandFits_86 {l : Launch} {D : va_G} {Y : Nat → ClassId} {zz : Nat → Nat} {n s cp cq : Nat} {ad : Nat → Nat} {M : vM} {i : Nat} (hi : i < n) (h16 : i < 16) {x : Int32}  : Ct l D Y zz yX7_operandFits cX7_operandFits 5 (some FieldType.boolean) 1 21 [.ref (ad (tb i)), .int 86, .int x] (wK Y n s cp cq ad M) 0 0 (fun r w => r = some (.int (bP (gFit M (tb i) 86 x))) ∧ w = wK Y n s cp cq ad M) := by
  refine v_entry (by decide +kernel) (Nat.le_of_ble_eq_true rfl) ?_
  intro K X R hR hnm hl hD hY hz
  subst hl hD hY hz
  refine v_sub (lv' := [(0, .ref (ad (tb i))), (1, .int 86), (2, .int x)]) [0, 1, 2] rfl ?_
  refine v_iload_n (pc' := 1) (i := 1) (j := 1) X dX7_operandFits_0 rfl rfl rfl ?_
  refine v_bipush (pc' := 3) (v := 45) X dX7_operandFits_1 (by decide) rfl ?_
  refine v_icmp_ne (pc' := 6) (tgt := 8) X dX7_operandFits_3 (by decide) rfl (fun _ => ?_) (fun hc_3 => absurd hc_3 (by decide))
  refine v_iload_n (pc' := 9) (i := 1) (j := 1) X dX7_operandFits_8 rfl rfl rfl ?_
  refine v_bipush (pc' := 11) (v := 71) X dX7_operandFits_9 (by decide) rfl ?_
  refine v_icmp_ne (pc' := 14) (tgt := 30) X dX7_operandFits_11 (by decide) rfl (fun _ => ?_) (fun hc_11 => absurd hc_11 (by decide))
  refine v_iload_n (pc' := 31) (i := 2) (j := 2) X dX7_operandFits_30 rfl rfl rfl ?_
  refine v_if_lt (pc' := 34) (tgt := 40) X dX7_operandFits_31 (by decide) rfl (fun hc_31 => ?_) (fun hc_31 => ?_)
  -- taken 31
  · refine v_iconst (pc' := 41) (v := 0) X dX7_operandFits_40 (by decide) rfl ?_
    refine v_zreturn X R (by decide) (Nat.zero_le _) (Nat.zero_le _) dX7_operandFits_41 ?_
    exact ⟨by rw [gFit_86, bP_f (fun z9 => z9.1 (Or.inl hc_31))], rfl⟩
  -- not taken 31
  · refine v_iload_n (pc' := 35) (i := 2) (j := 2) X dX7_operandFits_34 rfl rfl rfl ?_
    refine v_bipush (pc' := 37) (v := 16) X dX7_operandFits_35 (by decide) rfl ?_
    refine v_icmp_lt (pc' := 40) (tgt := 42) X dX7_operandFits_37 (by decide) rfl (fun hc_37 => ?_) (fun hc_37 => ?_)
    -- taken 37
    · have hnr : ¬ nrg x := rg_of hc_31 hc_37
      obtain ⟨hx1, hx2⟩ := nrg_not hnr
      refine v_aload_n (pc' := 43) (i := 0) (j := 0) X dX7_operandFits_42 rfl rfl rfl ?_
      refine fk_X7_119 (pc' := 46) X hi h16 dX7_operandFits_43 rfl ?_
      refine v_iload_n (pc' := 47) (i := 2) (j := 2) X dX7_operandFits_46 rfl rfl rfl ?_
      refine ak_G8 (pc' := 48) X hi h16 (v := M.2 (tb i + 8) (nn x)) (nn x) hx1 (by omega) rfl dX7_operandFits_47 rfl ?_
      refine v_lstore_n (pc' := 49) (i := 3) (lv' := [(3, .long (M.2 (tb i + 8) (nn x))), (0, .ref (ad (tb i))), (1, .int 86), (2, .int x)]) X dX7_operandFits_48 rfl (by decide) rfl rfl ?_
      refine v_iload_n (pc' := 50) (i := 1) (j := 2) X dX7_operandFits_49 rfl rfl rfl ?_
      refine v_lookup (off := 69) (tgt := 119) X dX7_operandFits_50 (by decide) (by decide) (by decide) ?_
      refine v_lload_n (pc' := 120) (i := 3) (j := 0) X dX7_operandFits_119 rfl rfl rfl ?_
      refine v_callS (pc' := 123) X (st := []) (c_X7_sortOf (n := n) (s := s) (cp := cp) (cq := cq) (ad := ad) (M := M) (v := M.2 (tb i + 8) (nn x))) k_X7_sortOf w_ml_X7_250 w_st_X7_sortOf (by rw [hR]; exact ⟨Nat.le_of_ble_eq_true rfl, Nat.le_of_ble_eq_true rfl⟩) rfl rfl (Nat.le_of_ble_eq_true rfl) dX7_operandFits_120 rfl (⟨Nat.zero_le _, Nat.zero_le _⟩) ?_
      rintro _ _ ⟨rfl, rfl⟩
      refine v_iconst (pc' := 124) (v := 2) X dX7_operandFits_123 (by decide) rfl ?_
      refine v_icmp_ne (pc' := 127) (tgt := 131) X dX7_operandFits_124 (by decide) rfl (fun hc_124 => ?_) (fun hc_124 => ?_)
      -- taken 124
      · refine v_iconst (pc' := 132) (v := 0) X dX7_operandFits_131 (by decide) rfl ?_
        refine v_zreturn X R (by decide) (Nat.zero_le _) (Nat.zero_le _) dX7_operandFits_132 ?_
        exact ⟨by rw [gFit_86, bP_f (fun z9 => hc_124 (srt_2.mpr z9.2))], rfl⟩
      -- not taken 124
      · refine v_iconst (pc' := 128) (v := 1) X dX7_operandFits_127 (by decide) rfl ?_
        refine v_goto (pc' := 132) X dX7_operandFits_128 (by decide) ?_
        refine v_zreturn X R (by decide) (Nat.zero_le _) (Nat.zero_le _) dX7_operandFits_132 ?_
        exact ⟨by rw [gFit_86, bP_t ⟨hnr, srt_2.mp hc_124⟩], rfl⟩
    -- not taken 37
    · refine v_iconst (pc' := 41) (v := 0) X dX7_operandFits_40 (by decide) rfl ?_
      refine v_zreturn X R (by decide) (Nat.zero_le _) (Nat.zero_le _) dX7_operandFits_41 ?_
      exact ⟨by rw [gFit_86, bP_f (fun z9 => z9.1 (rg_no hc_37))], rfl⟩
set_option maxHeartbeats 4000000 in
set_option maxRecDepth 100000 in
theorem c_X7_operandFits_67 {l : Launch} {D : va_G} {Y : Nat → ClassId} {zz : Nat → Nat} {n s cp cq : Nat} {ad : Nat → Nat} {M : vM} {i : Nat} (hi : i < n) (h16 : i < 16) {x : Int32}  : Ct l D Y zz yX7_operandFits cX7_operandFits 5 (some FieldType.boolean) 1 21 [.ref (ad (tb i)), .int 67, .int x] (wK Y n s cp cq ad M) 0 0 (fun r w => r = some (.int (bP (gFit M (tb i) 67 x))) ∧ w = wK Y n s cp cq ad M) := by
  refine v_entry (by decide +kernel) (Nat.le_of_ble_eq_true rfl) ?_
  intro K X R hR hnm hl hD hY hz
  subst hl hD hY hz
  refine v_sub (lv' := [(0, .ref (ad (tb i))), (1, .int 67), (2, .int x)]) [0, 1, 2] rfl ?_
  refine v_iload_n (pc' := 1) (i := 1) (j := 1) X dX7_operandFits_0 rfl rfl rfl ?_
  refine v_bipush (pc' := 3) (v := 45) X dX7_operandFits_1 (by decide) rfl ?_
  refine v_icmp_ne (pc' := 6) (tgt := 8) X dX7_operandFits_3 (by decide) rfl (fun _ => ?_) (fun hc_3 => absurd hc_3 (by decide))
  refine v_iload_n (pc' := 9) (i := 1) (j := 1) X dX7_operandFits_8 rfl rfl rfl ?_
  refine v_bipush (pc' := 11) (v := 71) X dX7_operandFits_9 (by decide) rfl ?_
  refine v_icmp_ne (pc' := 14) (tgt := 30) X dX7_operandFits_11 (by decide) rfl (fun _ => ?_) (fun hc_11 => absurd hc_11 (by decide))
  refine v_iload_n (pc' := 31) (i := 2) (j := 2) X dX7_operandFits_30 rfl rfl rfl ?_
  refine v_if_lt (pc' := 34) (tgt := 40) X dX7_operandFits_31 (by decide) rfl (fun hc_31 => ?_) (fun hc_31 => ?_)
  -- taken 31
  · refine v_iconst (pc' := 41) (v := 0) X dX7_operandFits_40 (by decide) rfl ?_
    refine v_zreturn X R (by decide) (Nat.zero_le _) (Nat.zero_le _) dX7_operandFits_41 ?_
    exact ⟨by rw [gFit_67, bP_f (fun z9 => z9.1 (Or.inl hc_31))], rfl⟩
  -- not taken 31
  · refine v_iload_n (pc' := 35) (i := 2) (j := 2) X dX7_operandFits_34 rfl rfl rfl ?_
    refine v_bipush (pc' := 37) (v := 16) X dX7_operandFits_35 (by decide) rfl ?_
    refine v_icmp_lt (pc' := 40) (tgt := 42) X dX7_operandFits_37 (by decide) rfl (fun hc_37 => ?_) (fun hc_37 => ?_)
    -- taken 37
    · have hnr : ¬ nrg x := rg_of hc_31 hc_37
      obtain ⟨hx1, hx2⟩ := nrg_not hnr
      refine v_aload_n (pc' := 43) (i := 0) (j := 0) X dX7_operandFits_42 rfl rfl rfl ?_
      refine fk_X7_119 (pc' := 46) X hi h16 dX7_operandFits_43 rfl ?_
      refine v_iload_n (pc' := 47) (i := 2) (j := 2) X dX7_operandFits_46 rfl rfl rfl ?_
      refine ak_G8 (pc' := 48) X hi h16 (v := M.2 (tb i + 8) (nn x)) (nn x) hx1 (by omega) rfl dX7_operandFits_47 rfl ?_
      refine v_lstore_n (pc' := 49) (i := 3) (lv' := [(3, .long (M.2 (tb i + 8) (nn x))), (0, .ref (ad (tb i))), (1, .int 67), (2, .int x)]) X dX7_operandFits_48 rfl (by decide) rfl rfl ?_
      refine v_iload_n (pc' := 50) (i := 1) (j := 2) X dX7_operandFits_49 rfl rfl rfl ?_
      refine v_lookup (off := 83) (tgt := 133) X dX7_operandFits_50 (by decide) (by decide) (by decide) ?_
      refine v_lload_n (pc' := 134) (i := 3) (j := 0) X dX7_operandFits_133 rfl rfl rfl ?_
      refine v_callS (pc' := 137) X (st := []) (c_X7_sortOf (n := n) (s := s) (cp := cp) (cq := cq) (ad := ad) (M := M) (v := M.2 (tb i + 8) (nn x))) k_X7_sortOf w_ml_X7_250 w_st_X7_sortOf (by rw [hR]; exact ⟨Nat.le_of_ble_eq_true rfl, Nat.le_of_ble_eq_true rfl⟩) rfl rfl (Nat.le_of_ble_eq_true rfl) dX7_operandFits_134 rfl (⟨Nat.zero_le _, Nat.zero_le _⟩) ?_
      rintro _ _ ⟨rfl, rfl⟩
      refine v_if_ne (pc' := 140) (tgt := 150) X dX7_operandFits_137 (by decide) rfl (fun hc_137 => ?_) (fun hc_137 => ?_)
      -- taken 137
      · refine v_iconst (pc' := 151) (v := 0) X dX7_operandFits_150 (by decide) rfl ?_
        refine v_zreturn X R (by decide) (Nat.zero_le _) (Nat.zero_le _) dX7_operandFits_151 ?_
        exact ⟨by rw [gFit_67, bP_f (fun z9 => hc_137 (srt_0.mpr z9.2.1))], rfl⟩
      -- not taken 137
      · refine v_lload_n (pc' := 141) (i := 3) (j := 0) X dX7_operandFits_140 rfl rfl rfl ?_
        refine v_lconst (pc' := 142) (v := 0) X dX7_operandFits_141 (by decide) rfl ?_
        refine v_lcmp (pc' := 143) X dX7_operandFits_142 rfl ?_
        refine v_lif_lt (pc' := 146) (tgt := 150) X dX7_operandFits_143 (by decide) rfl (fun hc_143 => ?_) (fun hc_143 => ?_)
        -- taken 143
        · refine v_iconst (pc' := 151) (v := 0) X dX7_operandFits_150 (by decide) rfl ?_
          refine v_zreturn X R (by decide) (Nat.zero_le _) (Nat.zero_le _) dX7_operandFits_151 ?_
          exact ⟨by rw [gFit_67, bP_f (fun z9 => Int64.not_lt.mpr z9.2.2 hc_143)], rfl⟩
        -- not taken 143
        · refine v_iconst (pc' := 147) (v := 1) X dX7_operandFits_146 (by decide) rfl ?_
          refine v_goto (pc' := 151) X dX7_operandFits_147 (by decide) ?_
          refine v_zreturn X R (by decide) (Nat.zero_le _) (Nat.zero_le _) dX7_operandFits_151 ?_
          exact ⟨by rw [gFit_67, bP_t ⟨hnr, srt_0.mp hc_137, hc_143⟩], rfl⟩
    -- not taken 37
    · refine v_iconst (pc' := 41) (v := 0) X dX7_operandFits_40 (by decide) rfl ?_
      refine v_zreturn X R (by decide) (Nat.zero_le _) (Nat.zero_le _) dX7_operandFits_41 ?_
      exact ⟨by rw [gFit_67, bP_f (fun z9 => z9.1 (rg_no hc_37))], rfl⟩
theorem sgn_in : ∀ t, t < 12 → ∀ k, k < 3 → sgn t k = 45 ∨ sgn t k = 71 ∨ sgn t k = 82 ∨ sgn t k = 73 ∨ sgn t k = 80 ∨ sgn t k = 86 ∨ sgn t k = 67 := by decide
theorem opS_lt : ∀ o, o < 30 → opS.getD o 0 < 12 := by decide
theorem c_X7_operandFits {l : Launch} {D : va_G} {Y : Nat → ClassId} {zz : Nat → Nat} {n s cp cq : Nat} {ad : Nat → Nat} {M : vM} {i : Nat} (hi : i < n) (h16 : i < 16) {t k : Nat} (ht : t < 12) (hk : k < 3) {x : Int32} : Ct l D Y zz yX7_operandFits cX7_operandFits 5 (some FieldType.boolean) 1 21 [.ref (ad (tb i)), .int (sgn t k), .int x] (wK Y n s cp cq ad M) 0 0 (fun r w => r = some (.int (bP (gFit M (tb i) (sgn t k) x))) ∧ w = wK Y n s cp cq ad M) := by
  rcases sgn_in t ht k hk with e | e | e | e | e | e | e <;> rw [e]
  · exact c_X7_operandFits_45 hi h16
  · exact c_X7_operandFits_71 hi h16
  · exact c_X7_operandFits_82 hi h16
  · exact c_X7_operandFits_73 hi h16
  · exact c_X7_operandFits_80 hi h16
  · exact c_X7_operandFits_86 hi h16
  · exact c_X7_operandFits_67 hi h16
def gFits (M : vM) (b o : Nat) (x y z : Int32) : Prop := gFit M b (sgn (opS.getD o 0) 0) x ∧ gFit M b (sgn (opS.getD o 0) 1) y ∧ gFit M b (sgn (opS.getD o 0) 2) z
set_option maxHeartbeats 4000000 in
set_option maxRecDepth 100000 in
theorem c_X7_operandsFit {l : Launch} {D : va_G} {Y : Nat → ClassId} {zz : Nat → Nat} {n s cp cq : Nat} {ad : Nat → Nat} {M : vM} {i : Nat} (hi : i < n) (h16 : i < 16) {o k9 : Nat} (ho : o < 30) (hk9 : k9 < s) {x y z : Int32} (hx : M.1 (ib k9) 1 = x) (hy : M.1 (ib k9) 2 = y) (hz9 : M.1 (ib k9) 3 = z)  : Ct l D Y zz yX7_operandsFit cX7_operandsFit 3 (some FieldType.boolean) 4 85 [.ref (ad (tb i)), .ref (zz o), .ref (ad (ib k9))] (wK Y n s cp cq ad M) 0 0 (fun r w => r = some (.int (bP (gFits M (tb i) o x y z))) ∧ w = wK Y n s cp cq ad M) := by
  refine v_entry (by decide +kernel) (Nat.le_of_ble_eq_true rfl) ?_
  intro K X R hR hnm hl hD hY hz
  subst hl hD hY hz
  refine v_sub (lv' := [(0, .ref (ad (tb i))), (1, .ref (kZ K o)), (2, .ref (ad (ib k9)))]) [0, 1, 2] rfl ?_
  refine v_aload_n (pc' := 1) (i := 0) (j := 0) X dX7_operandsFit_0 rfl rfl rfl ?_
  refine v_aload_n (pc' := 2) (i := 1) (j := 1) X dX7_operandsFit_1 rfl rfl rfl ?_
  refine v_ofgetN (pc' := 5) X (X.zF o ho) n_fl_X7_233 rfl dX7_operandsFit_2 rfl ?_
  refine v_iconst (pc' := 6) (v := 0) X dX7_operandsFit_5 (by decide) rfl ?_
  refine v_callZ (pc' := 9) X (st := [.ref (ad (tb i))]) (c_charAt (t := opS.getD o 0) (k := 0) (opS_lt o ho) (by decide)) k_J0_charAt_5068e w_ml_X7_237 w_im_J0_charAt_5068e w_se_J0_J0_charAt_5068e (zS_recv X (opS_lt o ho)) (by rw [hR]; exact ⟨Nat.le_of_ble_eq_true rfl, Nat.le_of_ble_eq_true rfl⟩) rfl rfl (Nat.le_of_ble_eq_true rfl) dX7_operandsFit_6 rfl (⟨Nat.zero_le _, Nat.zero_le _⟩) ?_
  rintro _ _ ⟨rfl, rfl⟩
  refine v_aload_n (pc' := 10) (i := 2) (j := 2) X dX7_operandsFit_9 rfl rfl rfl ?_
  refine fk_X7_191 (pc' := 13) X hk9 (v := x) hx dX7_operandsFit_10 rfl ?_
  refine v_callS (pc' := 16) X (st := []) (c_X7_operandFits (M := M) hi h16 (t := opS.getD o 0) (k := 0) (opS_lt o ho) (by decide) (x := x)) k_X7_operandFits w_ml_X7_243 w_st_X7_operandFits (by rw [hR]; exact ⟨Nat.le_of_ble_eq_true rfl, Nat.le_of_ble_eq_true rfl⟩) rfl rfl (Nat.le_of_ble_eq_true rfl) dX7_operandsFit_13 rfl (⟨Nat.zero_le _, Nat.zero_le _⟩) ?_
  rintro _ _ ⟨rfl, rfl⟩
  refine v_ifB_eq (pc' := 19) (tgt := 61) X dX7_operandsFit_16 (by decide) rfl (fun hc_16 => ?_) (fun hc_16 => ?_)
  -- taken 16
  · refine v_iconst (pc' := 62) (v := 0) X dX7_operandsFit_61 (by decide) rfl ?_
    refine v_zreturn X R (by decide) (Nat.zero_le _) (Nat.zero_le _) dX7_operandsFit_62 ?_
    exact ⟨by rw [bP_f (fun z9 => hc_16 z9.1)], rfl⟩
  -- not taken 16
  · refine v_aload_n (pc' := 20) (i := 0) (j := 0) X dX7_operandsFit_19 rfl rfl rfl ?_
    refine v_aload_n (pc' := 21) (i := 1) (j := 1) X dX7_operandsFit_20 rfl rfl rfl ?_
    refine v_ofgetN (pc' := 24) X (X.zF o ho) n_fl_X7_233 rfl dX7_operandsFit_21 rfl ?_
    refine v_iconst (pc' := 25) (v := 1) X dX7_operandsFit_24 (by decide) rfl ?_
    refine v_callZ (pc' := 28) X (st := [.ref (ad (tb i))]) (c_charAt (t := opS.getD o 0) (k := 1) (opS_lt o ho) (by decide)) k_J0_charAt_5068e w_ml_X7_237 w_im_J0_charAt_5068e w_se_J0_J0_charAt_5068e (zS_recv X (opS_lt o ho)) (by rw [hR]; exact ⟨Nat.le_of_ble_eq_true rfl, Nat.le_of_ble_eq_true rfl⟩) rfl rfl (Nat.le_of_ble_eq_true rfl) dX7_operandsFit_25 rfl (⟨Nat.zero_le _, Nat.zero_le _⟩) ?_
    rintro _ _ ⟨rfl, rfl⟩
    refine v_aload_n (pc' := 29) (i := 2) (j := 2) X dX7_operandsFit_28 rfl rfl rfl ?_
    refine fk_X7_194 (pc' := 32) X hk9 (v := y) hy dX7_operandsFit_29 rfl ?_
    refine v_callS (pc' := 35) X (st := []) (c_X7_operandFits (M := M) hi h16 (t := opS.getD o 0) (k := 1) (opS_lt o ho) (by decide) (x := y)) k_X7_operandFits w_ml_X7_243 w_st_X7_operandFits (by rw [hR]; exact ⟨Nat.le_of_ble_eq_true rfl, Nat.le_of_ble_eq_true rfl⟩) rfl rfl (Nat.le_of_ble_eq_true rfl) dX7_operandsFit_32 rfl (⟨Nat.zero_le _, Nat.zero_le _⟩) ?_
    rintro _ _ ⟨rfl, rfl⟩
    refine v_ifB_eq (pc' := 38) (tgt := 61) X dX7_operandsFit_35 (by decide) rfl (fun hc_35 => ?_) (fun hc_35 => ?_)
    -- taken 35
    · refine v_iconst (pc' := 62) (v := 0) X dX7_operandsFit_61 (by decide) rfl ?_
      refine v_zreturn X R (by decide) (Nat.zero_le _) (Nat.zero_le _) dX7_operandsFit_62 ?_
      exact ⟨by rw [bP_f (fun z9 => hc_35 z9.2.1)], rfl⟩
    -- not taken 35
    · refine v_aload_n (pc' := 39) (i := 0) (j := 0) X dX7_operandsFit_38 rfl rfl rfl ?_
      refine v_aload_n (pc' := 40) (i := 1) (j := 1) X dX7_operandsFit_39 rfl rfl rfl ?_
      refine v_ofgetN (pc' := 43) X (X.zF o ho) n_fl_X7_233 rfl dX7_operandsFit_40 rfl ?_
      refine v_iconst (pc' := 44) (v := 2) X dX7_operandsFit_43 (by decide) rfl ?_
      refine v_callZ (pc' := 47) X (st := [.ref (ad (tb i))]) (c_charAt (t := opS.getD o 0) (k := 2) (opS_lt o ho) (by decide)) k_J0_charAt_5068e w_ml_X7_237 w_im_J0_charAt_5068e w_se_J0_J0_charAt_5068e (zS_recv X (opS_lt o ho)) (by rw [hR]; exact ⟨Nat.le_of_ble_eq_true rfl, Nat.le_of_ble_eq_true rfl⟩) rfl rfl (Nat.le_of_ble_eq_true rfl) dX7_operandsFit_44 rfl (⟨Nat.zero_le _, Nat.zero_le _⟩) ?_
      rintro _ _ ⟨rfl, rfl⟩
      refine v_aload_n (pc' := 48) (i := 2) (j := 2) X dX7_operandsFit_47 rfl rfl rfl ?_
      refine fk_X7_247 (pc' := 51) X hk9 (v := z) hz9 dX7_operandsFit_48 rfl ?_
      refine v_callS (pc' := 54) X (st := []) (c_X7_operandFits (M := M) hi h16 (t := opS.getD o 0) (k := 2) (opS_lt o ho) (by decide) (x := z)) k_X7_operandFits w_ml_X7_243 w_st_X7_operandFits (by rw [hR]; exact ⟨Nat.le_of_ble_eq_true rfl, Nat.le_of_ble_eq_true rfl⟩) rfl rfl (Nat.le_of_ble_eq_true rfl) dX7_operandsFit_51 rfl (⟨Nat.zero_le _, Nat.zero_le _⟩) ?_
      rintro _ _ ⟨rfl, rfl⟩
      refine v_ifB_eq (pc' := 57) (tgt := 61) X dX7_operandsFit_54 (by decide) rfl (fun hc_54 => ?_) (fun hc_54 => ?_)
      -- taken 54
      · refine v_iconst (pc' := 62) (v := 0) X dX7_operandsFit_61 (by decide) rfl ?_
        refine v_zreturn X R (by decide) (Nat.zero_le _) (Nat.zero_le _) dX7_operandsFit_62 ?_
        exact ⟨by rw [bP_f (fun z9 => hc_54 z9.2.2)], rfl⟩
      -- not taken 54
      · refine v_iconst (pc' := 58) (v := 1) X dX7_operandsFit_57 (by decide) rfl ?_
        refine v_goto (pc' := 62) X dX7_operandsFit_58 (by decide) ?_
        refine v_zreturn X R (by decide) (Nat.zero_le _) (Nat.zero_le _) dX7_operandsFit_62 ?_
        exact ⟨by rw [bP_t ⟨hc_16, hc_35, hc_54⟩], rfl⟩
