/-! THE CLASS'S COLLECTION: REACHING ONWARD -/
theorem gOnw_e {d j : Nat} {M : vM} (h : ¬ j < nn (M.1 1 6)) : gOnw d j M = M := by
  cases d with
  | zero => rfl
  | succ d => rw [gOnw, if_neg h]
theorem gOnw_s {d j : Nat} {M : vM} (h : j < nn (M.1 1 6)) : gOnw (d + 1) j M = gOnw d (j + 1) (gReach (gReach M (M.2 15 (nn (M.1 18 j)))) (M.2 16 (nn (M.1 18 j)))) := by rw [gOnw, if_pos h]
set_option maxHeartbeats 4000000 in
set_option maxRecDepth 100000 in
theorem c_X1_reachOnward {l : Launch} {D : va_G} {Y : Nat → ClassId} {zz : Nat → Nat} {n s cp cq : Nat} {ad : Nat → Nat} {M : vM} (hR0 : RI M) (hcl : ∀ p, p < 200 → ok1 (M.2 15 p) ∧ ok1 (M.2 16 p)) : Ct l D Y zz yX1_reachOnward cX1_reachOnward 2 none 2 44 [.ref (ad (1))] (wK Y n s cp cq ad M) 0 0 (fun r w => r = none ∧ w = wK Y n s cp cq ad (gOnw 201 0 M)) := by
  refine v_entry (by decide +kernel) (Nat.le_of_ble_eq_true rfl) ?_
  intro K X R hR hnm hl hD hY hz
  subst hl hD hY hz
  refine v_sub (lv' := [(0, .ref (ad (1)))]) [0] rfl ?_
  refine v_iconst (pc' := 1) (v := 0) X dX1_reachOnward_0 (by decide) rfl ?_
  refine v_istore_n (pc' := 2) (i := 1) (lv' := [(1, .int 0), (0, .ref (ad (1)))]) X dX1_reachOnward_1 rfl (by decide) rfl rfl ?_
  obtain ⟨F, hF0⟩ : ∃ F, F = gOnw 201 0 M := ⟨_, rfl⟩
  rw [← hF0] at R
  have hloop : ∀ (dd j : Nat) (N : vM), 201 - j < dd → RI N → N.2 = M.2 → j ≤ nn (N.1 1 6) → gOnw (201 - j) j N = F → V K 2 (wK (kY K) n s cp cq ad N) 0 0 2 [(1, .int (nI j)), (0, .ref (ad (1)))] [] := by
    intro dd
    induction dd with
    | zero => intro j N hlt; exact absurd hlt (Nat.not_lt_zero _)
    | succ dd ih =>
      intro j N hlt hRN hN2 hj hF
      have hle := hRN.le
      refine v_iload_n (pc' := 3) (i := 1) (j := 0) X dX1_reachOnward_2 rfl rfl rfl ?_
      refine v_aload_n (pc' := 4) (i := 0) (j := 1) X dX1_reachOnward_3 rfl rfl rfl ?_
      refine fk_X1_32 (pc' := 7) X (v := nI (nn (N.1 1 6))) hRN.1 dX1_reachOnward_4 rfl ?_
      refine v_icmp_ge (pc' := 10) (tgt := 53) X dX1_reachOnward_7 (by decide) rfl (fun hc_7 => ?_) (fun hc_7 => ?_)
      -- taken 7
      · refine v_return X R (Nat.zero_le _) (Nat.zero_le _) dX1_reachOnward_53 ?_
        have hpe : ¬ j < nn (N.1 1 6) := by have hh := le_of_nI hc_7 (by omega) (by omega); omega
        rw [gOnw_e hpe] at hF
        rw [← hF]
        exact ⟨rfl, rfl⟩
      -- not taken 7
      · have hjc : j < nn (N.1 1 6) := by
          rcases Nat.lt_or_ge j (nn (N.1 1 6)) with q9 | q9
          · exact q9
          · exact absurd (nI_le q9 (by omega)) hc_7
        have hx2 := hRN.2.2.1 j hjc
        have hx1 := hx2.1
        have h15 : ok1 (N.2 15 (nn (N.1 18 j))) := by rw [hN2]; exact (hcl _ hx1).1
        have h16 : ok1 (N.2 16 (nn (N.1 18 j))) := by rw [hN2]; exact (hcl _ hx1).2
        refine v_iload_n (pc' := 11) (i := 1) (j := 0) X dX1_reachOnward_10 rfl rfl rfl ?_
        refine v_sipush (pc' := 14) (v := 200) X dX1_reachOnward_11 (by decide) rfl ?_
        refine v_icmp_ge (pc' := 17) (tgt := 53) X dX1_reachOnward_14 (by decide) rfl (fun hc_14 => absurd (le_of_nI (a := 200) hc_14 (by omega) (by omega)) (by omega)) (fun _ => ?_)
        refine v_aload_n (pc' := 18) (i := 0) (j := 1) X dX1_reachOnward_17 rfl rfl rfl ?_
        refine v_aload_n (pc' := 19) (i := 0) (j := 1) X dX1_reachOnward_18 rfl rfl rfl ?_
        refine fk_X1_15 (pc' := 22) X dX1_reachOnward_19 rfl ?_
        refine v_aload_n (pc' := 23) (i := 0) (j := 1) X dX1_reachOnward_22 rfl rfl rfl ?_
        refine fk_X1_22 (pc' := 26) X dX1_reachOnward_23 rfl ?_
        refine v_iload_n (pc' := 27) (i := 1) (j := 0) X dX1_reachOnward_26 rfl rfl rfl ?_
        refine ak_K18 (pc' := 28) X (v := N.1 18 j) (j) rfl (by omega) rfl dX1_reachOnward_27 rfl ?_
        refine ak_K15 (pc' := 29) X (v := N.2 15 (nn (N.1 18 j))) (nn (N.1 18 j)) hx2.2.1 (by omega) rfl dX1_reachOnward_28 rfl ?_
        refine v_callV (pc' := 32) X (st := []) (c_X1_reach (M := N) (v := N.2 15 (nn (N.1 18 j))) hRN h15) k_X1_reach w_ml_X1_49 w_im_X1_reach w_se_X1_X1_reach rw_X1 (by rw [hR]; exact ⟨Nat.le_of_ble_eq_true rfl, Nat.le_of_ble_eq_true rfl⟩) rfl rfl (Nat.le_of_ble_eq_true rfl) dX1_reachOnward_29 rfl (⟨Nat.zero_le _, Nat.zero_le _⟩) ?_
        rintro _ _ ⟨rfl, rfl⟩
        have hq18 : (gReach N (N.2 15 (nn (N.1 18 j)))).1 18 j = N.1 18 j := (gReach_18 hjc).1
        have hq16 : (gReach N (N.2 15 (nn (N.1 18 j)))).2 16 (nn (N.1 18 j)) = N.2 16 (nn (N.1 18 j)) := by rw [gReach_2]
        refine v_aload_n (pc' := 33) (i := 0) (j := 1) X dX1_reachOnward_32 rfl rfl rfl ?_
        refine v_aload_n (pc' := 34) (i := 0) (j := 1) X dX1_reachOnward_33 rfl rfl rfl ?_
        refine fk_X1_19 (pc' := 37) X dX1_reachOnward_34 rfl ?_
        refine v_aload_n (pc' := 38) (i := 0) (j := 1) X dX1_reachOnward_37 rfl rfl rfl ?_
        refine fk_X1_22 (pc' := 41) X dX1_reachOnward_38 rfl ?_
        refine v_iload_n (pc' := 42) (i := 1) (j := 0) X dX1_reachOnward_41 rfl rfl rfl ?_
        refine ak_K18 (pc' := 43) X (v := N.1 18 j) (j) rfl (by omega) hq18 dX1_reachOnward_42 rfl ?_
        refine ak_K16 (pc' := 44) X (v := N.2 16 (nn (N.1 18 j))) (nn (N.1 18 j)) hx2.2.1 (by omega) hq16 dX1_reachOnward_43 rfl ?_
        refine v_callV (pc' := 47) X (st := []) (c_X1_reach (M := (gReach N (N.2 15 (nn (N.1 18 j))))) (v := N.2 16 (nn (N.1 18 j))) (gReach_RI hRN h15) h16) k_X1_reach w_ml_X1_49 w_im_X1_reach w_se_X1_X1_reach rw_X1 (by rw [hR]; exact ⟨Nat.le_of_ble_eq_true rfl, Nat.le_of_ble_eq_true rfl⟩) rfl rfl (Nat.le_of_ble_eq_true rfl) dX1_reachOnward_44 rfl (⟨Nat.zero_le _, Nat.zero_le _⟩) ?_
        rintro _ _ ⟨rfl, rfl⟩
        refine v_iinc (pc' := 50) (j := 0) (v := nI (j + 1)) (lv' := [(1, .int (nI (j + 1))), (0, .ref (ad (1)))]) X dX1_reachOnward_47 rfl (nI_add (j) 1) (by decide) rfl rfl ?_
        refine v_goto (pc' := 2) X dX1_reachOnward_50 (by decide) ?_
        obtain ⟨q9, hq9⟩ : ∃ q9, 201 - j = q9 + 1 := ⟨201 - j - 1, by omega⟩
        rw [hq9, gOnw_s hjc] at hF
        exact ih (j + 1) _ (by omega) (gReach_RI (gReach_RI hRN h15) h16) (by rw [gReach_2, gReach_2]; exact hN2) (by have q1 := gReach_6 (M := N) (v := (N.2 15 (nn (N.1 18 j)))) (by omega); have q2 := gReach_6 (M := gReach N (N.2 15 (nn (N.1 18 j)))) (v := (N.2 16 (nn (N.1 18 j)))) (by have := (gReach_RI hRN h15).le; omega); omega) (by rw [show 201 - (j + 1) = q9 by omega]; exact hF)
  exact hloop _ 0 M (Nat.lt_succ_self _) hR0 rfl (Nat.zero_le _) hF0.symm
