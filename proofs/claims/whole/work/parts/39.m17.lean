/-! TURN, COLLECT (reference) -/
noncomputable def fTurnI : Nat → Nat → vM → vM
  | 0, _, M => M
  | d + 1, p, M => if p < nn (M.1 0 2) then fTurnI d (p + 1) (if M.1 (tb p) 0 = 1 then fStep M (nn (M.1 0 2)) (tb p) else M) else M
noncomputable def fTurnK : Nat → vM → vM
  | 0, M => M
  | k + 1, M => fTurnK k (fTurnI 17 0 M)
noncomputable def fTurn (M : vM) (k : Int32) : vM × Int32 :=
  if k < 1 ∨ 100 < k then (mI M 0 0 1, 0) else (fTurnK (nn k) (mI M 0 0 0), (fTurnK (nn k) (mI M 0 0 0)).1 0 7 - M.1 0 7)
theorem iu_turnI : ∀ (d p : Nat) (M : vM) (n us : Nat), IU M n us → ∃ n9 us9, IU (fTurnI d p M) n9 us9 ∧ n ≤ n9
  | 0, p, M, n, us, h => ⟨n, us, h, Nat.le_refl n⟩
  | d + 1, p, M, n, us, h => by
    rw [fTurnI, h.n]
    by_cases hp : p < n
    · rw [if_pos hp]
      by_cases h1 : M.1 (tb p) 0 = 1
      · rw [if_pos h1]
        obtain ⟨n1, us1, hU1, hn1⟩ := iu_step h hp h1
        obtain ⟨n2, us2, hU2, hn2⟩ := iu_turnI d (p + 1) (fStep M n (tb p)) n1 us1 hU1
        exact ⟨n2, us2, hU2, Nat.le_trans hn1 hn2⟩
      · rw [if_neg h1]
        exact iu_turnI d (p + 1) M n us h
    · rw [if_neg hp]; exact ⟨n, us, h, Nat.le_refl n⟩
theorem iu_turnK : ∀ (k : Nat) (M : vM) (n us : Nat), IU M n us → ∃ n9 us9, IU (fTurnK k M) n9 us9 ∧ n ≤ n9
  | 0, M, n, us, h => ⟨n, us, h, Nat.le_refl n⟩
  | k + 1, M, n, us, h => by
    obtain ⟨n1, us1, hU1, hn1⟩ := iu_turnI 17 0 M n us h
    obtain ⟨n2, us2, hU2, hn2⟩ := iu_turnK k (fTurnI 17 0 M) n1 us1 hU1
    exact ⟨n2, us2, hU2, Nat.le_trans hn1 hn2⟩
theorem fTurnI_e {d p n : Nat} {M : vM} (hn : nn (M.1 0 2) = n) (h : ¬ p < n) : fTurnI d p M = M := by
  cases d with
  | zero => rfl
  | succ d => rw [fTurnI, hn, if_neg h]
theorem fTurnI_s {d p n : Nat} {M : vM} (hn : nn (M.1 0 2) = n) (h : p < n) (h1 : M.1 (tb p) 0 = 1) : fTurnI (d + 1) p M = fTurnI d (p + 1) (fStep M n (tb p)) := by rw [fTurnI, hn, if_pos h, if_pos h1]
theorem fTurnI_k {d p n : Nat} {M : vM} (hn : nn (M.1 0 2) = n) (h : p < n) (h1 : ¬ M.1 (tb p) 0 = 1) : fTurnI (d + 1) p M = fTurnI d (p + 1) M := by rw [fTurnI, hn, if_pos h, if_neg h1]
set_option maxHeartbeats 4000000 in
set_option maxRecDepth 100000 in
theorem c_X9_turn {l : Launch} {D : va_G} {Y : Nat → ClassId} {zz : Nat → Nat} {n us : Nat} {ad : Nat → Nat} {M : vM} (hU : IU M n us) {k : Int32} : Ct l D Y zz yX9_turn cX9_turn 5 (some FieldType.int) 9 213 [.ref (ad (0)), .int k] (wM Y n ad M) (11 * (nn ((fTurn M k).1.1 0 2) - n)) (674 * (nn ((fTurn M k).1.1 0 2) - n)) (fun r w => r = some (.int (fTurn M k).2) ∧ ∃ ad9 : Nat → Nat, w = wM Y (nn ((fTurn M k).1.1 0 2)) ad9 (fTurn M k).1 ∧ ∀ x, x < tb n → ad9 x = ad x) := by
  refine v_entry (by decide +kernel) (Nat.le_of_ble_eq_true rfl) ?_
  intro K X R hR hnm hl hD hY hz
  subst hl hD hY hz
  refine v_sub (lv' := [(0, .ref (ad (0))), (1, .int k)]) [0, 1] rfl ?_
  have hn0 : nn (M.1 0 2) = n := hU.n
  have hn16 : n ≤ 16 := hU.n16
  have hn2 : M.1 0 2 = nI n := by obtain ⟨sz, pd, hg0, hts0⟩ := id hU; exact hg0.2.2.1
  refine v_aload_n (pc' := 1) (i := 0) (j := 0) X dX9_turn_0 rfl rfl rfl ?_
  refine v_iconst (pc' := 2) (v := 0) X dX9_turn_1 (by decide) rfl ?_
  refine fp_X9_59 (pc' := 5) X dX9_turn_2 rfl ?_
  refine v_iload_n (pc' := 6) (i := 1) (j := 1) X dX9_turn_5 rfl rfl rfl ?_
  refine v_iconst (pc' := 7) (v := 1) X dX9_turn_6 (by decide) rfl ?_
  refine v_icmp_lt (pc' := 10) (tgt := 16) X dX9_turn_7 (by decide) rfl (fun hc_7 => ?_) (fun hc_7 => ?_)
  -- taken 7
  · refine v_aload_n (pc' := 17) (i := 0) (j := 0) X dX9_turn_16 rfl rfl rfl ?_
    refine v_iconst (pc' := 18) (v := 1) X dX9_turn_17 (by decide) rfl ?_
    refine v_callV (pc' := 21) X (st := []) (c_X9_fail (M := (mI M 0 0 0))) k_X9_fail w_ml_X9_243 w_im_X9_fail w_se_X9_X9_fail (rv_M) (by rw [hR]; exact ⟨Nat.le_of_ble_eq_true rfl, Nat.le_of_ble_eq_true rfl⟩) rfl rfl (Nat.le_of_ble_eq_true rfl) dX9_turn_18 rfl (⟨Nat.zero_le _, Nat.zero_le _⟩) ?_
    rintro _ _ ⟨rfl, rfl⟩
    refine v_ireturn X R (Nat.zero_le _) (Nat.zero_le _) dX9_turn_21 ?_
    have hF : fTurn M k = (mI M 0 0 1, 0) := by unfold fTurn; exact if_pos (Or.inl hc_7)
    have hN : nn ((mI M 0 0 1).1 0 2) = n := by rw [mI_o _ _ _ _ (by decide)]; exact hn0
    rw [hF, hN]
    exact ⟨rfl, ad, by rw [mI_mI], fun _ _ => rfl⟩
  -- not taken 7
  · refine v_iload_n (pc' := 11) (i := 1) (j := 1) X dX9_turn_10 rfl rfl rfl ?_
    refine v_bipush (pc' := 13) (v := 100) X dX9_turn_11 (by decide) rfl ?_
    refine v_icmp_le (pc' := 16) (tgt := 22) X dX9_turn_13 (by decide) rfl (fun hc_13 => ?_) (fun hc_13 => ?_)
    -- taken 13
    · obtain ⟨hc1, hc2, hc3⟩ := lit_of (c := k) (a := 1) (b := 100) (by omega) (by omega) hc_7 hc_13
      have hF : fTurn M k = (fTurnK (nn k) (mI M 0 0 0), (fTurnK (nn k) (mI M 0 0 0)).1 0 7 - M.1 0 7) := by unfold fTurn; exact if_neg (fun z9 => z9.elim hc_7 (Int32.not_lt.mpr hc_13))
      have hU0 : IU (mI M 0 0 0) n us := iu_cnt hU (by decide)
      rw [hF] at R hR
      obtain ⟨nF, usF, hUF, hnF⟩ := iu_turnK (nn k) _ n us hU0
      have hNF := hUF.n
      rw [hNF] at R hR
      generalize hF1 : fTurnK (nn k) (mI M 0 0 0) = F1 at R hUF hNF
      generalize hkN : nn k = kN at hF1 hc1 hc2 hc3
      subst hc1
      clear hc_7 hc_13 hF
      refine v_aload_n (pc' := 23) (i := 0) (j := 0) X dX9_turn_22 rfl rfl rfl ?_
      refine fg_X9_66 (pc' := 26) X (v := M.1 0 7) (mI_o _ _ _ _ (by decide)) dX9_turn_23 rfl ?_
      refine v_istore_n (pc' := 27) (i := 2) (lv' := [(2, .int (M.1 0 7)), (0, .ref (ad (0))), (1, .int (nI kN))]) X dX9_turn_26 rfl (by decide) rfl rfl ?_
      refine v_iconst (pc' := 28) (v := 0) X dX9_turn_27 (by decide) rfl ?_
      refine v_istore_n (pc' := 29) (i := 3) (lv' := [(3, .int 0), (2, .int (M.1 0 7)), (0, .ref (ad (0))), (1, .int (nI kN))]) X dX9_turn_28 rfl (by decide) rfl rfl ?_
      have hloop : ∀ (dd j n2 us2 : Nat) (ad2 : Nat → Nat) (M2 : vM), kN - j < dd → j ≤ kN → IU M2 n2 us2 → n ≤ n2 → (∀ x, x < tb n → ad2 x = ad x) → fTurnK (kN - j) M2 = F1 → V K 5 (wM (kY K) n2 ad2 M2) (11 * (n2 - n)) (674 * (n2 - n)) 29 [(3, .int (nI j)), (2, .int (M.1 0 7)), (1, .int (nI kN)), (0, .ref (ad2 (0)))] [] := by
        intro dd
        induction dd with
        | zero => intro j n2 us2 ad2 M2 hlt; exact absurd hlt (Nat.not_lt_zero _)
        | succ dd ih =>
          intro j n2 us2 ad2 M2 hlt hj hU2 hnn hA h1
          have hn216 := hU2.n16
          have hn22 : M2.1 0 2 = nI n2 := by obtain ⟨sz9, pd9, hg9, -⟩ := id hU2; exact hg9.2.2.1
          refine v_iload_n (pc' := 30) (i := 3) (j := 0) X dX9_turn_29 rfl rfl rfl ?_
          refine v_iload_n (pc' := 31) (i := 1) (j := 2) X dX9_turn_30 rfl rfl rfl ?_
          refine v_icmp_ge (pc' := 34) (tgt := 83) X dX9_turn_31 (by decide) rfl (fun hc_31 => ?_) (fun hc_31 => ?_)
          -- taken 31
          · refine v_aload_n (pc' := 84) (i := 0) (j := 3) X dX9_turn_83 rfl rfl rfl ?_
            refine fg_X9_66 (pc' := 87) X (v := M2.1 0 7) rfl dX9_turn_84 rfl ?_
            refine v_iload_n (pc' := 88) (i := 2) (j := 1) X dX9_turn_87 rfl rfl rfl ?_
            refine v_isub (pc' := 89) X dX9_turn_88 rfl ?_
            obtain rfl : j = kN := by have hh := le_of_nI hc_31 (by omega) (by omega); omega
            have hMF : M2 = F1 := by rw [Nat.sub_self] at h1; exact h1
            subst hMF
            have hnn2 : n2 = nF := by rw [← hNF]; exact hU2.n.symm
            subst hnn2
            refine v_ireturn X R (Nat.le_refl _) (Nat.le_refl _) dX9_turn_89 ?_
            exact ⟨rfl, ad2, rfl, hA⟩
          -- not taken 31
          · refine v_iconst (pc' := 35) (v := 0) X dX9_turn_34 (by decide) rfl ?_
            refine v_istore (pc' := 37) (lv' := [(4, .int 0), (3, .int (nI j)), (2, .int (M.1 0 7)), (1, .int (nI kN)), (0, .ref (ad2 (0)))]) X dX9_turn_35 (by decide) rfl rfl ?_
            have hjk : j < kN := by
              rcases Nat.lt_or_ge j kN with q9 | q9
              · exact q9
              · exact absurd (nI_le q9 (by omega)) hc_31
            obtain ⟨G, hG0⟩ : ∃ G, G = fTurnI 17 0 M2 := ⟨_, rfl⟩
            have h1G : fTurnK (kN - (j + 1)) G = F1 := by rw [hG0]; rw [show kN - j = kN - (j + 1) + 1 by omega] at h1; exact h1
            have hin : ∀ (dd2 p n3 us3 : Nat) (ad3 : Nat → Nat) (M3 : vM), 17 - p < dd2 → p ≤ n3 → IU M3 n3 us3 → n2 ≤ n3 → (∀ x, x < tb n → ad3 x = ad x) → fTurnI (17 - p) p M3 = G → V K 5 (wM (kY K) n3 ad3 M3) (11 * (n3 - n)) (674 * (n3 - n)) 37 [(4, .int (nI p)), (3, .int (nI j)), (2, .int (M.1 0 7)), (1, .int (nI kN)), (0, .ref (ad3 (0)))] [] := by
              intro dd2
              induction dd2 with
              | zero => intro p n3 us3 ad3 M3 hlt2; exact absurd hlt2 (Nat.not_lt_zero _)
              | succ dd2 ih2 =>
                intro p n3 us3 ad3 M3 hlt2 hp hU3 hnn3 hA3 hG
                have hn316 := hU3.n16
                have hn23 : M3.1 0 2 = nI n3 := by obtain ⟨sz9, pd9, hg9, -⟩ := id hU3; exact hg9.2.2.1
                refine v_iload (pc' := 39) (j := 0) X dX9_turn_37 rfl rfl ?_
                refine v_aload_n (pc' := 40) (i := 0) (j := 4) X dX9_turn_39 rfl rfl rfl ?_
                refine fg_X9_7 (pc' := 43) X (v := nI n3) hn23 dX9_turn_40 rfl ?_
                refine v_icmp_ge (pc' := 46) (tgt := 77) X dX9_turn_43 (by decide) rfl (fun hc_43 => ?_) (fun hc_43 => ?_)
                -- taken 43
                · have hpe : ¬ p < n3 := by have hh := le_of_nI hc_43 (by omega) (by omega); omega
                  rw [fTurnI_e hU3.n hpe] at hG
                  refine v_iinc (pc' := 80) (j := 1) (v := nI (j + 1)) (lv' := [(3, .int (nI (j + 1))), (4, .int (nI p)), (2, .int (M.1 0 7)), (1, .int (nI kN)), (0, .ref (ad3 (0)))]) X dX9_turn_77 rfl (nI_add (j) 1) (by decide) rfl rfl ?_
                  refine v_goto (pc' := 29) X dX9_turn_80 (by decide) ?_
                  refine v_sub (lv' := [(3, .int (nI (j + 1))), (2, .int (M.1 0 7)), (1, .int (nI kN)), (0, .ref (ad3 (0)))]) [0, 2, 3, 4] rfl ?_
                  exact ih (j + 1) n3 us3 ad3 M3 (by omega) (by omega) hU3 (by omega) hA3 (by rw [hG]; exact h1G)
                -- not taken 43
                · have hp3 : p < n3 := by
                    rcases Nat.lt_or_ge p n3 with q9 | q9
                    · exact q9
                    · exact absurd (nI_le q9 (by omega)) hc_43
                  refine v_aload_n (pc' := 47) (i := 0) (j := 4) X dX9_turn_46 rfl rfl rfl ?_
                  refine fg_X9_28 (pc' := 50) X dX9_turn_47 rfl ?_
                  refine v_iload (pc' := 52) (j := 0) X dX9_turn_50 rfl rfl ?_
                  refine ag_M13 (pc' := 53) X (p) rfl (by omega) (by omega) dX9_turn_52 rfl ?_
                  refine fg_X9_208 (pc' := 56) X (by omega) (v := M3.1 (tb p) 0) rfl dX9_turn_53 rfl ?_
                  refine v_iconst (pc' := 57) (v := 1) X dX9_turn_56 (by decide) rfl ?_
                  refine v_icmp_ne (pc' := 60) (tgt := 71) X dX9_turn_57 (by decide) rfl (fun hc_57 => ?_) (fun hc_57 => ?_)
                  -- taken 57
                  · refine v_iinc (pc' := 74) (j := 0) (v := nI (p + 1)) (lv' := [(4, .int (nI (p + 1))), (3, .int (nI j)), (2, .int (M.1 0 7)), (1, .int (nI kN)), (0, .ref (ad3 (0)))]) X dX9_turn_71 rfl (nI_add (p) 1) (by decide) rfl rfl ?_
                    refine v_goto (pc' := 37) X dX9_turn_74 (by decide) ?_
                    obtain ⟨q9, hq9⟩ : ∃ q9, 17 - p = q9 + 1 := ⟨17 - p - 1, by omega⟩
                    rw [hq9, fTurnI_k hU3.n hp3 hc_57] at hG
                    refine v_sub (lv' := [(4, .int (nI (p + 1))), (3, .int (nI j)), (2, .int (M.1 0 7)), (1, .int (nI kN)), (0, .ref (ad3 (0)))]) [0, 1, 2, 3, 4] rfl ?_
                    exact ih2 (p + 1) n3 us3 ad3 M3 (by omega) hp3 hU3 hnn3 hA3 (by rw [show 17 - (p + 1) = q9 by omega]; exact hG)
                  -- not taken 57
                  · refine v_aload_n (pc' := 61) (i := 0) (j := 4) X dX9_turn_60 rfl rfl rfl ?_
                    refine v_aload_n (pc' := 62) (i := 0) (j := 4) X dX9_turn_61 rfl rfl rfl ?_
                    refine fg_X9_28 (pc' := 65) X dX9_turn_62 rfl ?_
                    refine v_iload (pc' := 67) (j := 0) X dX9_turn_65 rfl rfl ?_
                    refine ag_M13 (pc' := 68) X (p) rfl (by omega) (by omega) dX9_turn_67 rfl ?_
                    obtain ⟨n9x, us9, hU9, hn9⟩ := iu_step hU3 hp3 hc_57
                    have hN9 : fStepN M3 n3 (tb p) = n9x := hU9.n
                    obtain ⟨q9, hq9⟩ : ∃ q9, 17 - p = q9 + 1 := ⟨17 - p - 1, by omega⟩
                    rw [hq9, fTurnI_s hU3.n hp3 hc_57] at hG
                    obtain ⟨nG, usG, hUG, hnG⟩ := iu_turnI q9 (p + 1) _ n9x us9 hU9
                    rw [hG] at hUG
                    obtain ⟨nX, usX, hUX, hnX⟩ := iu_turnK (kN - (j + 1)) G nG usG hUG
                    have hXF : nX = nF := by
                      have hh := hUX.n
                      rw [h1G, hNF] at hh
                      exact hh.symm
                    refine v_callV (pc' := 71) X (st := []) (c_X9_step (M := M3) (ad := ad3) hp3 hU3 hc_57) k_X9_step w_ml_X9_250 w_im_X9_step w_se_X9_X9_step (rv_M) (by rw [hR]; exact ⟨Nat.le_of_ble_eq_true rfl, Nat.le_of_ble_eq_true rfl⟩) rfl rfl (Nat.le_of_ble_eq_true rfl) dX9_turn_68 rfl (by rw [hR, hN9]; exact ⟨by show 11 * (n3 - n) + 11 * (n9x - n3) ≤ 11 * (nF - n); omega, by show 674 * (n3 - n) + 674 * (n9x - n3) ≤ 674 * (nF - n); omega⟩) ?_
                    rintro _ _ ⟨rfl, n9, ad9, hn9e, rfl, hA9⟩
                    rw [hN9] at hn9e ⊢
                    rw [hn9e]
                    rw [← hA9 0 (by unfold tb; omega)]
                    refine v_iinc (pc' := 74) (j := 0) (v := nI (p + 1)) (lv' := [(4, .int (nI (p + 1))), (3, .int (nI j)), (2, .int (M.1 0 7)), (1, .int (nI kN)), (0, .ref (ad9 (0)))]) X dX9_turn_71 rfl (nI_add (p) 1) (by decide) rfl rfl ?_
                    refine v_goto (pc' := 37) X dX9_turn_74 (by decide) ?_
                    refine v_sub (lv' := [(4, .int (nI (p + 1))), (3, .int (nI j)), (2, .int (M.1 0 7)), (1, .int (nI kN)), (0, .ref (ad9 (0)))]) [0, 1, 2, 3, 4] rfl ?_
                    have hh := ih2 (p + 1) n9x us9 ad9 (fStep M3 n3 (tb p)) (by omega) (by omega) hU9 (by omega) (fun x hx => (hA9 x (by unfold tb at hx ⊢; omega)).trans (hA3 x hx)) (by rw [show 17 - (p + 1) = q9 by omega]; exact hG)
                    rw [show 11 * (n9x - n) = 11 * (n3 - n) + 11 * (n9x - n3) by omega, show 674 * (n9x - n) = 674 * (n3 - n) + 674 * (n9x - n3) by omega] at hh
                    exact hh
            refine v_sub (lv' := [(4, .int 0), (3, .int (nI j)), (2, .int (M.1 0 7)), (1, .int (nI kN)), (0, .ref (ad2 (0)))]) [0, 1, 2, 3, 4] rfl ?_
            exact hin _ 0 n2 us2 ad2 M2 (Nat.lt_succ_self _) (Nat.zero_le _) hU2 (Nat.le_refl n2) hA hG0.symm
      refine v_sub (lv' := [(3, .int 0), (2, .int (M.1 0 7)), (1, .int (nI kN)), (0, .ref (ad (0)))]) [0, 1, 3, 2] rfl ?_
      have hh := hloop _ 0 n us ad (mI M 0 0 0) (Nat.lt_succ_self _) (Nat.zero_le _) hU0 (Nat.le_refl n) (fun _ _ => rfl) hF1
      rw [Nat.sub_self] at hh
      exact hh
    -- not taken 13
    · refine v_aload_n (pc' := 17) (i := 0) (j := 0) X dX9_turn_16 rfl rfl rfl ?_
      refine v_iconst (pc' := 18) (v := 1) X dX9_turn_17 (by decide) rfl ?_
      refine v_callV (pc' := 21) X (st := []) (c_X9_fail (M := (mI M 0 0 0))) k_X9_fail w_ml_X9_243 w_im_X9_fail w_se_X9_X9_fail (rv_M) (by rw [hR]; exact ⟨Nat.le_of_ble_eq_true rfl, Nat.le_of_ble_eq_true rfl⟩) rfl rfl (Nat.le_of_ble_eq_true rfl) dX9_turn_18 rfl (⟨Nat.zero_le _, Nat.zero_le _⟩) ?_
      rintro _ _ ⟨rfl, rfl⟩
      refine v_ireturn X R (Nat.zero_le _) (Nat.zero_le _) dX9_turn_21 ?_
      have hF : fTurn M k = (mI M 0 0 1, 0) := by unfold fTurn; exact if_pos (Or.inr (Int32.not_le.mp hc_13))
      have hN : nn ((mI M 0 0 1).1 0 2) = n := by rw [mI_o _ _ _ _ (by decide)]; exact hn0
      rw [hF, hN]
      exact ⟨rfl, ad, by rw [mI_mI], fun _ _ => rfl⟩
set_option maxHeartbeats 4000000 in
set_option maxRecDepth 100000 in
theorem c_X9_collect {l : Launch} {D : va_G} {Y : Nat → ClassId} {zz : Nat → Nat} {n us : Nat} {ad : Nat → Nat} {M : vM} (hU : IU M n us)  : Ct l D Y zz yX9_collect cX9_collect 1 (some FieldType.int) 5 113 [.ref (ad (0))] (wM Y n ad M) 0 0 (fun r w => r = some (.int ((fGather (mI M 0 0 0) n us).1 0 3)) ∧ w = wM Y n ad (fGather (mI M 0 0 0) n us)) := by
  refine v_entry (by decide +kernel) (Nat.le_of_ble_eq_true rfl) ?_
  intro K X R hR hnm hl hD hY hz
  subst hl hD hY hz
  refine v_sub (lv' := [(0, .ref (ad (0)))]) [0] rfl ?_
  have hU0 : IU (mI M 0 0 0) n us := iu_cnt hU (by decide)
  have hG : gOK (mI M 0 0 0) n us := by obtain ⟨sz, pd, hg9, ht9⟩ := hU0; exact Inv.g hg9 ht9
  refine v_aload_n (pc' := 1) (i := 0) (j := 0) X dX9_collect_0 rfl rfl rfl ?_
  refine v_iconst (pc' := 2) (v := 0) X dX9_collect_1 (by decide) rfl ?_
  refine fp_X9_59 (pc' := 5) X dX9_collect_2 rfl ?_
  refine v_aload_n (pc' := 6) (i := 0) (j := 0) X dX9_collect_5 rfl rfl rfl ?_
  refine v_callV (pc' := 9) X (st := []) (c_X9_gather (M := (mI M 0 0 0)) (us := us) hG) k_X9_gather w_ml_X9_146 w_im_X9_gather w_se_X9_X9_gather (rv_M) (by rw [hR]; exact ⟨Nat.le_of_ble_eq_true rfl, Nat.le_of_ble_eq_true rfl⟩) rfl rfl (Nat.le_of_ble_eq_true rfl) dX9_collect_6 rfl (⟨Nat.zero_le _, Nat.zero_le _⟩) ?_
  rintro _ _ ⟨rfl, rfl⟩
  refine v_aload_n (pc' := 10) (i := 0) (j := 0) X dX9_collect_9 rfl rfl rfl ?_
  refine fg_X9_143 (pc' := 13) X (v := (fGather (mI M 0 0 0) n us).1 0 3) rfl dX9_collect_10 rfl ?_
  refine v_ireturn X R (Nat.zero_le _) (Nat.zero_le _) dX9_collect_13 ?_
  exact ⟨rfl, rfl⟩
