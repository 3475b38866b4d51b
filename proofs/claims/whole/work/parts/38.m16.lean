/-! RUN, TURN, COLLECT (reference) -/
noncomputable def fRunK (b : Nat) : Nat → vM → vM × Nat
  | 0, M => (M, 0)
  | d + 1, M => if M.1 b 0 = 1 then ((fRunK b d (fStep M (nn (M.1 0 2)) b)).1, (fRunK b d (fStep M (nn (M.1 0 2)) b)).2 + 1) else (M, 0)
noncomputable def fRun (M : vM) (n : Nat) (k c : Int32) : vM × Int32 :=
  if k < 0 ∨ nI n ≤ k then (mI M 0 0 1, 0) else if c < 1 ∨ 500 < c then (mI M 0 0 2, 0) else
    ((fRunK (tb (nn k)) (nn c) (mI M 0 0 0)).1, nI (fRunK (tb (nn k)) (nn c) (mI M 0 0 0)).2)
theorem iu_runK {i : Nat} : ∀ (d : Nat) (M : vM) (n us : Nat), IU M n us → i < n → ∃ n9 us9, IU (fRunK (tb i) d M).1 n9 us9 ∧ n ≤ n9
  | 0, M, n, us, h, hi => ⟨n, us, h, Nat.le_refl n⟩
  | d + 1, M, n, us, h, hi => by
    rw [fRunK]
    split
    next h1 =>
      rw [h.n]
      obtain ⟨n1, us1, hU1, hn1⟩ := iu_step h hi h1
      obtain ⟨n2, us2, hU2, hn2⟩ := iu_runK d (fStep M n (tb i)) n1 us1 hU1 (Nat.lt_of_lt_of_le hi hn1)
      exact ⟨n2, us2, hU2, by omega⟩
    · exact ⟨n, us, h, Nat.le_refl n⟩
theorem fRunK_0 {b : Nat} {M : vM} : fRunK b 0 M = (M, 0) := rfl
theorem fRunK_s {b d : Nat} {M : vM} (h : M.1 b 0 = 1) : fRunK b (d + 1) M = ((fRunK b d (fStep M (nn (M.1 0 2)) b)).1, (fRunK b d (fStep M (nn (M.1 0 2)) b)).2 + 1) := by rw [fRunK, if_pos h]
theorem fRunK_n {b d : Nat} {M : vM} (h : ¬ M.1 b 0 = 1) : fRunK b d M = (M, 0) := by
  cases d with
  | zero => rfl
  | succ d => rw [fRunK, if_neg h]
theorem lit_of {c : Int32} {a b : Nat} (ha : a < 2 ^ 31) (hb : b < 2 ^ 31) (h1 : ¬ c < nI a) (h2 : c ≤ nI b) : c = nI (nn c) ∧ a ≤ nn c ∧ nn c ≤ b := by
  have h0 : ¬ c < 0 := fun z9 => h1 (Int32.lt_of_lt_of_le z9 (nI_pos' ha))
  obtain ⟨j, hj, rfl⟩ := nI_of h0
  rw [nn_nI hj]
  refine ⟨rfl, ?_, le_of_nI h2 hj hb⟩
  rcases Nat.lt_or_ge j a with q9 | q9
  · exact absurd (nI_lt q9 ha) h1
  · exact q9
set_option maxHeartbeats 4000000 in
set_option maxRecDepth 100000 in
theorem c_X9_run {l : Launch} {D : va_G} {Y : Nat → ClassId} {zz : Nat → Nat} {n us : Nat} {ad : Nat → Nat} {M : vM} (hU : IU M n us) {k c : Int32} : Ct l D Y zz yX9_run cX9_run 4 (some FieldType.int) 9 213 [.ref (ad (0)), .int k, .int c] (wM Y n ad M) (11 * (nn ((fRun M n k c).1.1 0 2) - n)) (674 * (nn ((fRun M n k c).1.1 0 2) - n)) (fun r w => r = some (.int (fRun M n k c).2) ∧ ∃ ad9 : Nat → Nat, w = wM Y (nn ((fRun M n k c).1.1 0 2)) ad9 (fRun M n k c).1 ∧ ∀ x, x < tb n → ad9 x = ad x) := by
  refine v_entry (by decide +kernel) (Nat.le_of_ble_eq_true rfl) ?_
  intro K X R hR hnm hl hD hY hz
  subst hl hD hY hz
  refine v_sub (lv' := [(0, .ref (ad (0))), (1, .int k), (2, .int c)]) [0, 1, 2] rfl ?_
  have hn0 : nn (M.1 0 2) = n := hU.n
  have hn16 : n ≤ 16 := hU.n16
  have hn2 : M.1 0 2 = nI n := by obtain ⟨sz, pd, hg0, hts0⟩ := id hU; exact hg0.2.2.1
  refine v_aload_n (pc' := 1) (i := 0) (j := 0) X dX9_run_0 rfl rfl rfl ?_
  refine v_iconst (pc' := 2) (v := 0) X dX9_run_1 (by decide) rfl ?_
  refine fp_X9_59 (pc' := 5) X dX9_run_2 rfl ?_
  refine v_aload_n (pc' := 6) (i := 0) (j := 0) X dX9_run_5 rfl rfl rfl ?_
  refine v_iload_n (pc' := 7) (i := 1) (j := 1) X dX9_run_6 rfl rfl rfl ?_
  refine v_callV (pc' := 10) X (st := []) (c_X9_noTask (ad := ad) (M := (mI M 0 0 0)) (k := k) ((mI_o _ _ _ _ (by decide)).trans hn2)) k_X9_noTask w_ml_X9_247 w_im_X9_noTask w_se_X9_X9_noTask (rv_M) (by rw [hR]; exact ⟨Nat.le_of_ble_eq_true rfl, Nat.le_of_ble_eq_true rfl⟩) rfl rfl (Nat.le_of_ble_eq_true rfl) dX9_run_7 rfl (⟨Nat.zero_le _, Nat.zero_le _⟩) ?_
  rintro _ _ ⟨rfl, rfl⟩
  refine v_ifB_eq (pc' := 13) (tgt := 19) X dX9_run_10 (by decide) rfl (fun hc_10 => ?_) (fun hc_10 => ?_)
  -- taken 10
  · refine v_iload_n (pc' := 20) (i := 2) (j := 2) X dX9_run_19 rfl rfl rfl ?_
    refine v_iconst (pc' := 21) (v := 1) X dX9_run_20 (by decide) rfl ?_
    refine v_icmp_lt (pc' := 24) (tgt := 31) X dX9_run_21 (by decide) rfl (fun hc_21 => ?_) (fun hc_21 => ?_)
    -- taken 21
    · refine v_aload_n (pc' := 32) (i := 0) (j := 0) X dX9_run_31 rfl rfl rfl ?_
      refine v_iconst (pc' := 33) (v := 2) X dX9_run_32 (by decide) rfl ?_
      refine v_callV (pc' := 36) X (st := []) (c_X9_fail (M := (mI M 0 0 0))) k_X9_fail w_ml_X9_243 w_im_X9_fail w_se_X9_X9_fail (rv_M) (by rw [hR]; exact ⟨Nat.le_of_ble_eq_true rfl, Nat.le_of_ble_eq_true rfl⟩) rfl rfl (Nat.le_of_ble_eq_true rfl) dX9_run_33 rfl (⟨Nat.zero_le _, Nat.zero_le _⟩) ?_
      rintro _ _ ⟨rfl, rfl⟩
      refine v_ireturn X R (Nat.zero_le _) (Nat.zero_le _) dX9_run_36 ?_
      have hF : fRun M n k c = (mI M 0 0 2, 0) := by
        unfold fRun
        rw [if_neg hc_10]; exact if_pos (Or.inl hc_21)
      have hN : nn ((mI M 0 0 2).1 0 2) = n := by rw [mI_o _ _ _ _ (by decide)]; exact hn0
      rw [hF, hN]
      exact ⟨rfl, ad, by rw [mI_mI], fun _ _ => rfl⟩
    -- not taken 21
    · refine v_iload_n (pc' := 25) (i := 2) (j := 2) X dX9_run_24 rfl rfl rfl ?_
      refine v_sipush (pc' := 28) (v := 500) X dX9_run_25 (by decide) rfl ?_
      refine v_icmp_le (pc' := 31) (tgt := 37) X dX9_run_28 (by decide) rfl (fun hc_28 => ?_) (fun hc_28 => ?_)
      -- taken 28
      · obtain ⟨hk1, hk2⟩ := ix_of (k := k) (n := n) (by omega) (fun z9 => hc_10 (Or.inl z9)) (fun z9 => hc_10 (Or.inr z9))
        obtain ⟨hc1, hc2, hc3⟩ := lit_of (c := c) (a := 1) (b := 500) (by omega) (by omega) hc_21 hc_28
        have hF : fRun M n k c = ((fRunK (tb (nn k)) (nn c) (mI M 0 0 0)).1, nI (fRunK (tb (nn k)) (nn c) (mI M 0 0 0)).2) := by
          unfold fRun
          rw [if_neg hc_10]
          exact if_neg (fun z9 => z9.elim hc_21 (Int32.not_lt.mpr hc_28))
        have hU0 : IU (mI M 0 0 0) n us := iu_cnt hU (by decide)
        rw [hF] at R hR
        obtain ⟨nF, usF, hUF, hnF⟩ := iu_runK (i := nn k) (nn c) _ n us hU0 hk2
        have hNF := hUF.n
        rw [hNF] at R hR
        generalize hF1 : (fRunK (tb (nn k)) (nn c) (mI M 0 0 0)).1 = F1 at R hUF hNF
        generalize hF2 : (fRunK (tb (nn k)) (nn c) (mI M 0 0 0)).2 = F2 at R
        generalize hcN : nn c = cN at hF1 hF2 hc1 hc2 hc3
        generalize hkN : nn k = i at hF1 hF2 hk1 hk2
        subst hk1 hc1
        clear hc_10 hc_21 hc_28 hF
        have hloop : ∀ (dd j n2 us2 : Nat) (ad2 : Nat → Nat) (M2 : vM), cN - j < dd → j ≤ cN → IU M2 n2 us2 → n ≤ n2 → (∀ x, x < tb n → ad2 x = ad x) → (fRunK (tb i) (cN - j) M2).1 = F1 → j + (fRunK (tb i) (cN - j) M2).2 = F2 → V K 4 (wM (kY K) n2 ad2 M2) (11 * (n2 - n)) (674 * (n2 - n)) 39 [(3, .int (nI j)), (2, .int (nI cN)), (1, .int (nI i)), (0, .ref (ad2 (0)))] [] := by
          intro dd
          induction dd with
          | zero => intro j n2 us2 ad2 M2 hlt; exact absurd hlt (Nat.not_lt_zero _)
          | succ dd ih =>
            intro j n2 us2 ad2 M2 hlt hj hU2 hnn hA h1 h2
            have hi2 : i < n2 := by omega
            have hn216 := hU2.n16
            refine v_iload_n (pc' := 40) (i := 3) (j := 0) X dX9_run_39 rfl rfl rfl ?_
            refine v_iload_n (pc' := 41) (i := 2) (j := 1) X dX9_run_40 rfl rfl rfl ?_
            refine v_icmp_ge (pc' := 44) (tgt := 73) X dX9_run_41 (by decide) rfl (fun hc_41 => ?_) (fun hc_41 => ?_)
            -- taken 41
            · refine v_iload_n (pc' := 74) (i := 3) (j := 0) X dX9_run_73 rfl rfl rfl ?_
              have hF1e : F1 = M2 ∧ F2 = j := by
                obtain rfl : j = cN := by have hh := le_of_nI hc_41 (by omega) (by omega); omega
                rw [Nat.sub_self, fRunK_0] at h1 h2
                exact ⟨h1.symm, by rw [← h2]; rfl⟩
              obtain ⟨rfl, rfl⟩ := hF1e
              have hnn2 : nF = n2 := by rw [← hNF]; exact hU2.n
              subst hnn2
              refine v_ireturn X R (Nat.le_refl _) (Nat.le_refl _) dX9_run_74 ?_
              exact ⟨rfl, ad2, rfl, hA⟩
            -- not taken 41
            · refine v_aload_n (pc' := 45) (i := 0) (j := 3) X dX9_run_44 rfl rfl rfl ?_
              refine fg_X9_28 (pc' := 48) X dX9_run_45 rfl ?_
              refine v_iload_n (pc' := 49) (i := 1) (j := 2) X dX9_run_48 rfl rfl rfl ?_
              refine ag_M13 (pc' := 50) X (i) rfl (by omega) (by omega) dX9_run_49 rfl ?_
              refine fg_X9_208 (pc' := 53) X (by omega) (v := M2.1 (tb i) 0) rfl dX9_run_50 rfl ?_
              refine v_iconst (pc' := 54) (v := 1) X dX9_run_53 (by decide) rfl ?_
              refine v_icmp_ne (pc' := 57) (tgt := 73) X dX9_run_54 (by decide) rfl (fun hc_54 => ?_) (fun hc_54 => ?_)
              -- taken 54
              · refine v_iload_n (pc' := 74) (i := 3) (j := 0) X dX9_run_73 rfl rfl rfl ?_
                have hF1e : F1 = M2 ∧ F2 = j := by
                  rw [fRunK_n hc_54] at h1 h2
                  exact ⟨h1.symm, by rw [← h2]; rfl⟩
                obtain ⟨rfl, rfl⟩ := hF1e
                have hnn2 : nF = n2 := by rw [← hNF]; exact hU2.n
                subst hnn2
                refine v_ireturn X R (Nat.le_refl _) (Nat.le_refl _) dX9_run_74 ?_
                exact ⟨rfl, ad2, rfl, hA⟩
              -- not taken 54
              · refine v_aload_n (pc' := 58) (i := 0) (j := 3) X dX9_run_57 rfl rfl rfl ?_
                refine v_aload_n (pc' := 59) (i := 0) (j := 3) X dX9_run_58 rfl rfl rfl ?_
                refine fg_X9_28 (pc' := 62) X dX9_run_59 rfl ?_
                refine v_iload_n (pc' := 63) (i := 1) (j := 2) X dX9_run_62 rfl rfl rfl ?_
                refine ag_M13 (pc' := 64) X (i) rfl (by omega) (by omega) dX9_run_63 rfl ?_
                have hjc : j < cN := by
                  rcases Nat.lt_or_ge j cN with q9 | q9
                  · exact q9
                  · exact absurd (nI_le q9 (by omega)) hc_41
                obtain ⟨n9x, us9, hU9, hn9⟩ := iu_step hU2 hi2 hc_54
                have hN9 : fStepN M2 n2 (tb i) = n9x := hU9.n
                obtain ⟨q9, hq9⟩ : ∃ q9, cN - j = q9 + 1 := ⟨cN - j - 1, by omega⟩
                rw [hq9, fRunK_s hc_54, hU2.n] at h1 h2
                obtain ⟨nX, usX, hUX, hnX⟩ := iu_runK (i := i) q9 _ n9x us9 hU9 (by omega)
                have hXF : nX = nF := by
                  have hh := hUX.n
                  have h1' : (fRunK (tb i) q9 (fStep M2 n2 (tb i))).1 = F1 := h1
                  rw [h1', hNF] at hh
                  exact hh.symm
                refine v_callV (pc' := 67) X (st := []) (c_X9_step (M := M2) (ad := ad2) hi2 hU2 hc_54) k_X9_step w_ml_X9_250 w_im_X9_step w_se_X9_X9_step (rv_M) (by rw [hR]; exact ⟨Nat.le_of_ble_eq_true rfl, Nat.le_of_ble_eq_true rfl⟩) rfl rfl (Nat.le_of_ble_eq_true rfl) dX9_run_64 rfl (by rw [hR, hN9]; exact ⟨by show 11 * (n2 - n) + 11 * (n9x - n2) ≤ 11 * (nF - n); omega, by show 674 * (n2 - n) + 674 * (n9x - n2) ≤ 674 * (nF - n); omega⟩) ?_
                rintro _ _ ⟨rfl, n9, ad9, hn9e, rfl, hA9⟩
                rw [hN9] at hn9e ⊢
                rw [hn9e]
                rw [← hA9 0 (by unfold tb; omega)]
                refine v_iinc (pc' := 70) (j := 0) (v := nI (j + 1)) (lv' := [(3, .int (nI (j + 1))), (2, .int (nI cN)), (1, .int (nI i)), (0, .ref (ad9 (0)))]) X dX9_run_67 rfl (nI_add (j) 1) (by decide) rfl rfl ?_
                refine v_goto (pc' := 39) X dX9_run_70 (by decide) ?_
                refine v_sub (lv' := [(3, .int (nI (j + 1))), (2, .int (nI cN)), (1, .int (nI i)), (0, .ref (ad9 (0)))]) [0, 1, 2, 3] rfl ?_
                have hh := ih (j + 1) n9x us9 ad9 (fStep M2 n2 (tb i)) (by omega) (by omega) hU9 (by omega) (fun x hx => (hA9 x (by unfold tb at hx ⊢; omega)).trans (hA x hx)) (by rw [show cN - (j + 1) = q9 by omega]; exact h1) (by rw [show cN - (j + 1) = q9 by omega]; have h2x := h2; dsimp only at h2x; omega)
                rw [show 11 * (n9x - n) = 11 * (n2 - n) + 11 * (n9x - n2) by omega, show 674 * (n9x - n) = 674 * (n2 - n) + 674 * (n9x - n2) by omega] at hh
                exact hh
        refine v_iconst (pc' := 38) (v := 0) X dX9_run_37 (by decide) rfl ?_
        refine v_istore_n (pc' := 39) (i := 3) (lv' := (3, .int 0) :: [(0, .ref (ad (0))), (1, .int (nI i)), (2, .int (nI cN))]) X dX9_run_38 rfl (by decide) rfl rfl ?_
        refine v_sub (lv' := [(3, .int 0), (2, .int (nI cN)), (1, .int (nI i)), (0, .ref (ad (0)))]) [0, 3, 2, 1] rfl ?_
        have hh := hloop _ 0 n us ad (mI M 0 0 0) (Nat.lt_succ_self _) (Nat.zero_le _) hU0 (Nat.le_refl n) (fun _ _ => rfl) hF1 (by rw [Nat.zero_add]; exact hF2)
        rw [Nat.sub_self] at hh
        exact hh
      -- not taken 28
      · refine v_aload_n (pc' := 32) (i := 0) (j := 0) X dX9_run_31 rfl rfl rfl ?_
        refine v_iconst (pc' := 33) (v := 2) X dX9_run_32 (by decide) rfl ?_
        refine v_callV (pc' := 36) X (st := []) (c_X9_fail (M := (mI M 0 0 0))) k_X9_fail w_ml_X9_243 w_im_X9_fail w_se_X9_X9_fail (rv_M) (by rw [hR]; exact ⟨Nat.le_of_ble_eq_true rfl, Nat.le_of_ble_eq_true rfl⟩) rfl rfl (Nat.le_of_ble_eq_true rfl) dX9_run_33 rfl (⟨Nat.zero_le _, Nat.zero_le _⟩) ?_
        rintro _ _ ⟨rfl, rfl⟩
        refine v_ireturn X R (Nat.zero_le _) (Nat.zero_le _) dX9_run_36 ?_
        have hF : fRun M n k c = (mI M 0 0 2, 0) := by
          unfold fRun
          rw [if_neg hc_10]; exact if_pos (Or.inr (Int32.not_le.mp hc_28))
        have hN : nn ((mI M 0 0 2).1 0 2) = n := by rw [mI_o _ _ _ _ (by decide)]; exact hn0
        rw [hF, hN]
        exact ⟨rfl, ad, by rw [mI_mI], fun _ _ => rfl⟩
  -- not taken 10
  · refine v_aload_n (pc' := 14) (i := 0) (j := 0) X dX9_run_13 rfl rfl rfl ?_
    refine v_iconst (pc' := 15) (v := 1) X dX9_run_14 (by decide) rfl ?_
    refine v_callV (pc' := 18) X (st := []) (c_X9_fail (M := (mI M 0 0 0))) k_X9_fail w_ml_X9_243 w_im_X9_fail w_se_X9_X9_fail (rv_M) (by rw [hR]; exact ⟨Nat.le_of_ble_eq_true rfl, Nat.le_of_ble_eq_true rfl⟩) rfl rfl (Nat.le_of_ble_eq_true rfl) dX9_run_15 rfl (⟨Nat.zero_le _, Nat.zero_le _⟩) ?_
    rintro _ _ ⟨rfl, rfl⟩
    refine v_ireturn X R (Nat.zero_le _) (Nat.zero_le _) dX9_run_18 ?_
    have hF : fRun M n k c = (mI M 0 0 1, 0) := by
      unfold fRun
      exact if_pos hc_10
    have hN : nn ((mI M 0 0 1).1 0 2) = n := by rw [mI_o _ _ _ _ (by decide)]; exact hn0
    rw [hF, hN]
    exact ⟨rfl, ad, by rw [mI_mI], fun _ _ => rfl⟩
