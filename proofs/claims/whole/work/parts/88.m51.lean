/-! THE CLASS: RUN -/
theorem z_thr {G N : vM} {n s : Nat} {v : Int32} (h : Sm G N n s) : Sm G (mI N 0 0 v) n s := by
  obtain ⟨hc, ⟨us, h3, hu, h5, hH⟩, hok, ⟨pd, od, p1, p2, p3, p4, p5, p6⟩, hs, hn, hg, hO, hT⟩ := h
  have e0 : ∀ k, k ≠ 0 → (mI N 0 0 v).1 0 k = N.1 0 k := fun k hk => mI_o _ _ _ _ hk
  have ex : ∀ c, c ≠ 0 → (mI N 0 0 v).1 c = N.1 c := fun c hc => mI_n _ _ _ _ hc
  refine ⟨?_, ⟨us, by rw [e0 3 (by decide)]; exact h3, hu, h5, fun p hp => ?_⟩, hok, ⟨pd, od, p1, p2, p3, p4, by rw [e0 8 (by decide)]; exact p5, fun k hk => by rw [ex 21 (by decide)]; exact p6 k hk⟩, ?_, ?_, hg, fun k hk => ?_, fun j hj => ?_⟩
  · unfold sC; rw [e0 4 (by decide), e0 5 (by decide), e0 6 (by decide), e0 7 (by decide)]; exact hc
  · rw [ex 17 (by decide), ex 19 (by decide)]; exact hH p hp
  · rw [e0 1 (by decide)]; exact hs
  · rw [e0 2 (by decide)]; exact hn
  · rw [ex 9 (by decide), ex 10 (by decide), ex 11 (by decide), ex 12 (by decide)]; exact hO k hk
  · exact sT_cong (hT j hj) (fun k _ => ⟨rfl, rfl⟩) (fun k _ => ⟨ex _ (by unfold tb; omega), rfl⟩)
set_option maxHeartbeats 4000000 in
set_option maxRecDepth 100000 in
theorem c_X7_run {l : Launch} {D : va_G} {Y : Nat → ClassId} {zz : Nat → Nat} {n s cp cq us : Nat} {ad : Nat → Nat} {M : vM} {N : vM} (hS : Sm M N n s) (hU : IU N n us) (hst9 : l.stackTraces = false) (hq : n ≤ cq ∧ cq ≤ 2 * n + 10) (hcp : s ≤ cp) (hcp2 : cp < 2 ^ 31) {k c : Int32}  : Cx l D Y zz yX7_run cX7_run 5 (some FieldType.int) 11 310 [.ref (ad (0)), .int k, .int c] (wK Y n s cp cq ad M) (13 * (nn ((fRun N n k c).1.1 0 2) - n) + 1) (800 * (nn ((fRun N n k c).1.1 0 2) - n) + 6) (fun r w => ¬ (k < 0 ∨ nI n ≤ k) ∧ ¬ (c < 1 ∨ 500 < c) ∧ r = some (.int (fRun N n k c).2) ∧ pQ Y n s cp ad w (fRun N n k c).1) (fun E w => w = wK Y n s cp cq ad M ∧ ((E = "java/util/NoSuchElementException" ∧ fRun N n k c = (mI N 0 0 1, 0)) ∨ (E = "java/lang/IllegalArgumentException" ∧ fRun N n k c = (mI N 0 0 2, 0)))) := by
  refine v_entryX (by decide +kernel) (Nat.le_of_ble_eq_true rfl) ?_
  intro K X R hR hnm hd hl hD hY hz
  subst hl hD hY hz
  refine v_sub (lv' := [(0, .ref (ad (0))), (1, .int k), (2, .int c)]) [0, 1, 2] rfl ?_
  have h52 : M.1 5 2 = nI n := hS.2.2.2.2.2.1.1
  have hn16 := hU.n16
  have hq2 : cq < 2 ^ 31 := by omega
  refine v_iload_n (pc' := 1) (i := 1) (j := 1) X dX7_run_0 rfl rfl rfl ?_
  refine v_if_lt (pc' := 4) (tgt := 15) X dX7_run_1 (by decide) rfl (fun hc_1 => ?_) (fun hc_1 => ?_)
  -- taken 1
  · have hb : k < 0 ∨ nI n ≤ k := Or.inl hc_1
    have hF : fRun N n k c = (mI N 0 0 1, 0) := if_pos hb
    exact x_throw X R hst9 hd (cls := "java/util/NoSuchElementException") (ik := 71) (ic := 73) (by decide +kernel) w_cl_X7_71 w_in_java_util_NoSuchElementException xw_NS_c xw_NS_g xw_NS_n xw_NS_o dX7_run_15 dX7_run_18 dX7_run_19 dX7_run_22 (by rw [hR]; exact Nat.le_of_ble_eq_true rfl) (by rw [hR]; exact Nat.le_of_ble_eq_true rfl) (by rw [hR]; exact Nat.le_add_left 1 _) (by rw [hR]; exact Nat.le_add_left 6 _) (Nat.le_add_left 1 _) (Nat.le_add_left 6 _) ⟨rfl, Or.inl ⟨rfl, hF⟩⟩
  -- not taken 1
  · refine v_iload_n (pc' := 5) (i := 1) (j := 1) X dX7_run_4 rfl rfl rfl ?_
    refine v_aload_n (pc' := 6) (i := 0) (j := 0) X dX7_run_5 rfl rfl rfl ?_
    refine fk_X7_16 (pc' := 9) X dX7_run_6 rfl ?_
    refine v_callV (pc' := 12) X (st := [.int k]) (c_size5 (M := M)) k_Jx4a65c_size_8abf5 w_ml_X7_59 w_im_Jx4a65c_size_8abf5 w_se_Jx4a65c_Jx4a65c_size_8abf5 rw_L5 (by rw [hR]; exact ⟨Nat.le_of_ble_eq_true rfl, Nat.le_of_ble_eq_true rfl⟩) rfl rfl (Nat.le_of_ble_eq_true rfl) dX7_run_9 rfl (⟨Nat.zero_le _, Nat.zero_le _⟩) ?_
    rintro _ _ ⟨rfl, rfl⟩
    rw [h52]
    refine v_icmp_lt (pc' := 15) (tgt := 23) X dX7_run_12 (by decide) rfl (fun hc_12 => ?_) (fun hc_12 => ?_)
    -- taken 12
    · have hnb : ¬ (k < 0 ∨ nI n ≤ k) := fun z9 => z9.elim hc_1 (Int32.not_le.mpr hc_12)
      refine v_iload_n (pc' := 24) (i := 2) (j := 2) X dX7_run_23 rfl rfl rfl ?_
      refine v_iconst (pc' := 25) (v := 1) X dX7_run_24 (by decide) rfl ?_
      refine v_icmp_lt (pc' := 28) (tgt := 35) X dX7_run_25 (by decide) rfl (fun hc_25 => ?_) (fun hc_25 => ?_)
      -- taken 25
      · have hb2 : c < 1 ∨ 500 < c := Or.inl hc_25
        have hF : fRun N n k c = (mI N 0 0 2, 0) := (if_neg hnb).trans (if_pos hb2)
        exact x_throw X R hst9 hd (cls := "java/lang/IllegalArgumentException") (ik := 74) (ic := 76) (by decide +kernel) w_cl_X7_74 w_in_java_lang_IllegalArgumentException xw_IA_c xw_IA_g xw_IA_n xw_IA_o dX7_run_35 dX7_run_38 dX7_run_39 dX7_run_42 (by rw [hR]; exact Nat.le_of_ble_eq_true rfl) (by rw [hR]; exact Nat.le_of_ble_eq_true rfl) (by rw [hR]; exact Nat.le_add_left 1 _) (by rw [hR]; exact Nat.le_add_left 6 _) (Nat.le_add_left 1 _) (Nat.le_add_left 6 _) ⟨rfl, Or.inr ⟨rfl, hF⟩⟩
      -- not taken 25
      · refine v_iload_n (pc' := 29) (i := 2) (j := 2) X dX7_run_28 rfl rfl rfl ?_
        refine v_sipush (pc' := 32) (v := 500) X dX7_run_29 (by decide) rfl ?_
        refine v_icmp_le (pc' := 35) (tgt := 43) X dX7_run_32 (by decide) rfl (fun hc_32 => ?_) (fun hc_32 => ?_)
        -- taken 32
        · have hnb2 : ¬ (c < 1 ∨ 500 < c) := fun z9 => z9.elim hc_25 (Int32.not_lt.mpr hc_32)
          obtain ⟨i, hi31, rfl⟩ := nI_of (x := k) (fun z9 => hnb (Or.inl z9))
          have hi : i < n := by
            rcases Nat.lt_or_ge i n with y9 | y9
            · exact y9
            · exact absurd (Or.inr (nI_le y9 hi31)) hnb
          have h16 : i < 16 := by omega
          obtain ⟨cN, hc31, rfl⟩ := nI_of (x := c) (fun z9 => hnb2 (Or.inl (Int32.lt_of_lt_of_le z9 (by decide))))
          have hcN : cN ≤ 500 := by
            rcases Nat.lt_or_ge 500 cN with y9 | y9
            · exact absurd (Or.inr (nI_lt (a := 500) y9 hc31)) hnb2
            · exact y9
          have hF : fRun N n (nI i) (nI cN) = ((fRunK (tb i) cN (mI N 0 0 0)).1, nI (fRunK (tb i) cN (mI N 0 0 0)).2) := by
            unfold fRun
            rw [if_neg hnb, if_neg hnb2, nn_nI hi31, nn_nI hc31]
          have hU0 : IU (mI N 0 0 0) n us := iu_cnt hU (by decide)
          have hS0 : Sm M (mI N 0 0 0) n s := z_thr hS
          obtain ⟨nF, usF, hUF, hnF⟩ := iu_runK (i := i) cN _ n us hU0 hi
          have hNF := hUF.n
          rw [hF] at R hR
          rw [hNF] at R hR
          generalize hF1 : (fRunK (tb i) cN (mI N 0 0 0)).1 = F1 at R hUF hNF
          generalize hF2 : (fRunK (tb i) cN (mI N 0 0 0)).2 = F2 at R
          have hloop : ∀ (dd j n2 us2 cq2 : Nat) (ad2 : Nat → Nat) (G2 N2 : vM), cN - j < dd → j ≤ cN → Sm G2 N2 n2 s → IU N2 n2 us2 → (n2 ≤ cq2 ∧ cq2 ≤ 2 * n2 + 10) → n ≤ n2 → (∀ x, x ≠ 6 → (x < tb n ∨ 400 ≤ x) → ad2 x = ad x) → (fRunK (tb i) (cN - j) N2).1 = F1 → j + (fRunK (tb i) (cN - j) N2).2 = F2 → V K 5 (wK (kY K) n2 s cp cq2 ad2 G2) (13 * (n2 - n)) (800 * (n2 - n)) 58 [(4, .int (nI j)), (3, .ref (ad2 (tb i))), (2, .int (nI cN)), (0, .ref (ad2 (0)))] [] := by
            intro dd
            induction dd with
            | zero => intro j n2 us2 cq2 ad2 G2 N2 hlt; exact absurd hlt (Nat.not_lt_zero _)
            | succ dd ih =>
              intro j n2 us2 cq2 ad2 G2 N2 hlt hj hS2 hU2 hqq hnn hA h1 h2
              have hi2 : i < n2 := by omega
              have hn216 := hU2.n16
              have h8 : G2.1 (tb i) 8 = N2.1 (tb i) 0 := (hS2.T hi2).1.1
              refine v_iload (pc' := 60) (j := 0) X dX7_run_58 rfl rfl ?_
              refine v_iload_n (pc' := 61) (i := 2) (j := 2) X dX7_run_60 rfl rfl rfl ?_
              refine v_icmp_ge (pc' := 64) (tgt := 83) X dX7_run_61 (by decide) rfl (fun hc_61 => ?_) (fun hc_61 => ?_)
              -- taken 61
              · refine v_iload (pc' := 85) (j := 0) X dX7_run_83 rfl rfl ?_
                have hF1e : F1 = N2 ∧ F2 = j := by
                  obtain rfl : j = cN := by have hh := le_of_nI hc_61 (by omega) (by omega); omega
                  rw [Nat.sub_self, fRunK_0] at h1 h2
                  exact ⟨h1.symm, by rw [← h2]; rfl⟩
                obtain ⟨rfl, rfl⟩ := hF1e
                have hnn2 : nF = n2 := by rw [← hNF]; exact hU2.n
                subst hnn2
                refine x_ireturn X R (by omega) (by omega) dX7_run_85 ?_
                exact ⟨hnb, hnb2, rfl, nF, cq2, ad2, G2, rfl, hS2, hqq, hnn, hA⟩
              -- not taken 61
              · refine v_aload_n (pc' := 65) (i := 3) (j := 1) X dX7_run_64 rfl rfl rfl ?_
                refine fk_X7_81 (pc' := 68) X hi2 h16 (v := N2.1 (tb i) 0) h8 dX7_run_65 rfl ?_
                refine v_iconst (pc' := 69) (v := 1) X dX7_run_68 (by decide) rfl ?_
                refine v_icmp_ne (pc' := 72) (tgt := 83) X dX7_run_69 (by decide) rfl (fun hc_69 => ?_) (fun hc_69 => ?_)
                -- taken 69
                · refine v_iload (pc' := 85) (j := 0) X dX7_run_83 rfl rfl ?_
                  have hF1e : F1 = N2 ∧ F2 = j := by
                    rw [fRunK_n hc_69] at h1 h2
                    exact ⟨h1.symm, by rw [← h2]; rfl⟩
                  obtain ⟨rfl, rfl⟩ := hF1e
                  have hnn2 : nF = n2 := by rw [← hNF]; exact hU2.n
                  subst hnn2
                  refine x_ireturn X R (by omega) (by omega) dX7_run_85 ?_
                  exact ⟨hnb, hnb2, rfl, nF, cq2, ad2, G2, rfl, hS2, hqq, hnn, hA⟩
                -- not taken 69
                · refine v_aload_n (pc' := 73) (i := 0) (j := 3) X dX7_run_72 rfl rfl rfl ?_
                  refine v_aload_n (pc' := 74) (i := 3) (j := 1) X dX7_run_73 rfl rfl rfl ?_
                  have hjc : j < cN := by
                    rcases Nat.lt_or_ge j cN with q9 | q9
                    · exact q9
                    · exact absurd (nI_le q9 (by omega)) hc_61
                  obtain ⟨n9x, us9, hU9, hn9⟩ := iu_step hU2 hi2 hc_69
                  have hN9 : fStepN N2 n2 (tb i) = n9x := hU9.n
                  obtain ⟨q9, hq9⟩ : ∃ q9, cN - j = q9 + 1 := ⟨cN - j - 1, by omega⟩
                  rw [hq9, fRunK_s hc_69, hU2.n] at h1 h2
                  obtain ⟨nX, usX, hUX, hnX⟩ := iu_runK (i := i) q9 _ n9x us9 hU9 (by omega)
                  have hXF : nX = nF := by
                    have hh := hUX.n
                    have h1' : (fRunK (tb i) q9 (fStep N2 n2 (tb i))).1 = F1 := h1
                    rw [h1', hNF] at hh
                    exact hh.symm
                  refine v_callV (pc' := 77) X (st := []) (c_X7_step (M := G2) (N := N2) hi2 h16 hS2 hU2 hc_69 hqq hcp hcp2) k_X7_step w_ml_X7_84 w_im_X7_step w_se_X7_X7_step rw_X7 (by rw [hR]; exact ⟨Nat.le_of_ble_eq_true rfl, Nat.le_of_ble_eq_true rfl⟩) rfl rfl (Nat.le_of_ble_eq_true rfl) dX7_run_74 rfl (by rw [hR, hN9]; exact ⟨by show 13 * (n2 - n) + 13 * (n9x - n2) ≤ 13 * (nF - n) + 1; omega, by show 800 * (n2 - n) + 800 * (n9x - n2) ≤ 800 * (nF - n) + 6; omega⟩) ?_
                  rintro _ _ ⟨rfl, n9, cq9, ad9, G9, rfl, g1, g2, g3, g4⟩
                  have hn9e : n9 = n9x := by have q1 := sm_nn g1; have q2 := hU9.n; omega
                  subst hn9e
                  rw [hN9]
                  have ha0 : ad9 0 = ad2 0 := g4 0 (by decide) (Or.inl (by unfold tb; omega))
                  have hai : ad9 (tb i) = ad2 (tb i) := g4 _ (by unfold tb; omega) (Or.inl (by unfold tb; omega))
                  rw [← ha0, ← hai]
                  refine v_iinc (pc' := 80) (j := 0) (v := nI (j + 1)) (lv' := [(4, .int (nI (j + 1))), (3, .ref (ad9 (tb i))), (2, .int (nI cN)), (0, .ref (ad9 (0)))]) X dX7_run_77 rfl (nI_add (j) 1) (by decide) rfl rfl ?_
                  refine v_goto (pc' := 58) X dX7_run_80 (by decide) ?_
                  refine v_sub (lv' := [(4, .int (nI (j + 1))), (3, .ref (ad9 (tb i))), (2, .int (nI cN)), (0, .ref (ad9 (0)))]) [0, 1, 2, 3] rfl ?_
                  have hh := ih (j + 1) n9 us9 cq9 ad9 G9 (fStep N2 n2 (tb i)) (by omega) (by omega) g1 hU9 g2 (by omega) (fun x h6 hx => (g4 x h6 (hx.imp (fun y => by unfold tb at y ⊢; omega) id)).trans (hA x h6 hx)) (by rw [show cN - (j + 1) = q9 by omega]; exact h1) (by rw [show cN - (j + 1) = q9 by omega]; have h2x := h2; dsimp only at h2x; omega)
                  rw [show 13 * (n9 - n) = 13 * (n2 - n) + 13 * (n9 - n2) by omega, show 800 * (n9 - n) = 800 * (n2 - n) + 800 * (n9 - n2) by omega] at hh
                  exact hh
          refine v_aload_n (pc' := 44) (i := 0) (j := 0) X dX7_run_43 rfl rfl rfl ?_
          refine fk_X7_16 (pc' := 47) X dX7_run_44 rfl ?_
          refine v_iload_n (pc' := 48) (i := 1) (j := 1) X dX7_run_47 rfl rfl rfl ?_
          refine v_callV (pc' := 51) X (st := []) (c_get5 (M := M) (k := i) hi hq.1 hq2 h52) k_Jx4a65c_get_915e3 w_ml_X7_77 w_im_Jx4a65c_get_915e3 w_se_Jx4a65c_Jx4a65c_get_915e3 rw_L5 (by rw [hR]; exact ⟨Nat.le_of_ble_eq_true rfl, Nat.le_of_ble_eq_true rfl⟩) rfl rfl (Nat.le_of_ble_eq_true rfl) dX7_run_48 rfl (⟨Nat.zero_le _, Nat.zero_le _⟩) ?_
          rintro _ _ ⟨rfl, rfl⟩
          refine v_castS (pc' := 54) X w_is_X6 w_cl_X7_50 (rw_X6 hi h16) dX7_run_51 rfl ?_
          refine v_astore_n (pc' := 55) (i := 3) (lv' := [(3, .ref (ad (tb i))), (0, .ref (ad (0))), (1, .int (nI i)), (2, .int (nI cN))]) X dX7_run_54 rfl (by decide) rfl rfl ?_
          refine v_iconst (pc' := 56) (v := 0) X dX7_run_55 (by decide) rfl ?_
          refine v_istore (pc' := 58) (lv' := [(4, .int 0), (3, .ref (ad (tb i))), (0, .ref (ad (0))), (1, .int (nI i)), (2, .int (nI cN))]) X dX7_run_56 (by decide) rfl rfl ?_
          refine v_sub (lv' := [(4, .int 0), (3, .ref (ad (tb i))), (2, .int (nI cN)), (0, .ref (ad (0)))]) [0, 1, 4, 2] rfl ?_
          have hh := hloop _ 0 n us cq ad M (mI N 0 0 0) (Nat.lt_succ_self _) (Nat.zero_le _) hS0 hU0 hq (Nat.le_refl n) (fun _ _ _ => rfl) hF1 (by rw [Nat.zero_add]; exact hF2)
          rw [Nat.sub_self] at hh
          exact hh
        -- not taken 32
        · have hb2 : c < 1 ∨ 500 < c := Or.inr (Int32.not_le.mp hc_32)
          have hF : fRun N n k c = (mI N 0 0 2, 0) := (if_neg hnb).trans (if_pos hb2)
          exact x_throw X R hst9 hd (cls := "java/lang/IllegalArgumentException") (ik := 74) (ic := 76) (by decide +kernel) w_cl_X7_74 w_in_java_lang_IllegalArgumentException xw_IA_c xw_IA_g xw_IA_n xw_IA_o dX7_run_35 dX7_run_38 dX7_run_39 dX7_run_42 (by rw [hR]; exact Nat.le_of_ble_eq_true rfl) (by rw [hR]; exact Nat.le_of_ble_eq_true rfl) (by rw [hR]; exact Nat.le_add_left 1 _) (by rw [hR]; exact Nat.le_add_left 6 _) (Nat.le_add_left 1 _) (Nat.le_add_left 6 _) ⟨rfl, Or.inr ⟨rfl, hF⟩⟩
    -- not taken 12
    · have hb : k < 0 ∨ nI n ≤ k := Or.inr (Int32.not_lt.mp hc_12)
      have hF : fRun N n k c = (mI N 0 0 1, 0) := if_pos hb
      exact x_throw X R hst9 hd (cls := "java/util/NoSuchElementException") (ik := 71) (ic := 73) (by decide +kernel) w_cl_X7_71 w_in_java_util_NoSuchElementException xw_NS_c xw_NS_g xw_NS_n xw_NS_o dX7_run_15 dX7_run_18 dX7_run_19 dX7_run_22 (by rw [hR]; exact Nat.le_of_ble_eq_true rfl) (by rw [hR]; exact Nat.le_of_ble_eq_true rfl) (by rw [hR]; exact Nat.le_add_left 1 _) (by rw [hR]; exact Nat.le_add_left 6 _) (Nat.le_add_left 1 _) (Nat.le_add_left 6 _) ⟨rfl, Or.inl ⟨rfl, hF⟩⟩
