/-! THE CLASS: TURN -/
set_option maxHeartbeats 4000000 in
set_option maxRecDepth 100000 in
theorem c_X7_turn {l : Launch} {D : va_G} {Y : Nat → ClassId} {zz : Nat → Nat} {n s cp cq us : Nat} {ad : Nat → Nat} {M : vM} {N : vM} (hS : Sm M N n s) (hU : IU N n us) (hst9 : l.stackTraces = false) (hq : n ≤ cq ∧ cq ≤ 2 * n + 10) (hcp : s ≤ cp) (hcp2 : cp < 2 ^ 31) {k : Int32}  : Cx l D Y zz yX7_turn cX7_turn 6 (some FieldType.int) 11 310 [.ref (ad (0)), .int k] (wK Y n s cp cq ad M) (13 * (nn ((fTurn N k).1.1 0 2) - n) + 1) (800 * (nn ((fTurn N k).1.1 0 2) - n) + 6) (fun r w => ¬ (k < 1 ∨ 100 < k) ∧ r = some (.int (fTurn N k).2) ∧ pQ Y n s cp ad w (fTurn N k).1) (fun E w => w = wK Y n s cp cq ad M ∧ E = "java/lang/IllegalArgumentException" ∧ fTurn N k = (mI N 0 0 1, 0)) := by
  refine v_entryX (by decide +kernel) (Nat.le_of_ble_eq_true rfl) ?_
  intro K X R hR hnm hd hl hD hY hz
  subst hl hD hY hz
  refine v_sub (lv' := [(0, .ref (ad (0))), (1, .int k)]) [0, 1] rfl ?_
  have hn16 := hU.n16
  have hq2 : cq < 2 ^ 31 := by omega
  have h07 : M.1 0 8 = N.1 0 7 := hS.c.2.2.2
  refine v_iload_n (pc' := 1) (i := 1) (j := 1) X dX7_turn_0 rfl rfl rfl ?_
  refine v_iconst (pc' := 2) (v := 1) X dX7_turn_1 (by decide) rfl ?_
  refine v_icmp_lt (pc' := 5) (tgt := 11) X dX7_turn_2 (by decide) rfl (fun hc_2 => ?_) (fun hc_2 => ?_)
  -- taken 2
  · have hb2 : k < 1 ∨ 100 < k := Or.inl hc_2
    have hF : fTurn N k = (mI N 0 0 1, 0) := if_pos hb2
    exact x_throw X R hst9 hd (cls := "java/lang/IllegalArgumentException") (ik := 74) (ic := 76) (by decide +kernel) w_cl_X7_74 w_in_java_lang_IllegalArgumentException xw_IA_c xw_IA_g xw_IA_n xw_IA_o dX7_turn_11 dX7_turn_14 dX7_turn_15 dX7_turn_18 (by rw [hR]; exact Nat.le_of_ble_eq_true rfl) (by rw [hR]; exact Nat.le_of_ble_eq_true rfl) (by rw [hR]; exact Nat.le_add_left 1 _) (by rw [hR]; exact Nat.le_add_left 6 _) (Nat.le_add_left 1 _) (Nat.le_add_left 6 _) ⟨rfl, rfl, hF⟩
  -- not taken 2
  · refine v_iload_n (pc' := 6) (i := 1) (j := 1) X dX7_turn_5 rfl rfl rfl ?_
    refine v_bipush (pc' := 8) (v := 100) X dX7_turn_6 (by decide) rfl ?_
    refine v_icmp_le (pc' := 11) (tgt := 19) X dX7_turn_8 (by decide) rfl (fun hc_8 => ?_) (fun hc_8 => ?_)
    -- taken 8
    · have hnb2 : ¬ (k < 1 ∨ 100 < k) := fun z9 => z9.elim hc_2 (Int32.not_lt.mpr hc_8)
      obtain ⟨kN, hc31, rfl⟩ := nI_of (x := k) (fun z9 => hnb2 (Or.inl (Int32.lt_of_lt_of_le z9 (by decide))))
      have hcN : kN ≤ 100 := by
        rcases Nat.lt_or_ge 100 kN with y9 | y9
        · exact absurd (Or.inr (nI_lt (a := 100) y9 hc31)) hnb2
        · exact y9
      have hF : fTurn N (nI kN) = (fTurnK kN (mI N 0 0 0), (fTurnK kN (mI N 0 0 0)).1 0 7 - N.1 0 7) := by
        unfold fTurn
        rw [if_neg hnb2, nn_nI hc31]
      have hU0 : IU (mI N 0 0 0) n us := iu_cnt hU (by decide)
      have hS0 : Sm M (mI N 0 0 0) n s := z_thr hS
      rw [hF] at R hR
      obtain ⟨nF, usF, hUF, hnF⟩ := iu_turnK kN _ n us hU0
      have hNF := hUF.n
      rw [hNF] at R hR
      generalize hF1 : fTurnK kN (mI N 0 0 0) = F1 at R hUF hNF
      refine v_aload_n (pc' := 20) (i := 0) (j := 0) X dX7_turn_19 rfl rfl rfl ?_
      refine fk_X7_47 (pc' := 23) X (v := N.1 0 7) h07 dX7_turn_20 rfl ?_
      refine v_istore_n (pc' := 24) (i := 2) (lv' := [(2, .int (N.1 0 7)), (0, .ref (ad (0))), (1, .int (nI kN))]) X dX7_turn_23 rfl (by decide) rfl rfl ?_
      refine v_iconst (pc' := 25) (v := 0) X dX7_turn_24 (by decide) rfl ?_
      refine v_istore_n (pc' := 26) (i := 3) (lv' := [(3, .int 0), (2, .int (N.1 0 7)), (0, .ref (ad (0))), (1, .int (nI kN))]) X dX7_turn_25 rfl (by decide) rfl rfl ?_
      have hloop : ∀ (dd j n2 us2 cq2 : Nat) (ad2 : Nat → Nat) (G2 N2 : vM), kN - j < dd → j ≤ kN → Sm G2 N2 n2 s → IU N2 n2 us2 → (n2 ≤ cq2 ∧ cq2 ≤ 2 * n2 + 10) → n ≤ n2 → (∀ x, x ≠ 6 → (x < tb n ∨ 400 ≤ x) → ad2 x = ad x) → fTurnK (kN - j) N2 = F1 → V K 6 (wK (kY K) n2 s cp cq2 ad2 G2) (13 * (n2 - n)) (800 * (n2 - n)) 26 [(3, .int (nI j)), (2, .int (N.1 0 7)), (1, .int (nI kN)), (0, .ref (ad2 (0)))] [] := by
        intro dd
        induction dd with
        | zero => intro j n2 us2 cq2 ad2 G2 N2 hlt; exact absurd hlt (Nat.not_lt_zero _)
        | succ dd ih =>
          intro j n2 us2 cq2 ad2 G2 N2 hlt hj hS2 hU2 hqq hnn hA h1
          have hn216 := hU2.n16
          have h08 : G2.1 0 8 = N2.1 0 7 := hS2.c.2.2.2
          refine v_iload_n (pc' := 27) (i := 3) (j := 0) X dX7_turn_26 rfl rfl rfl ?_
          refine v_iload_n (pc' := 28) (i := 1) (j := 2) X dX7_turn_27 rfl rfl rfl ?_
          refine v_icmp_ge (pc' := 31) (tgt := 94) X dX7_turn_28 (by decide) rfl (fun hc_28 => ?_) (fun hc_28 => ?_)
          -- taken 28
          · refine v_aload_n (pc' := 95) (i := 0) (j := 3) X dX7_turn_94 rfl rfl rfl ?_
            refine fk_X7_47 (pc' := 98) X (v := N2.1 0 7) h08 dX7_turn_95 rfl ?_
            refine v_iload_n (pc' := 99) (i := 2) (j := 1) X dX7_turn_98 rfl rfl rfl ?_
            refine v_isub (pc' := 100) X dX7_turn_99 rfl ?_
            obtain rfl : j = kN := by have hh := le_of_nI hc_28 (by omega) (by omega); omega
            have hMF : N2 = F1 := by rw [Nat.sub_self] at h1; exact h1
            subst hMF
            have hnn2 : n2 = nF := by rw [← hNF]; exact hU2.n.symm
            subst hnn2
            refine x_ireturn X R (by omega) (by omega) dX7_turn_100 ?_
            exact ⟨hnb2, rfl, n2, cq2, ad2, G2, rfl, hS2, hqq, hnn, hA⟩
          -- not taken 28
          · refine v_iconst (pc' := 32) (v := 0) X dX7_turn_31 (by decide) rfl ?_
            refine v_istore (pc' := 34) (lv' := [(4, .int 0), (3, .int (nI j)), (2, .int (N.1 0 7)), (1, .int (nI kN)), (0, .ref (ad2 (0)))]) X dX7_turn_32 (by decide) rfl rfl ?_
            have hjk : j < kN := by
              rcases Nat.lt_or_ge j kN with q9 | q9
              · exact q9
              · exact absurd (nI_le q9 (by omega)) hc_28
            obtain ⟨G, hG0⟩ : ∃ G, G = fTurnI 17 0 N2 := ⟨_, rfl⟩
            have h1G : fTurnK (kN - (j + 1)) G = F1 := by rw [hG0]; rw [show kN - j = kN - (j + 1) + 1 by omega] at h1; exact h1
            have hin : ∀ (dd2 p n3 us3 cq3 : Nat) (ad3 : Nat → Nat) (G3 N3 : vM), 17 - p < dd2 → p ≤ n3 → Sm G3 N3 n3 s → IU N3 n3 us3 → (n3 ≤ cq3 ∧ cq3 ≤ 2 * n3 + 10) → n2 ≤ n3 → (∀ x, x ≠ 6 → (x < tb n ∨ 400 ≤ x) → ad3 x = ad x) → fTurnI (17 - p) p N3 = G → V K 6 (wK (kY K) n3 s cp cq3 ad3 G3) (13 * (n3 - n)) (800 * (n3 - n)) 34 [(4, .int (nI p)), (3, .int (nI j)), (2, .int (N.1 0 7)), (1, .int (nI kN)), (0, .ref (ad3 (0)))] [] := by
              intro dd2
              induction dd2 with
              | zero => intro p n3 us3 cq3 ad3 G3 N3 hlt2; exact absurd hlt2 (Nat.not_lt_zero _)
              | succ dd2 ih2 =>
                intro p n3 us3 cq3 ad3 G3 N3 hlt2 hp hS3 hU3 hq3 hnn3 hA3 hG
                have hn316 := hU3.n16
                have h523 : G3.1 5 2 = nI n3 := hS3.2.2.2.2.2.1.1
                refine v_iload (pc' := 36) (j := 0) X dX7_turn_34 rfl rfl ?_
                obtain ⟨nG, usG, hUG, hnG⟩ := iu_turnI (17 - p) p _ n3 us3 hU3
                rw [hG] at hUG
                obtain ⟨nX, usX, hUX, hnX⟩ := iu_turnK (kN - (j + 1)) G nG usG hUG
                have hXF : nX = nF := by
                  have hh := hUX.n
                  rw [h1G, hNF] at hh
                  exact hh.symm
                refine v_aload_n (pc' := 37) (i := 0) (j := 4) X dX7_turn_36 rfl rfl rfl ?_
                refine fk_X7_16 (pc' := 40) X dX7_turn_37 rfl ?_
                refine v_callV (pc' := 43) X (st := [.int (nI p)]) (c_size5 (M := G3)) k_Jx4a65c_size_8abf5 w_ml_X7_59 w_im_Jx4a65c_size_8abf5 w_se_Jx4a65c_Jx4a65c_size_8abf5 rw_L5 (by rw [hR]; exact ⟨Nat.le_of_ble_eq_true rfl, Nat.le_of_ble_eq_true rfl⟩) rfl rfl (Nat.le_of_ble_eq_true rfl) dX7_turn_40 rfl (by rw [hR]; exact ⟨by show 13 * (n3 - n) + 0 ≤ 13 * (nF - n) + 1; omega, by show 800 * (n3 - n) + 0 ≤ 800 * (nF - n) + 6; omega⟩) ?_
                rintro _ _ ⟨rfl, rfl⟩
                rw [h523]
                refine v_icmp_ge (pc' := 46) (tgt := 88) X dX7_turn_43 (by decide) rfl (fun hc_43 => ?_) (fun hc_43 => ?_)
                -- taken 43
                · have hpe : ¬ p < n3 := by have hh := le_of_nI hc_43 (by omega) (by omega); omega
                  rw [fTurnI_e hU3.n hpe] at hG
                  refine v_iinc (pc' := 91) (j := 1) (v := nI (j + 1)) (lv' := [(3, .int (nI (j + 1))), (4, .int (nI p)), (2, .int (N.1 0 7)), (1, .int (nI kN)), (0, .ref (ad3 (0)))]) X dX7_turn_88 rfl (nI_add (j) 1) (by decide) rfl rfl ?_
                  refine v_goto (pc' := 26) X dX7_turn_91 (by decide) ?_
                  refine v_sub (lv' := [(3, .int (nI (j + 1))), (2, .int (N.1 0 7)), (1, .int (nI kN)), (0, .ref (ad3 (0)))]) [0, 2, 3, 4] rfl ?_
                  exact ih (j + 1) n3 us3 cq3 ad3 G3 N3 (by omega) (by omega) hS3 hU3 hq3 (by omega) hA3 (by rw [hG]; exact h1G)
                -- not taken 43
                · have hp3 : p < n3 := by
                    rcases Nat.lt_or_ge p n3 with q9 | q9
                    · exact q9
                    · exact absurd (nI_le q9 (by omega)) hc_43
                  have hp16 : p < 16 := by omega
                  refine v_iload (pc' := 48) (j := 0) X dX7_turn_46 rfl rfl ?_
                  refine v_bipush (pc' := 50) (v := 16) X dX7_turn_48 (by decide) rfl ?_
                  refine v_icmp_ge (pc' := 53) (tgt := 88) X dX7_turn_50 (by decide) rfl (fun hc_50 => absurd hc_50 (nI_ge (b := 16) hp16 (by decide))) (fun _ => ?_)
                  refine v_aload_n (pc' := 54) (i := 0) (j := 4) X dX7_turn_53 rfl rfl rfl ?_
                  refine fk_X7_16 (pc' := 57) X dX7_turn_54 rfl ?_
                  refine v_iload (pc' := 59) (j := 0) X dX7_turn_57 rfl rfl ?_
                  refine v_callV (pc' := 62) X (st := []) (c_get5 (M := G3) (k := p) hp3 hq3.1 (by omega) h523) k_Jx4a65c_get_915e3 w_ml_X7_77 w_im_Jx4a65c_get_915e3 w_se_Jx4a65c_Jx4a65c_get_915e3 rw_L5 (by rw [hR]; exact ⟨Nat.le_of_ble_eq_true rfl, Nat.le_of_ble_eq_true rfl⟩) rfl rfl (Nat.le_of_ble_eq_true rfl) dX7_turn_59 rfl (by rw [hR]; exact ⟨by show 13 * (n3 - n) + 0 + 0 ≤ 13 * (nF - n) + 1; omega, by show 800 * (n3 - n) + 0 + 0 ≤ 800 * (nF - n) + 6; omega⟩) ?_
                  rintro _ _ ⟨rfl, rfl⟩
                  refine v_castS (pc' := 65) X w_is_X6 w_cl_X7_50 (rw_X6 hp3 hp16) dX7_turn_62 rfl ?_
                  refine v_astore (pc' := 67) (lv' := [(5, .ref (ad3 (tb p))), (4, .int (nI p)), (3, .int (nI j)), (2, .int (N.1 0 7)), (1, .int (nI kN)), (0, .ref (ad3 (0)))]) X dX7_turn_65 (by decide) rfl rfl ?_
                  refine v_aload (pc' := 69) (j := 0) X dX7_turn_67 rfl rfl ?_
                  refine fk_X7_81 (pc' := 72) X hp3 hp16 (v := N3.1 (tb p) 0) ((hS3.T hp3).1.1) dX7_turn_69 rfl ?_
                  refine v_iconst (pc' := 73) (v := 1) X dX7_turn_72 (by decide) rfl ?_
                  refine v_icmp_ne (pc' := 76) (tgt := 82) X dX7_turn_73 (by decide) rfl (fun hc_73 => ?_) (fun hc_73 => ?_)
                  -- taken 73
                  · refine v_iinc (pc' := 85) (j := 1) (v := nI (p + 1)) (lv' := [(4, .int (nI (p + 1))), (5, .ref (ad3 (tb p))), (3, .int (nI j)), (2, .int (N.1 0 7)), (1, .int (nI kN)), (0, .ref (ad3 (0)))]) X dX7_turn_82 rfl (nI_add (p) 1) (by decide) rfl rfl ?_
                    refine v_goto (pc' := 34) X dX7_turn_85 (by decide) ?_
                    obtain ⟨q9, hq9⟩ : ∃ q9, 17 - p = q9 + 1 := ⟨17 - p - 1, by omega⟩
                    rw [hq9, fTurnI_k hU3.n hp3 hc_73] at hG
                    refine v_sub (lv' := [(4, .int (nI (p + 1))), (3, .int (nI j)), (2, .int (N.1 0 7)), (1, .int (nI kN)), (0, .ref (ad3 (0)))]) [0, 2, 3, 4, 5] rfl ?_
                    exact ih2 (p + 1) n3 us3 cq3 ad3 G3 N3 (by omega) hp3 hS3 hU3 hq3 hnn3 hA3 (by rw [show 17 - (p + 1) = q9 by omega]; exact hG)
                  -- not taken 73
                  · refine v_aload_n (pc' := 77) (i := 0) (j := 5) X dX7_turn_76 rfl rfl rfl ?_
                    refine v_aload (pc' := 79) (j := 0) X dX7_turn_77 rfl rfl ?_
                    obtain ⟨n9x, us9, hU9, hn9⟩ := iu_step hU3 hp3 hc_73
                    have hN9 : fStepN N3 n3 (tb p) = n9x := hU9.n
                    obtain ⟨q9, hq9⟩ : ∃ q9, 17 - p = q9 + 1 := ⟨17 - p - 1, by omega⟩
                    rw [hq9, fTurnI_s hU3.n hp3 hc_73] at hG
                    obtain ⟨nG2, usG2, hUG2, hnG2⟩ := iu_turnI q9 (p + 1) _ n9x us9 hU9
                    rw [hG] at hUG2
                    have hGG : nG2 = nG := by have q1 := hUG.n; have q2 := hUG2.n; omega
                    refine v_callV (pc' := 82) X (st := []) (c_X7_step (M := G3) (N := N3) hp3 hp16 hS3 hU3 hc_73 hq3 hcp hcp2) k_X7_step w_ml_X7_84 w_im_X7_step w_se_X7_X7_step rw_X7 (by rw [hR]; exact ⟨Nat.le_of_ble_eq_true rfl, Nat.le_of_ble_eq_true rfl⟩) rfl rfl (Nat.le_of_ble_eq_true rfl) dX7_turn_79 rfl (by rw [hR, hN9]; exact ⟨by show 13 * (n3 - n) + 13 * (n9x - n3) ≤ 13 * (nF - n) + 1; omega, by show 800 * (n3 - n) + 800 * (n9x - n3) ≤ 800 * (nF - n) + 6; omega⟩) ?_
                    rintro _ _ ⟨rfl, n9, cq9, ad9, G9, rfl, g1, g2, g3, g4⟩
                    have hn9e : n9 = n9x := by have q1 := sm_nn g1; have q2 := hU9.n; omega
                    subst hn9e
                    rw [hN9]
                    have ha0 : ad9 0 = ad3 0 := g4 0 (by decide) (Or.inl (by unfold tb; omega))
                    rw [← ha0]
                    refine v_iinc (pc' := 85) (j := 1) (v := nI (p + 1)) (lv' := [(4, .int (nI (p + 1))), (5, .ref (ad3 (tb p))), (3, .int (nI j)), (2, .int (N.1 0 7)), (1, .int (nI kN)), (0, .ref (ad9 (0)))]) X dX7_turn_82 rfl (nI_add (p) 1) (by decide) rfl rfl ?_
                    refine v_goto (pc' := 34) X dX7_turn_85 (by decide) ?_
                    refine v_sub (lv' := [(4, .int (nI (p + 1))), (3, .int (nI j)), (2, .int (N.1 0 7)), (1, .int (nI kN)), (0, .ref (ad9 (0)))]) [0, 2, 3, 4, 5] rfl ?_
                    have hh := ih2 (p + 1) n9 us9 cq9 ad9 G9 (fStep N3 n3 (tb p)) (by omega) (by omega) g1 hU9 g2 (by omega) (fun x h6 hx => (g4 x h6 (hx.imp (fun y => by unfold tb at y ⊢; omega) id)).trans (hA3 x h6 hx)) (by rw [show 17 - (p + 1) = q9 by omega]; exact hG)
                    rw [show 13 * (n9 - n) = 13 * (n3 - n) + 13 * (n9 - n3) by omega, show 800 * (n9 - n) = 800 * (n3 - n) + 800 * (n9 - n3) by omega] at hh
                    exact hh
            refine v_sub (lv' := [(4, .int 0), (3, .int (nI j)), (2, .int (N.1 0 7)), (1, .int (nI kN)), (0, .ref (ad2 (0)))]) [0, 1, 2, 3, 4] rfl ?_
            exact hin _ 0 n2 us2 cq2 ad2 G2 N2 (Nat.lt_succ_self _) (Nat.zero_le _) hS2 hU2 hqq (Nat.le_refl n2) hA hG0.symm
      refine v_sub (lv' := [(3, .int 0), (2, .int (N.1 0 7)), (1, .int (nI kN)), (0, .ref (ad (0)))]) [0, 1, 3, 2] rfl ?_
      have hh := hloop _ 0 n us cq ad M (mI N 0 0 0) (Nat.lt_succ_self _) (Nat.zero_le _) hS0 hU0 hq (Nat.le_refl n) (fun _ _ _ => rfl) hF1
      rw [Nat.sub_self] at hh
      exact hh
    -- not taken 8
    · have hb2 : k < 1 ∨ 100 < k := Or.inr (Int32.not_le.mp hc_8)
      have hF : fTurn N k = (mI N 0 0 1, 0) := if_pos hb2
      exact x_throw X R hst9 hd (cls := "java/lang/IllegalArgumentException") (ik := 74) (ic := 76) (by decide +kernel) w_cl_X7_74 w_in_java_lang_IllegalArgumentException xw_IA_c xw_IA_g xw_IA_n xw_IA_o dX7_turn_11 dX7_turn_14 dX7_turn_15 dX7_turn_18 (by rw [hR]; exact Nat.le_of_ble_eq_true rfl) (by rw [hR]; exact Nat.le_of_ble_eq_true rfl) (by rw [hR]; exact Nat.le_add_left 1 _) (by rw [hR]; exact Nat.le_add_left 6 _) (Nat.le_add_left 1 _) (Nat.le_add_left 6 _) ⟨rfl, rfl, hF⟩
