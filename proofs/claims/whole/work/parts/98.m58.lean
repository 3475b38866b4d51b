/-! THE LAW: ITS LOOP -/
theorem sw_0_9 (x : Int32) : x = 0 ∨ x = 1 ∨ x = 2 ∨ x = 3 ∨ x = 4 ∨ x = 5 ∨ x = 6 ∨ x = 7 ∨ x = 8 ∨ x = 9 ∨ (x.toInt < 0 ∨ 9 < x.toInt) := by
  by_cases h1 : x.toInt < 0
  · exact Or.inr (Or.inr (Or.inr (Or.inr (Or.inr (Or.inr (Or.inr (Or.inr (Or.inr (Or.inr (Or.inl h1))))))))))
  · by_cases h2 : 9 < x.toInt
    · exact Or.inr (Or.inr (Or.inr (Or.inr (Or.inr (Or.inr (Or.inr (Or.inr (Or.inr (Or.inr (Or.inr h2))))))))))
    · have h3 : x.toInt = 0 ∨ x.toInt = 1 ∨ x.toInt = 2 ∨ x.toInt = 3 ∨ x.toInt = 4 ∨ x.toInt = 5 ∨ x.toInt = 6 ∨ x.toInt = 7 ∨ x.toInt = 8 ∨ x.toInt = 9 := by omega
      rcases h3 with h3 | h3 | h3 | h3 | h3 | h3 | h3 | h3 | h3 | h3
      · have e9 : x = 0 := Int32.toInt_inj.mp (h3.trans (by decide))
        subst e9; decide
      · have e9 : x = 1 := Int32.toInt_inj.mp (h3.trans (by decide))
        subst e9; decide
      · have e9 : x = 2 := Int32.toInt_inj.mp (h3.trans (by decide))
        subst e9; decide
      · have e9 : x = 3 := Int32.toInt_inj.mp (h3.trans (by decide))
        subst e9; decide
      · have e9 : x = 4 := Int32.toInt_inj.mp (h3.trans (by decide))
        subst e9; decide
      · have e9 : x = 5 := Int32.toInt_inj.mp (h3.trans (by decide))
        subst e9; decide
      · have e9 : x = 6 := Int32.toInt_inj.mp (h3.trans (by decide))
        subst e9; decide
      · have e9 : x = 7 := Int32.toInt_inj.mp (h3.trans (by decide))
        subst e9; decide
      · have e9 : x = 8 := Int32.toInt_inj.mp (h3.trans (by decide))
        subst e9; decide
      · have e9 : x = 9 := Int32.toInt_inj.mp (h3.trans (by decide))
        subst e9; decide
abbrev wL (Y : Nat → ClassId) (n s cp cq : Nat) (ad : Nat → Nat) (G : vM) (ad2 : Nat → Nat) (N : vM) (oo : Nat) (f : Nat → Int64) : va_W := (wK Y n s cp cq ad G ++ wM Y n ad2 N) ++ [(oo, oC (Y 1) f)]
section LAWR
variable {K : vKt} {cc : ByteArray} {own : String} {nL n1 n2 pc pc' : Nat} {ws : va_W} {lv : List (Nat × Value)} {st : List Value}
theorem v_rot {a b c : va_W} (kk : V K nL (b ++ (c ++ a)) n1 n2 pc lv st) : V K nL ((a ++ b) ++ c) n1 n2 pc lv st := by
  refine v_eqw (ws' := ([] ++ a) ++ (b ++ c)) (by simp only [List.nil_append, List.append_assoc]) ?_
  refine v_swap ?_
  exact v_eqw (by simp only [List.nil_append, List.append_assoc]) kk
theorem v_rtb {a b c : va_W} (kk : V K nL ((a ++ b) ++ c) n1 n2 pc lv st) : V K nL (b ++ (c ++ a)) n1 n2 pc lv st := by
  refine v_eqw (ws' := ([] ++ (b ++ c)) ++ a) (by simp only [List.nil_append, List.append_assoc]) ?_
  refine v_swap ?_
  exact v_eqw (by simp only [List.nil_append, List.append_assoc]) kk
theorem s_ld (X : vOk K cc own nL) {b L : Nat} {xs : Nat → Int32} (hX : va_X b L xs (kS K) (kS K).heap) (hbl : b < (kS K).heap.size) (hbA : ¬ kA K b) {i : Int32} (j : Nat) (hj : i = nI j) (hjL : j < L) (hL : L < 2 ^ 31) (d : decode cc pc = .ok (.iaload, 1)) (e : pc + 1 = pc') (kk : V K nL ws n1 n2 pc' lv (.int (xs j) :: st)) : V K nL ws n1 n2 pc lv (.int i :: .ref b :: st) := by
  subst e hj
  exact fun H locs ls hP hD hS hl => va_sld X.x X.b hX hbl hbA hS (vp_in_nI hjL hL) d (by rw [nI_clamp (by omega)]; exact kk H locs ls hP hD hS hl)
theorem s_len (X : vOk K cc own nL) {b L : Nat} {xs : Nat → Int32} (hX : va_X b L xs (kS K) (kS K).heap) (hbl : b < (kS K).heap.size) (hbA : ¬ kA K b) (d : decode cc pc = .ok (.arraylength, 1)) (e : pc + 1 = pc') (kk : V K nL ws n1 n2 pc' lv (.int (nI L) :: st)) : V K nL ws n1 n2 pc lv (.ref b :: st) := by
  subst e
  exact fun H locs ls hP hD hS hl => va_slen X.x X.b hX hbl hbA hS d (kk H locs ls hP hD hS hl)
theorem s_out (X : vOk K cc own nL) {o : Nat} {f : Nat → Int64} {x : Int64} (d : decode cc pc = .ok (.laload, 1)) (e : pc + 1 = pc') (kk : V K nL (ws ++ [(o, oC (kY K 1) (vp_updL f 0 x))]) n1 n2 pc' lv (.long x :: st)) : V K nL (ws ++ [(o, oC (kY K 1) (vp_updL f 0 x))]) n1 n2 pc lv (.int 0 :: .ref o :: st) :=
  v_lald (pc' := pc') X ws.length app_r (i := 0) (show vp_in (nI 0) 1 from vp_in_nI (by decide) (by decide)) (v := x) pk_uLs d e kk
end LAWR
theorem sc5 {L j : Nat} (hL : L ≤ 320) (hj : j ≤ 400) (h : ¬ nI L - 5 < nI j) : j + 5 ≤ L := by
  rcases Nat.lt_or_ge L 5 with y9 | y9
  · exfalso
    have hd : ∀ q, q < 5 → nI q - 5 < 0 := by decide +kernel
    exact h (Int32.lt_of_lt_of_le (hd L y9) (Int32.not_lt.mp (nI_pos (by omega))))
  · rw [show nI L - 5 = nI (L - 5) from pk_sub (a := L) (b := 5) y9] at h
    rcases Nat.lt_or_ge (L - 5) j with q9 | q9
    · exact absurd (nI_lt q9 (by omega)) h
    · omega
theorem iu_run {N : vM} {n us : Nat} {k c : Int32} (h : IU N n us) : ∃ n9 us9, IU (fRun N n k c).1 n9 us9 ∧ n ≤ n9 := by
  unfold fRun
  split
  · exact ⟨n, us, iu_cnt h (by decide), Nat.le_refl n⟩
  next hk =>
    split
    · exact ⟨n, us, iu_cnt h (by decide), Nat.le_refl n⟩
    · obtain ⟨q, hq, rfl⟩ := nI_of (x := k) (fun z9 => hk (Or.inl z9))
      have hqn : q < n := by
        rcases Nat.lt_or_ge q n with y9 | y9
        · exact y9
        · exact absurd (Or.inr (nI_le y9 hq)) hk
      show ∃ n9 us9, IU (fRunK (tb (nn (nI q))) _ _).1 n9 us9 ∧ n ≤ n9
      rw [nn_nI hq]
      exact iu_runK _ _ n us (iu_cnt h (by decide)) hqn
theorem iu_turn {N : vM} {n us : Nat} {k : Int32} (h : IU N n us) : ∃ n9 us9, IU (fTurn N k).1 n9 us9 ∧ n ≤ n9 := by
  unfold fTurn
  split
  · exact ⟨n, us, iu_cnt h (by decide), Nat.le_refl n⟩
  · exact iu_turnK _ _ n us (iu_cnt h (by decide))
theorem IU.gg {N : vM} {n us : Nat} (h : IU N n us) : ∃ sz pd, gI N n sz us pd := by
  obtain ⟨sz, pd, hg, -⟩ := h
  exact ⟨sz, pd, hg⟩
set_option maxHeartbeats 4000000 in
set_option maxRecDepth 100000 in
theorem law_loop {K : vKt} (X : vOk K cL_law RL 8) (hd : vND (kS K)) (hst9 : (kL K).stackTraces = false) (hR : kR K = room_1) {b L oo : Nat} {xs : Nat → Int32} (hX : va_X b L xs (kS K) (kS K).heap) (hbl : b < (kS K).heap.size) (hbA : ¬ kA K b) (hL : L ≤ 320) (hret : ∀ (ws : va_W) (n1 n2 : Nat) (lv : List (Nat × Value)), n1 ≤ 600128 → n2 ≤ 7301098 → V K 8 ws n1 n2 666 lv [.int 1]) : ∀ (dd j t n s us cp cq : Nat) (ad : Nat → Nat) (G : vM) (ad2 : Nat → Nat) (N : vM) (f : Nat → Int64), 400 - j < dd → j = 5 * t → j ≤ L ∨ j = 0 → s ≤ t → Sm G N n s → IU N n us → (n ≤ cq ∧ cq ≤ 2 * n + 10) → (s ≤ cp ∧ cp ≤ 2 * s + 10) → (cp = 0 → ad 4 = kZ K 32) → n ≤ 16 → V K 8 (wL (kY K) n s cp cq ad G ad2 N oo f) (24 * n + 10 * t + 200) (1474 * n + 1000 * t + 10000) 23 [(4, .int (nI (j))), (3, .ref oo), (2, .ref (ad2 (0))), (1, .ref (ad (0))), (0, .ref b)] [] := by
  intro dd
  induction dd with
  | zero => intro j t n s us cp cq ad G ad2 N f hlt; exact absurd hlt (Nat.not_lt_zero _)
  | succ dd ih =>
    intro j t n s us cp cq ad G ad2 N f hlt hjt hjL0 hst hS hU hq hcp hz4 hn16
    refine v_iload (pc' := 25) (j := 0) X dL_law_23 rfl rfl ?_
    refine v_aload_n (pc' := 26) (i := 0) (j := 4) X dL_law_25 rfl rfl rfl ?_
    refine s_len (pc' := 27) X hX hbl hbA dL_law_26 rfl ?_
    refine v_iconst (pc' := 28) (v := 5) X dL_law_27 (by decide) rfl ?_
    refine v_isub (pc' := 29) X dL_law_28 rfl ?_
    refine v_icmp_gt (pc' := 32) (tgt := 665) X dL_law_29 (by decide) rfl (fun hc_29 => ?_) (fun hc_29 => ?_)
    -- taken 29
    · refine v_iconst (pc' := 666) (v := 1) X dL_law_665 (by decide) rfl ?_
      exact hret _ _ _ _ (by omega) (by omega)
    -- not taken 29
    · have hjL := sc5 hL (by omega) hc_29
      refine v_aload_n (pc' := 33) (i := 0) (j := 4) X dL_law_32 rfl rfl rfl ?_
      refine v_iload (pc' := 35) (j := 0) X dL_law_33 rfl rfl ?_
      refine s_ld (pc' := 36) X hX hbl hbA (j) rfl (by omega) (by omega) dL_law_35 rfl ?_
      refine v_bipush (pc' := 38) (v := 15) X dL_law_36 (by decide) rfl ?_
      refine v_iand (pc' := 39) X dL_law_38 rfl ?_
      obtain ⟨q, hq9⟩ : ∃ q, q = xs (j) &&& 15 := ⟨_, rfl⟩
      rw [← hq9]
      clear hq9
      rcases sw_0_9 q with rfl | rfl | rfl | rfl | rfl | rfl | rfl | rfl | rfl | rfl | hsw
      · refine v_tableIn (off := 53) (tgt := 92) X dL_law_39 (by decide) (by decide) (by decide) (by decide) ?_
        refine v_aload_n (pc' := 93) (i := 1) (j := 3) X dL_law_92 rfl rfl rfl ?_
        refine v_aload_n (pc' := 94) (i := 0) (j := 4) X dL_law_93 rfl rfl rfl ?_
        refine v_iload (pc' := 96) (j := 0) X dL_law_94 rfl rfl ?_
        refine v_iconst (pc' := 97) (v := 1) X dL_law_96 (by decide) rfl ?_
        refine v_iaddV (pc' := 98) (v := nI (j + 1)) X (nI_add (j) 1) dL_law_97 rfl ?_
        refine s_ld (pc' := 99) X hX hbl hbA (j + 1) rfl (by omega) (by omega) dL_law_98 rfl ?_
        refine v_aload_n (pc' := 100) (i := 0) (j := 4) X dL_law_99 rfl rfl rfl ?_
        refine v_iload (pc' := 102) (j := 0) X dL_law_100 rfl rfl ?_
        refine v_iconst (pc' := 103) (v := 2) X dL_law_102 (by decide) rfl ?_
        refine v_iaddV (pc' := 104) (v := nI (j + 2)) X (nI_add (j) 2) dL_law_103 rfl ?_
        refine s_ld (pc' := 105) X hX hbl hbA (j + 2) rfl (by omega) (by omega) dL_law_104 rfl ?_
        refine v_aload_n (pc' := 106) (i := 0) (j := 4) X dL_law_105 rfl rfl rfl ?_
        refine v_iload (pc' := 108) (j := 0) X dL_law_106 rfl rfl ?_
        refine v_iconst (pc' := 109) (v := 3) X dL_law_108 (by decide) rfl ?_
        refine v_iaddV (pc' := 110) (v := nI (j + 3)) X (nI_add (j) 3) dL_law_109 rfl ?_
        refine s_ld (pc' := 111) X hX hbl hbA (j + 3) rfl (by omega) (by omega) dL_law_110 rfl ?_
        refine v_aload_n (pc' := 112) (i := 0) (j := 4) X dL_law_111 rfl rfl rfl ?_
        refine v_iload (pc' := 114) (j := 0) X dL_law_112 rfl rfl ?_
        refine v_iconst (pc' := 115) (v := 4) X dL_law_114 (by decide) rfl ?_
        refine v_iaddV (pc' := 116) (v := nI (j + 4)) X (nI_add (j) 4) dL_law_115 rfl ?_
        refine s_ld (pc' := 117) X hX hbl hbA (j + 4) rfl (by omega) (by omega) dL_law_116 rfl ?_
        refine v_aload_n (pc' := 118) (i := 3) (j := 1) X dL_law_117 rfl rfl rfl ?_
        refine (v_swap ?_)
        refine v_callHF (pc' := 121) (n := 6) X hd (st := []) (h_put (oo := oo) (f0 := f) hS hU hst9 hcp hz4 (op := xs (j + 1)) (x := xs (j + 2)) (y := xs (j + 3)) (z := xs (j + 4))) w_cw_L_put w_in_L (by decide +kernel) (by decide +kernel) w_ml_L_50 w_st_L_put (by rw [hR]; exact ⟨Nat.le_of_ble_eq_true rfl, Nat.le_of_ble_eq_true rfl⟩) rfl rfl (Nat.le_of_ble_eq_true rfl) dL_law_118 rfl (by rw [hR]; show 24 * n + 10 * t + 200 + 2 ≤ 600128 ∧ 1474 * n + 1000 * t + 10000 + (10 + ncap cp) ≤ 7301098; have hnc := ncap_le cp; omega) ?_
        rintro _ _ (⟨hz0, rfl, w1, hw1, rfl⟩ | ⟨rfl, hF, rfl⟩)
          -- put ok
        · obtain ⟨cp9, ad9, rfl, hS2, hc9, had9⟩ := hw1
          have hs9 : s < 1000 := by omega
          have hU2 : IU (fPut N (xs (j + 1)) (xs (j + 2)) (xs (j + 3)) (xs (j + 4))).1 n us := iu_put hU hS.2.2.2.2.1.2.1 hs9
          have hT0 : (fPut N (xs (j + 1)) (xs (j + 2)) (xs (j + 3)) (xs (j + 4))).1.1 0 0 = 0 := put_00 hS.2.2.2.2.1.2.1 hs9
          have ha0 : ad9 0 = ad 0 := had9 0 (by decide) (by unfold ib; omega)
          refine (v_swap ?_)
          refine v_widen (m1 := 24 * n + 10 * t + 202) (m2 := 1474 * n + 1000 * t + 10800) (by have hnc := ncap_le cp; omega) (by have hnc := ncap_le cp; omega) ?_
          show V K 8 _ (24 * n + 10 * t + 202) (1474 * n + 1000 * t + 10800) 121 [(4, .int (nI j)), (3, .ref oo), (2, .ref (ad2 (0))), (1, .ref (ad (0))), (0, .ref b)] [.int 0]
          rw [← ha0]
          refine v_istore (pc' := 123) (lv' := [(5, .int 0), (4, .int (nI j)), (3, .ref oo), (2, .ref (ad2 (0))), (1, .ref (ad9 (0))), (0, .ref b)]) X dL_law_121 (by decide) rfl rfl ?_
          refine v_aload_n (pc' := 124) (i := 2) (j := 3) X dL_law_123 rfl rfl rfl ?_
          refine v_aload_n (pc' := 125) (i := 0) (j := 5) X dL_law_124 rfl rfl rfl ?_
          refine v_iload (pc' := 127) (j := 1) X dL_law_125 rfl rfl ?_
          refine v_iconst (pc' := 128) (v := 1) X dL_law_127 (by decide) rfl ?_
          refine v_iaddV (pc' := 129) (v := nI (j + 1)) X (nI_add (j) 1) dL_law_128 rfl ?_
          refine s_ld (pc' := 130) X hX hbl hbA (j + 1) rfl (by omega) (by omega) dL_law_129 rfl ?_
          refine v_aload_n (pc' := 131) (i := 0) (j := 5) X dL_law_130 rfl rfl rfl ?_
          refine v_iload (pc' := 133) (j := 1) X dL_law_131 rfl rfl ?_
          refine v_iconst (pc' := 134) (v := 2) X dL_law_133 (by decide) rfl ?_
          refine v_iaddV (pc' := 135) (v := nI (j + 2)) X (nI_add (j) 2) dL_law_134 rfl ?_
          refine s_ld (pc' := 136) X hX hbl hbA (j + 2) rfl (by omega) (by omega) dL_law_135 rfl ?_
          refine v_aload_n (pc' := 137) (i := 0) (j := 5) X dL_law_136 rfl rfl rfl ?_
          refine v_iload (pc' := 139) (j := 1) X dL_law_137 rfl rfl ?_
          refine v_iconst (pc' := 140) (v := 3) X dL_law_139 (by decide) rfl ?_
          refine v_iaddV (pc' := 141) (v := nI (j + 3)) X (nI_add (j) 3) dL_law_140 rfl ?_
          refine s_ld (pc' := 142) X hX hbl hbA (j + 3) rfl (by omega) (by omega) dL_law_141 rfl ?_
          refine v_aload_n (pc' := 143) (i := 0) (j := 5) X dL_law_142 rfl rfl rfl ?_
          refine v_iload (pc' := 145) (j := 1) X dL_law_143 rfl rfl ?_
          refine v_iconst (pc' := 146) (v := 4) X dL_law_145 (by decide) rfl ?_
          refine v_iaddV (pc' := 147) (v := nI (j + 4)) X (nI_add (j) 4) dL_law_146 rfl ?_
          refine s_ld (pc' := 148) X hX hbl hbA (j + 4) rfl (by omega) (by omega) dL_law_147 rfl ?_
          obtain ⟨sz9, pd9, hg9, hts9⟩ := id hU
          refine (v_rot ?_)
          refine v_callVF (pc' := 151) X (st := []) (c_X9_put (ad := ad2) (M := N) hg9 (op := xs (j + 1)) (x := xs (j + 2)) (y := xs (j + 3)) (z := xs (j + 4))) k_X9_put w_ml_L_55 w_im_X9_put w_se_X9_X9_put (rv_M) (by rw [hR]; exact ⟨Nat.le_of_ble_eq_true rfl, Nat.le_of_ble_eq_true rfl⟩) rfl rfl (Nat.le_of_ble_eq_true rfl) dL_law_148 rfl (by rw [hR]; show 24 * n + 10 * t + 202 + 0 ≤ 600128 ∧ 1474 * n + 1000 * t + 10800 + 0 ≤ 7301098; omega) ?_
          rintro _ _ ⟨rfl, rfl⟩
          refine (v_rtb ?_)
          refine v_istore (pc' := 153) (lv' := [(6, .int ((fPut N (xs (j + 1)) (xs (j + 2)) (xs (j + 3)) (xs (j + 4))).2)), (5, .int 0), (4, .int (nI j)), (3, .ref oo), (2, .ref (ad2 (0))), (1, .ref (ad9 (0))), (0, .ref b)]) X dL_law_151 (by decide) rfl rfl ?_
          refine v_aload_n (pc' := 154) (i := 2) (j := 4) X dL_law_153 rfl rfl rfl ?_
          refine (v_rot ?_)
          refine v_callVF (pc' := 157) X (st := []) (c_X9_thrown (ad := ad2) (M := (fPut N (xs (j + 1)) (xs (j + 2)) (xs (j + 3)) (xs (j + 4))).1)) k_X9_thrown w_ml_L_56 w_im_X9_thrown w_se_X9_X9_thrown (rv_M) (by rw [hR]; exact ⟨Nat.le_of_ble_eq_true rfl, Nat.le_of_ble_eq_true rfl⟩) rfl rfl (Nat.le_of_ble_eq_true rfl) dL_law_154 rfl (by rw [hR]; show 24 * n + 10 * t + 202 + 0 ≤ 600128 ∧ 1474 * n + 1000 * t + 10800 + 0 ≤ 7301098; omega) ?_
          rintro _ _ ⟨rfl, rfl⟩
          refine (v_rtb ?_)
          rw [hT0]
          refine v_iload (pc' := 159) (j := 1) X dL_law_157 rfl rfl ?_
          refine v_icmp_eq (pc' := 162) (tgt := 164) X dL_law_159 (by decide) rfl (fun _ => ?_) (fun hc_159 => absurd (by decide) hc_159)
          refine v_iload (pc' := 166) (j := 1) X dL_law_164 rfl rfl ?_
          refine v_if_ne (pc' := 169) (tgt := 181) X dL_law_166 (by decide) rfl (fun hc_166 => absurd (by decide) hc_166) (fun _ => ?_)
          refine v_aload_n (pc' := 170) (i := 3) (j := 3) X dL_law_169 rfl rfl rfl ?_
          refine v_iconst (pc' := 171) (v := 0) X dL_law_170 (by decide) rfl ?_
          refine s_out (pc' := 172) X dL_law_171 rfl ?_
          refine v_iload (pc' := 174) (j := 0) X dL_law_172 rfl rfl ?_
          refine v_i2l (pc' := 175) X dL_law_174 rfl rfl ?_
          refine v_lcmp (pc' := 176) X dL_law_175 rfl ?_
          refine v_lif_eq (pc' := 179) (tgt := 181) X dL_law_176 (by decide) rfl (fun _ => ?_) (fun hc_176 => absurd rfl hc_176)
          refine v_goto (pc' := 659) X dL_law_181 (by decide) ?_
          refine v_iinc (pc' := 662) (j := 2) (v := nI (j + 5)) (lv' := [(4, .int (nI (j + 5))), (6, .int ((fPut N (xs (j + 1)) (xs (j + 2)) (xs (j + 3)) (xs (j + 4))).2)), (5, .int 0), (3, .ref oo), (2, .ref (ad2 (0))), (1, .ref (ad9 (0))), (0, .ref b)]) X dL_law_659 rfl (nI_add (j) 5) (by decide) rfl rfl ?_
          refine v_goto (pc' := 23) X dL_law_662 (by decide) ?_
          refine v_sub (lv' := [(4, .int (nI (j + 5))), (3, .ref oo), (2, .ref (ad2 (0))), (1, .ref (ad9 (0))), (0, .ref b)]) [0, 3, 4, 5, 6] rfl ?_
          refine v_widen (m1 := 24 * n + 10 * (t + 1) + 200) (m2 := 1474 * n + 1000 * (t + 1) + 10000) (by omega) (by omega) ?_
          exact ih (j + 5) (t + 1) _ _ _ _ _ _ _ _ _ _ (by omega) (by omega) (by omega) (by omega) hS2 hU2 hq hc9 (fun z9 => absurd z9 (by omega)) (by omega)
          -- put 1
        · have hS2 : Sm G (fPut N (xs (j + 1)) (xs (j + 2)) (xs (j + 3)) (xs (j + 4))).1 n s := by rw [hF]; exact z_thr hS
          have hU2 : IU (fPut N (xs (j + 1)) (xs (j + 2)) (xs (j + 3)) (xs (j + 4))).1 n us := by rw [hF]; exact iu_cnt hU (by decide)
          have hT0 : (fPut N (xs (j + 1)) (xs (j + 2)) (xs (j + 3)) (xs (j + 4))).1.1 0 0 = 1 := by rw [hF]; exact mI_s _ _ _ _
          refine (v_swap ?_)
          refine v_widen (m1 := 24 * n + 10 * t + 202) (m2 := 1474 * n + 1000 * t + 10800) (by have hnc := ncap_le cp; omega) (by have hnc := ncap_le cp; omega) ?_
          refine v_istore (pc' := 123) (lv' := [(5, .int 1), (4, .int (nI j)), (3, .ref oo), (2, .ref (ad2 (0))), (1, .ref (ad (0))), (0, .ref b)]) X dL_law_121 (by decide) rfl rfl ?_
          refine v_aload_n (pc' := 124) (i := 2) (j := 3) X dL_law_123 rfl rfl rfl ?_
          refine v_aload_n (pc' := 125) (i := 0) (j := 5) X dL_law_124 rfl rfl rfl ?_
          refine v_iload (pc' := 127) (j := 1) X dL_law_125 rfl rfl ?_
          refine v_iconst (pc' := 128) (v := 1) X dL_law_127 (by decide) rfl ?_
          refine v_iaddV (pc' := 129) (v := nI (j + 1)) X (nI_add (j) 1) dL_law_128 rfl ?_
          refine s_ld (pc' := 130) X hX hbl hbA (j + 1) rfl (by omega) (by omega) dL_law_129 rfl ?_
          refine v_aload_n (pc' := 131) (i := 0) (j := 5) X dL_law_130 rfl rfl rfl ?_
          refine v_iload (pc' := 133) (j := 1) X dL_law_131 rfl rfl ?_
          refine v_iconst (pc' := 134) (v := 2) X dL_law_133 (by decide) rfl ?_
          refine v_iaddV (pc' := 135) (v := nI (j + 2)) X (nI_add (j) 2) dL_law_134 rfl ?_
          refine s_ld (pc' := 136) X hX hbl hbA (j + 2) rfl (by omega) (by omega) dL_law_135 rfl ?_
          refine v_aload_n (pc' := 137) (i := 0) (j := 5) X dL_law_136 rfl rfl rfl ?_
          refine v_iload (pc' := 139) (j := 1) X dL_law_137 rfl rfl ?_
          refine v_iconst (pc' := 140) (v := 3) X dL_law_139 (by decide) rfl ?_
          refine v_iaddV (pc' := 141) (v := nI (j + 3)) X (nI_add (j) 3) dL_law_140 rfl ?_
          refine s_ld (pc' := 142) X hX hbl hbA (j + 3) rfl (by omega) (by omega) dL_law_141 rfl ?_
          refine v_aload_n (pc' := 143) (i := 0) (j := 5) X dL_law_142 rfl rfl rfl ?_
          refine v_iload (pc' := 145) (j := 1) X dL_law_143 rfl rfl ?_
          refine v_iconst (pc' := 146) (v := 4) X dL_law_145 (by decide) rfl ?_
          refine v_iaddV (pc' := 147) (v := nI (j + 4)) X (nI_add (j) 4) dL_law_146 rfl ?_
          refine s_ld (pc' := 148) X hX hbl hbA (j + 4) rfl (by omega) (by omega) dL_law_147 rfl ?_
          obtain ⟨sz9, pd9, hg9, hts9⟩ := id hU
          refine (v_rot ?_)
          refine v_callVF (pc' := 151) X (st := []) (c_X9_put (ad := ad2) (M := N) hg9 (op := xs (j + 1)) (x := xs (j + 2)) (y := xs (j + 3)) (z := xs (j + 4))) k_X9_put w_ml_L_55 w_im_X9_put w_se_X9_X9_put (rv_M) (by rw [hR]; exact ⟨Nat.le_of_ble_eq_true rfl, Nat.le_of_ble_eq_true rfl⟩) rfl rfl (Nat.le_of_ble_eq_true rfl) dL_law_148 rfl (by rw [hR]; show 24 * n + 10 * t + 202 + 0 ≤ 600128 ∧ 1474 * n + 1000 * t + 10800 + 0 ≤ 7301098; omega) ?_
          rintro _ _ ⟨rfl, rfl⟩
          refine (v_rtb ?_)
          refine v_istore (pc' := 153) (lv' := [(6, .int ((fPut N (xs (j + 1)) (xs (j + 2)) (xs (j + 3)) (xs (j + 4))).2)), (5, .int 1), (4, .int (nI j)), (3, .ref oo), (2, .ref (ad2 (0))), (1, .ref (ad (0))), (0, .ref b)]) X dL_law_151 (by decide) rfl rfl ?_
          refine v_aload_n (pc' := 154) (i := 2) (j := 4) X dL_law_153 rfl rfl rfl ?_
          refine (v_rot ?_)
          refine v_callVF (pc' := 157) X (st := []) (c_X9_thrown (ad := ad2) (M := (fPut N (xs (j + 1)) (xs (j + 2)) (xs (j + 3)) (xs (j + 4))).1)) k_X9_thrown w_ml_L_56 w_im_X9_thrown w_se_X9_X9_thrown (rv_M) (by rw [hR]; exact ⟨Nat.le_of_ble_eq_true rfl, Nat.le_of_ble_eq_true rfl⟩) rfl rfl (Nat.le_of_ble_eq_true rfl) dL_law_154 rfl (by rw [hR]; show 24 * n + 10 * t + 202 + 0 ≤ 600128 ∧ 1474 * n + 1000 * t + 10800 + 0 ≤ 7301098; omega) ?_
          rintro _ _ ⟨rfl, rfl⟩
          refine (v_rtb ?_)
          rw [hT0]
          refine v_iload (pc' := 159) (j := 1) X dL_law_157 rfl rfl ?_
          refine v_icmp_eq (pc' := 162) (tgt := 164) X dL_law_159 (by decide) rfl (fun _ => ?_) (fun hc_159 => absurd (by decide) hc_159)
          refine v_iload (pc' := 166) (j := 1) X dL_law_164 rfl rfl ?_
          refine v_if_ne (pc' := 169) (tgt := 181) X dL_law_166 (by decide) rfl (fun _ => ?_) (fun hc_166 => absurd hc_166 (by decide))
          refine v_goto (pc' := 659) X dL_law_181 (by decide) ?_
          refine v_iinc (pc' := 662) (j := 2) (v := nI (j + 5)) (lv' := [(4, .int (nI (j + 5))), (6, .int ((fPut N (xs (j + 1)) (xs (j + 2)) (xs (j + 3)) (xs (j + 4))).2)), (5, .int 1), (3, .ref oo), (2, .ref (ad2 (0))), (1, .ref (ad (0))), (0, .ref b)]) X dL_law_659 rfl (nI_add (j) 5) (by decide) rfl rfl ?_
          refine v_goto (pc' := 23) X dL_law_662 (by decide) ?_
          refine v_sub (lv' := [(4, .int (nI (j + 5))), (3, .ref oo), (2, .ref (ad2 (0))), (1, .ref (ad (0))), (0, .ref b)]) [0, 3, 4, 5, 6] rfl ?_
          refine v_widen (m1 := 24 * n + 10 * (t + 1) + 200) (m2 := 1474 * n + 1000 * (t + 1) + 10000) (by omega) (by omega) ?_
          exact ih (j + 5) (t + 1) _ _ _ _ _ _ _ _ _ _ (by omega) (by omega) (by omega) (by omega) hS2 hU2 hq hcp hz4 (by omega)
      · refine v_tableIn (off := 145) (tgt := 184) X dL_law_39 (by decide) (by decide) (by decide) (by decide) ?_
        refine v_aload_n (pc' := 185) (i := 1) (j := 3) X dL_law_184 rfl rfl rfl ?_
        refine v_aload_n (pc' := 186) (i := 0) (j := 4) X dL_law_185 rfl rfl rfl ?_
        refine v_iload (pc' := 188) (j := 0) X dL_law_186 rfl rfl ?_
        refine v_iconst (pc' := 189) (v := 1) X dL_law_188 (by decide) rfl ?_
        refine v_iaddV (pc' := 190) (v := nI (j + 1)) X (nI_add (j) 1) dL_law_189 rfl ?_
        refine s_ld (pc' := 191) X hX hbl hbA (j + 1) rfl (by omega) (by omega) dL_law_190 rfl ?_
        refine v_aload_n (pc' := 192) (i := 0) (j := 4) X dL_law_191 rfl rfl rfl ?_
        refine v_iload (pc' := 194) (j := 0) X dL_law_192 rfl rfl ?_
        refine v_iconst (pc' := 195) (v := 2) X dL_law_194 (by decide) rfl ?_
        refine v_iaddV (pc' := 196) (v := nI (j + 2)) X (nI_add (j) 2) dL_law_195 rfl ?_
        refine s_ld (pc' := 197) X hX hbl hbA (j + 2) rfl (by omega) (by omega) dL_law_196 rfl ?_
        refine v_aload_n (pc' := 198) (i := 3) (j := 1) X dL_law_197 rfl rfl rfl ?_
        obtain ⟨nF, usF, hUF, hnF⟩ := iu_run (N := N) (n := n) (k := xs (j + 1)) (c := xs (j + 2)) hU
        have hNF := hUF.n
        have hF16 := hUF.n16
        refine (v_swap ?_)
        refine v_callHF (pc' := 201) (n := 4) X hd (st := []) (h_run (oo := oo) (f0 := f) hS hU hst9 hq hcp.1 (by omega) (k := xs (j + 1)) (c := xs (j + 2))) w_cw_L_run w_in_L (by decide +kernel) (by decide +kernel) w_ml_L_60 w_st_L_run (by rw [hR]; exact ⟨Nat.le_of_ble_eq_true rfl, Nat.le_of_ble_eq_true rfl⟩) rfl rfl (Nat.le_of_ble_eq_true rfl) dL_law_198 rfl (by rw [hR]; show 24 * n + 10 * t + 200 + (13 * (nn ((fRun N n (xs (j + 1)) (xs (j + 2))).1.1 0 2) - n) + 1) ≤ 600128 ∧ 1474 * n + 1000 * t + 10000 + (800 * (nn ((fRun N n (xs (j + 1)) (xs (j + 2))).1.1 0 2) - n) + 6) ≤ 7301098; rw [hNF]; omega) ?_
        rintro _ _ (⟨hz0, rfl, w1, hw1, rfl⟩ | ⟨rfl, hF, rfl⟩ | ⟨rfl, hF, rfl⟩)
          -- run ok
        · obtain ⟨n9, cq9, ad9, G9, rfl, hS2, hq9, hn9, had9⟩ := hw1
          have hn9F : n9 = nF := by have q1 := sm_nn hS2; have q2 := hUF.n; omega
          subst hn9F
          have hU2 := hUF
          have hT0 : (fRun N n (xs (j + 1)) (xs (j + 2))).1.1 0 0 = 0 := run_00 hz0.1 hz0.2
          have ha0 : ad9 0 = ad 0 := had9 0 (by decide) (Or.inl (by unfold tb; omega))
          have hz5 : cp = 0 → ad9 4 = kZ K 32 := fun z9 => (had9 4 (by decide) (Or.inl (by unfold tb; omega))).trans (hz4 z9)
          refine (v_swap ?_)
          refine v_widen (m1 := 24 * n + 13 * (n9 - n) + 10 * t + 201) (m2 := 1474 * n + 800 * (n9 - n) + 1000 * t + 10006) (by rw [hNF]; omega) (by rw [hNF]; omega) ?_
          show V K 8 _ (24 * n + 13 * (n9 - n) + 10 * t + 201) (1474 * n + 800 * (n9 - n) + 1000 * t + 10006) 201 [(4, .int (nI j)), (3, .ref oo), (2, .ref (ad2 (0))), (1, .ref (ad (0))), (0, .ref b)] [.int 0]
          rw [← ha0]
          refine v_istore (pc' := 203) (lv' := [(5, .int 0), (4, .int (nI j)), (3, .ref oo), (2, .ref (ad2 (0))), (1, .ref (ad9 (0))), (0, .ref b)]) X dL_law_201 (by decide) rfl rfl ?_
          refine v_aload_n (pc' := 204) (i := 2) (j := 3) X dL_law_203 rfl rfl rfl ?_
          refine v_aload_n (pc' := 205) (i := 0) (j := 5) X dL_law_204 rfl rfl rfl ?_
          refine v_iload (pc' := 207) (j := 1) X dL_law_205 rfl rfl ?_
          refine v_iconst (pc' := 208) (v := 1) X dL_law_207 (by decide) rfl ?_
          refine v_iaddV (pc' := 209) (v := nI (j + 1)) X (nI_add (j) 1) dL_law_208 rfl ?_
          refine s_ld (pc' := 210) X hX hbl hbA (j + 1) rfl (by omega) (by omega) dL_law_209 rfl ?_
          refine v_aload_n (pc' := 211) (i := 0) (j := 5) X dL_law_210 rfl rfl rfl ?_
          refine v_iload (pc' := 213) (j := 1) X dL_law_211 rfl rfl ?_
          refine v_iconst (pc' := 214) (v := 2) X dL_law_213 (by decide) rfl ?_
          refine v_iaddV (pc' := 215) (v := nI (j + 2)) X (nI_add (j) 2) dL_law_214 rfl ?_
          refine s_ld (pc' := 216) X hX hbl hbA (j + 2) rfl (by omega) (by omega) dL_law_215 rfl ?_
          refine (v_rot ?_)
          refine v_callVF (pc' := 219) X (st := []) (c_X9_run (ad := ad2) (M := N) hU (k := xs (j + 1)) (c := xs (j + 2))) k_X9_run w_ml_L_63 w_im_X9_run w_se_X9_X9_run (rv_M) (by rw [hR]; exact ⟨Nat.le_of_ble_eq_true rfl, Nat.le_of_ble_eq_true rfl⟩) rfl rfl (Nat.le_of_ble_eq_true rfl) dL_law_216 rfl (by rw [hR]; show 24 * n + 13 * (n9 - n) + 10 * t + 201 + (11 * (nn ((fRun N n (xs (j + 1)) (xs (j + 2))).1.1 0 2) - n)) ≤ 600128 ∧ 1474 * n + 800 * (n9 - n) + 1000 * t + 10006 + (674 * (nn ((fRun N n (xs (j + 1)) (xs (j + 2))).1.1 0 2) - n)) ≤ 7301098; rw [hNF]; omega) ?_
          rintro _ _ ⟨rfl, ad8, rfl, had8⟩
          have ha8 : ad8 0 = ad2 0 := had8 0 (by unfold tb; omega)
          rw [hNF]
          refine (v_rtb ?_)
          refine v_widen (m1 := 24 * n9 + 10 * t + 201) (m2 := 1474 * n9 + 1000 * t + 10006) (by omega) (by omega) ?_
          show V K 8 _ (24 * n9 + 10 * t + 201) (1474 * n9 + 1000 * t + 10006) 219 [(5, .int 0), (4, .int (nI j)), (3, .ref oo), (2, .ref (ad2 (0))), (1, .ref (ad9 (0))), (0, .ref b)] [.int ((fRun N n (xs (j + 1)) (xs (j + 2))).2)]
          rw [← ha8]
          refine v_istore (pc' := 221) (lv' := [(6, .int ((fRun N n (xs (j + 1)) (xs (j + 2))).2)), (5, .int 0), (4, .int (nI j)), (3, .ref oo), (2, .ref (ad8 (0))), (1, .ref (ad9 (0))), (0, .ref b)]) X dL_law_219 (by decide) rfl rfl ?_
          refine v_aload_n (pc' := 222) (i := 2) (j := 4) X dL_law_221 rfl rfl rfl ?_
          refine (v_rot ?_)
          refine v_callVF (pc' := 225) X (st := []) (c_X9_thrown (ad := ad8) (M := (fRun N n (xs (j + 1)) (xs (j + 2))).1)) k_X9_thrown w_ml_L_56 w_im_X9_thrown w_se_X9_X9_thrown (rv_M) (by rw [hR]; exact ⟨Nat.le_of_ble_eq_true rfl, Nat.le_of_ble_eq_true rfl⟩) rfl rfl (Nat.le_of_ble_eq_true rfl) dL_law_222 rfl (by rw [hR]; show 24 * n9 + 10 * t + 201 + 0 ≤ 600128 ∧ 1474 * n9 + 1000 * t + 10006 + 0 ≤ 7301098; omega) ?_
          rintro _ _ ⟨rfl, rfl⟩
          refine (v_rtb ?_)
          rw [hT0]
          refine v_iload (pc' := 227) (j := 1) X dL_law_225 rfl rfl ?_
          refine v_icmp_eq (pc' := 230) (tgt := 232) X dL_law_227 (by decide) rfl (fun _ => ?_) (fun hc_227 => absurd (by decide) hc_227)
          refine v_iload (pc' := 234) (j := 1) X dL_law_232 rfl rfl ?_
          refine v_if_ne (pc' := 237) (tgt := 249) X dL_law_234 (by decide) rfl (fun hc_234 => absurd (by decide) hc_234) (fun _ => ?_)
          refine v_aload_n (pc' := 238) (i := 3) (j := 3) X dL_law_237 rfl rfl rfl ?_
          refine v_iconst (pc' := 239) (v := 0) X dL_law_238 (by decide) rfl ?_
          refine s_out (pc' := 240) X dL_law_239 rfl ?_
          refine v_iload (pc' := 242) (j := 0) X dL_law_240 rfl rfl ?_
          refine v_i2l (pc' := 243) X dL_law_242 rfl rfl ?_
          refine v_lcmp (pc' := 244) X dL_law_243 rfl ?_
          refine v_lif_eq (pc' := 247) (tgt := 249) X dL_law_244 (by decide) rfl (fun _ => ?_) (fun hc_244 => absurd rfl hc_244)
          refine v_goto (pc' := 659) X dL_law_249 (by decide) ?_
          refine v_iinc (pc' := 662) (j := 2) (v := nI (j + 5)) (lv' := [(4, .int (nI (j + 5))), (6, .int ((fRun N n (xs (j + 1)) (xs (j + 2))).2)), (5, .int 0), (3, .ref oo), (2, .ref (ad8 (0))), (1, .ref (ad9 (0))), (0, .ref b)]) X dL_law_659 rfl (nI_add (j) 5) (by decide) rfl rfl ?_
          refine v_goto (pc' := 23) X dL_law_662 (by decide) ?_
          refine v_sub (lv' := [(4, .int (nI (j + 5))), (3, .ref oo), (2, .ref (ad8 (0))), (1, .ref (ad9 (0))), (0, .ref b)]) [0, 3, 4, 5, 6] rfl ?_
          refine v_widen (m1 := 24 * n9 + 10 * (t + 1) + 200) (m2 := 1474 * n9 + 1000 * (t + 1) + 10000) (by omega) (by omega) ?_
          exact ih (j + 5) (t + 1) _ _ _ _ _ _ _ _ _ _ (by omega) (by omega) (by omega) (by omega) hS2 hU2 hq9 hcp hz5 (by omega)
          -- run 1
        · have hS2 : Sm G (fRun N n (xs (j + 1)) (xs (j + 2))).1 n s := by rw [hF]; exact z_thr hS
          have hU2 : IU (fRun N n (xs (j + 1)) (xs (j + 2))).1 n us := by rw [hF]; exact iu_cnt hU (by decide)
          have hT0 : (fRun N n (xs (j + 1)) (xs (j + 2))).1.1 0 0 = 1 := by rw [hF]; exact mI_s _ _ _ _
          have hnn : nF = n := by have q1 := hUF.n; have q2 := hU2.n; omega
          refine (v_swap ?_)
          refine v_widen (m1 := 24 * n + 10 * t + 201) (m2 := 1474 * n + 1000 * t + 10006) (by rw [hNF]; omega) (by rw [hNF]; omega) ?_
          refine v_istore (pc' := 203) (lv' := [(5, .int 1), (4, .int (nI j)), (3, .ref oo), (2, .ref (ad2 (0))), (1, .ref (ad (0))), (0, .ref b)]) X dL_law_201 (by decide) rfl rfl ?_
          refine v_aload_n (pc' := 204) (i := 2) (j := 3) X dL_law_203 rfl rfl rfl ?_
          refine v_aload_n (pc' := 205) (i := 0) (j := 5) X dL_law_204 rfl rfl rfl ?_
          refine v_iload (pc' := 207) (j := 1) X dL_law_205 rfl rfl ?_
          refine v_iconst (pc' := 208) (v := 1) X dL_law_207 (by decide) rfl ?_
          refine v_iaddV (pc' := 209) (v := nI (j + 1)) X (nI_add (j) 1) dL_law_208 rfl ?_
          refine s_ld (pc' := 210) X hX hbl hbA (j + 1) rfl (by omega) (by omega) dL_law_209 rfl ?_
          refine v_aload_n (pc' := 211) (i := 0) (j := 5) X dL_law_210 rfl rfl rfl ?_
          refine v_iload (pc' := 213) (j := 1) X dL_law_211 rfl rfl ?_
          refine v_iconst (pc' := 214) (v := 2) X dL_law_213 (by decide) rfl ?_
          refine v_iaddV (pc' := 215) (v := nI (j + 2)) X (nI_add (j) 2) dL_law_214 rfl ?_
          refine s_ld (pc' := 216) X hX hbl hbA (j + 2) rfl (by omega) (by omega) dL_law_215 rfl ?_
          refine (v_rot ?_)
          refine v_callVF (pc' := 219) X (st := []) (c_X9_run (ad := ad2) (M := N) hU (k := xs (j + 1)) (c := xs (j + 2))) k_X9_run w_ml_L_63 w_im_X9_run w_se_X9_X9_run (rv_M) (by rw [hR]; exact ⟨Nat.le_of_ble_eq_true rfl, Nat.le_of_ble_eq_true rfl⟩) rfl rfl (Nat.le_of_ble_eq_true rfl) dL_law_216 rfl (by rw [hR]; show 24 * n + 10 * t + 201 + (11 * (nn ((fRun N n (xs (j + 1)) (xs (j + 2))).1.1 0 2) - n)) ≤ 600128 ∧ 1474 * n + 1000 * t + 10006 + (674 * (nn ((fRun N n (xs (j + 1)) (xs (j + 2))).1.1 0 2) - n)) ≤ 7301098; rw [hNF]; omega) ?_
          rintro _ _ ⟨rfl, ad8, rfl, had8⟩
          have ha8 : ad8 0 = ad2 0 := had8 0 (by unfold tb; omega)
          rw [hNF]
          rw [hnn]
          refine (v_rtb ?_)
          refine v_widen (m1 := 24 * n + 10 * t + 201) (m2 := 1474 * n + 1000 * t + 10006) (by omega) (by omega) ?_
          show V K 8 _ (24 * n + 10 * t + 201) (1474 * n + 1000 * t + 10006) 219 [(5, .int 1), (4, .int (nI j)), (3, .ref oo), (2, .ref (ad2 (0))), (1, .ref (ad (0))), (0, .ref b)] [.int ((fRun N n (xs (j + 1)) (xs (j + 2))).2)]
          rw [← ha8]
          refine v_istore (pc' := 221) (lv' := [(6, .int ((fRun N n (xs (j + 1)) (xs (j + 2))).2)), (5, .int 1), (4, .int (nI j)), (3, .ref oo), (2, .ref (ad8 (0))), (1, .ref (ad (0))), (0, .ref b)]) X dL_law_219 (by decide) rfl rfl ?_
          refine v_aload_n (pc' := 222) (i := 2) (j := 4) X dL_law_221 rfl rfl rfl ?_
          refine (v_rot ?_)
          refine v_callVF (pc' := 225) X (st := []) (c_X9_thrown (ad := ad8) (M := (fRun N n (xs (j + 1)) (xs (j + 2))).1)) k_X9_thrown w_ml_L_56 w_im_X9_thrown w_se_X9_X9_thrown (rv_M) (by rw [hR]; exact ⟨Nat.le_of_ble_eq_true rfl, Nat.le_of_ble_eq_true rfl⟩) rfl rfl (Nat.le_of_ble_eq_true rfl) dL_law_222 rfl (by rw [hR]; show 24 * n + 10 * t + 201 + 0 ≤ 600128 ∧ 1474 * n + 1000 * t + 10006 + 0 ≤ 7301098; omega) ?_
          rintro _ _ ⟨rfl, rfl⟩
          refine (v_rtb ?_)
          rw [hT0]
          refine v_iload (pc' := 227) (j := 1) X dL_law_225 rfl rfl ?_
          refine v_icmp_eq (pc' := 230) (tgt := 232) X dL_law_227 (by decide) rfl (fun _ => ?_) (fun hc_227 => absurd (by decide) hc_227)
          refine v_iload (pc' := 234) (j := 1) X dL_law_232 rfl rfl ?_
          refine v_if_ne (pc' := 237) (tgt := 249) X dL_law_234 (by decide) rfl (fun _ => ?_) (fun hc_234 => absurd hc_234 (by decide))
          refine v_goto (pc' := 659) X dL_law_249 (by decide) ?_
          refine v_iinc (pc' := 662) (j := 2) (v := nI (j + 5)) (lv' := [(4, .int (nI (j + 5))), (6, .int ((fRun N n (xs (j + 1)) (xs (j + 2))).2)), (5, .int 1), (3, .ref oo), (2, .ref (ad8 (0))), (1, .ref (ad (0))), (0, .ref b)]) X dL_law_659 rfl (nI_add (j) 5) (by decide) rfl rfl ?_
          refine v_goto (pc' := 23) X dL_law_662 (by decide) ?_
          refine v_sub (lv' := [(4, .int (nI (j + 5))), (3, .ref oo), (2, .ref (ad8 (0))), (1, .ref (ad (0))), (0, .ref b)]) [0, 3, 4, 5, 6] rfl ?_
          refine v_widen (m1 := 24 * n + 10 * (t + 1) + 200) (m2 := 1474 * n + 1000 * (t + 1) + 10000) (by omega) (by omega) ?_
          exact ih (j + 5) (t + 1) _ _ _ _ _ _ _ _ _ _ (by omega) (by omega) (by omega) (by omega) hS2 hU2 hq hcp hz4 (by omega)
          -- run 2
        · have hS2 : Sm G (fRun N n (xs (j + 1)) (xs (j + 2))).1 n s := by rw [hF]; exact z_thr hS
          have hU2 : IU (fRun N n (xs (j + 1)) (xs (j + 2))).1 n us := by rw [hF]; exact iu_cnt hU (by decide)
          have hT0 : (fRun N n (xs (j + 1)) (xs (j + 2))).1.1 0 0 = 2 := by rw [hF]; exact mI_s _ _ _ _
          have hnn : nF = n := by have q1 := hUF.n; have q2 := hU2.n; omega
          refine (v_swap ?_)
          refine v_widen (m1 := 24 * n + 10 * t + 201) (m2 := 1474 * n + 1000 * t + 10006) (by rw [hNF]; omega) (by rw [hNF]; omega) ?_
          refine v_istore (pc' := 203) (lv' := [(5, .int 2), (4, .int (nI j)), (3, .ref oo), (2, .ref (ad2 (0))), (1, .ref (ad (0))), (0, .ref b)]) X dL_law_201 (by decide) rfl rfl ?_
          refine v_aload_n (pc' := 204) (i := 2) (j := 3) X dL_law_203 rfl rfl rfl ?_
          refine v_aload_n (pc' := 205) (i := 0) (j := 5) X dL_law_204 rfl rfl rfl ?_
          refine v_iload (pc' := 207) (j := 1) X dL_law_205 rfl rfl ?_
          refine v_iconst (pc' := 208) (v := 1) X dL_law_207 (by decide) rfl ?_
          refine v_iaddV (pc' := 209) (v := nI (j + 1)) X (nI_add (j) 1) dL_law_208 rfl ?_
          refine s_ld (pc' := 210) X hX hbl hbA (j + 1) rfl (by omega) (by omega) dL_law_209 rfl ?_
          refine v_aload_n (pc' := 211) (i := 0) (j := 5) X dL_law_210 rfl rfl rfl ?_
          refine v_iload (pc' := 213) (j := 1) X dL_law_211 rfl rfl ?_
          refine v_iconst (pc' := 214) (v := 2) X dL_law_213 (by decide) rfl ?_
          refine v_iaddV (pc' := 215) (v := nI (j + 2)) X (nI_add (j) 2) dL_law_214 rfl ?_
          refine s_ld (pc' := 216) X hX hbl hbA (j + 2) rfl (by omega) (by omega) dL_law_215 rfl ?_
          refine (v_rot ?_)
          refine v_callVF (pc' := 219) X (st := []) (c_X9_run (ad := ad2) (M := N) hU (k := xs (j + 1)) (c := xs (j + 2))) k_X9_run w_ml_L_63 w_im_X9_run w_se_X9_X9_run (rv_M) (by rw [hR]; exact ⟨Nat.le_of_ble_eq_true rfl, Nat.le_of_ble_eq_true rfl⟩) rfl rfl (Nat.le_of_ble_eq_true rfl) dL_law_216 rfl (by rw [hR]; show 24 * n + 10 * t + 201 + (11 * (nn ((fRun N n (xs (j + 1)) (xs (j + 2))).1.1 0 2) - n)) ≤ 600128 ∧ 1474 * n + 1000 * t + 10006 + (674 * (nn ((fRun N n (xs (j + 1)) (xs (j + 2))).1.1 0 2) - n)) ≤ 7301098; rw [hNF]; omega) ?_
          rintro _ _ ⟨rfl, ad8, rfl, had8⟩
          have ha8 : ad8 0 = ad2 0 := had8 0 (by unfold tb; omega)
          rw [hNF]
          rw [hnn]
          refine (v_rtb ?_)
          refine v_widen (m1 := 24 * n + 10 * t + 201) (m2 := 1474 * n + 1000 * t + 10006) (by omega) (by omega) ?_
          show V K 8 _ (24 * n + 10 * t + 201) (1474 * n + 1000 * t + 10006) 219 [(5, .int 2), (4, .int (nI j)), (3, .ref oo), (2, .ref (ad2 (0))), (1, .ref (ad (0))), (0, .ref b)] [.int ((fRun N n (xs (j + 1)) (xs (j + 2))).2)]
          rw [← ha8]
          refine v_istore (pc' := 221) (lv' := [(6, .int ((fRun N n (xs (j + 1)) (xs (j + 2))).2)), (5, .int 2), (4, .int (nI j)), (3, .ref oo), (2, .ref (ad8 (0))), (1, .ref (ad (0))), (0, .ref b)]) X dL_law_219 (by decide) rfl rfl ?_
          refine v_aload_n (pc' := 222) (i := 2) (j := 4) X dL_law_221 rfl rfl rfl ?_
          refine (v_rot ?_)
          refine v_callVF (pc' := 225) X (st := []) (c_X9_thrown (ad := ad8) (M := (fRun N n (xs (j + 1)) (xs (j + 2))).1)) k_X9_thrown w_ml_L_56 w_im_X9_thrown w_se_X9_X9_thrown (rv_M) (by rw [hR]; exact ⟨Nat.le_of_ble_eq_true rfl, Nat.le_of_ble_eq_true rfl⟩) rfl rfl (Nat.le_of_ble_eq_true rfl) dL_law_222 rfl (by rw [hR]; show 24 * n + 10 * t + 201 + 0 ≤ 600128 ∧ 1474 * n + 1000 * t + 10006 + 0 ≤ 7301098; omega) ?_
          rintro _ _ ⟨rfl, rfl⟩
          refine (v_rtb ?_)
          rw [hT0]
          refine v_iload (pc' := 227) (j := 1) X dL_law_225 rfl rfl ?_
          refine v_icmp_eq (pc' := 230) (tgt := 232) X dL_law_227 (by decide) rfl (fun _ => ?_) (fun hc_227 => absurd (by decide) hc_227)
          refine v_iload (pc' := 234) (j := 1) X dL_law_232 rfl rfl ?_
          refine v_if_ne (pc' := 237) (tgt := 249) X dL_law_234 (by decide) rfl (fun _ => ?_) (fun hc_234 => absurd hc_234 (by decide))
          refine v_goto (pc' := 659) X dL_law_249 (by decide) ?_
          refine v_iinc (pc' := 662) (j := 2) (v := nI (j + 5)) (lv' := [(4, .int (nI (j + 5))), (6, .int ((fRun N n (xs (j + 1)) (xs (j + 2))).2)), (5, .int 2), (3, .ref oo), (2, .ref (ad8 (0))), (1, .ref (ad (0))), (0, .ref b)]) X dL_law_659 rfl (nI_add (j) 5) (by decide) rfl rfl ?_
          refine v_goto (pc' := 23) X dL_law_662 (by decide) ?_
          refine v_sub (lv' := [(4, .int (nI (j + 5))), (3, .ref oo), (2, .ref (ad8 (0))), (1, .ref (ad (0))), (0, .ref b)]) [0, 3, 4, 5, 6] rfl ?_
          refine v_widen (m1 := 24 * n + 10 * (t + 1) + 200) (m2 := 1474 * n + 1000 * (t + 1) + 10000) (by omega) (by omega) ?_
          exact ih (j + 5) (t + 1) _ _ _ _ _ _ _ _ _ _ (by omega) (by omega) (by omega) (by omega) hS2 hU2 hq hcp hz4 (by omega)
      · refine v_tableIn (off := 213) (tgt := 252) X dL_law_39 (by decide) (by decide) (by decide) (by decide) ?_
        refine v_aload_n (pc' := 253) (i := 1) (j := 3) X dL_law_252 rfl rfl rfl ?_
        refine v_aload_n (pc' := 254) (i := 0) (j := 4) X dL_law_253 rfl rfl rfl ?_
        refine v_iload (pc' := 256) (j := 0) X dL_law_254 rfl rfl ?_
        refine v_iconst (pc' := 257) (v := 1) X dL_law_256 (by decide) rfl ?_
        refine v_iaddV (pc' := 258) (v := nI (j + 1)) X (nI_add (j) 1) dL_law_257 rfl ?_
        refine s_ld (pc' := 259) X hX hbl hbA (j + 1) rfl (by omega) (by omega) dL_law_258 rfl ?_
        refine v_aload_n (pc' := 260) (i := 3) (j := 1) X dL_law_259 rfl rfl rfl ?_
        obtain ⟨nF, usF, hUF, hnF⟩ := iu_turn (N := N) (n := n) (k := xs (j + 1)) hU
        have hNF := hUF.n
        have hF16 := hUF.n16
        refine (v_swap ?_)
        refine v_callHF (pc' := 263) (n := 3) X hd (st := []) (h_turn (oo := oo) (f0 := f) hS hU hst9 hq hcp.1 (by omega) (k := xs (j + 1))) w_cw_L_turn w_in_L (by decide +kernel) (by decide +kernel) w_ml_L_64 w_st_L_turn (by rw [hR]; exact ⟨Nat.le_of_ble_eq_true rfl, Nat.le_of_ble_eq_true rfl⟩) rfl rfl (Nat.le_of_ble_eq_true rfl) dL_law_260 rfl (by rw [hR]; show 24 * n + 10 * t + 200 + (13 * (nn ((fTurn N (xs (j + 1))).1.1 0 2) - n) + 1) ≤ 600128 ∧ 1474 * n + 1000 * t + 10000 + (800 * (nn ((fTurn N (xs (j + 1))).1.1 0 2) - n) + 6) ≤ 7301098; rw [hNF]; omega) ?_
        rintro _ _ (⟨hz0, rfl, w1, hw1, rfl⟩ | ⟨rfl, hF, rfl⟩)
          -- turn ok
        · obtain ⟨n9, cq9, ad9, G9, rfl, hS2, hq9, hn9, had9⟩ := hw1
          have hn9F : n9 = nF := by have q1 := sm_nn hS2; have q2 := hUF.n; omega
          subst hn9F
          have hU2 := hUF
          have hT0 : (fTurn N (xs (j + 1))).1.1 0 0 = 0 := turn_00 hz0
          have ha0 : ad9 0 = ad 0 := had9 0 (by decide) (Or.inl (by unfold tb; omega))
          have hz5 : cp = 0 → ad9 4 = kZ K 32 := fun z9 => (had9 4 (by decide) (Or.inl (by unfold tb; omega))).trans (hz4 z9)
          refine (v_swap ?_)
          refine v_widen (m1 := 24 * n + 13 * (n9 - n) + 10 * t + 201) (m2 := 1474 * n + 800 * (n9 - n) + 1000 * t + 10006) (by rw [hNF]; omega) (by rw [hNF]; omega) ?_
          show V K 8 _ (24 * n + 13 * (n9 - n) + 10 * t + 201) (1474 * n + 800 * (n9 - n) + 1000 * t + 10006) 263 [(4, .int (nI j)), (3, .ref oo), (2, .ref (ad2 (0))), (1, .ref (ad (0))), (0, .ref b)] [.int 0]
          rw [← ha0]
          refine v_istore (pc' := 265) (lv' := [(5, .int 0), (4, .int (nI j)), (3, .ref oo), (2, .ref (ad2 (0))), (1, .ref (ad9 (0))), (0, .ref b)]) X dL_law_263 (by decide) rfl rfl ?_
          refine v_aload_n (pc' := 266) (i := 2) (j := 3) X dL_law_265 rfl rfl rfl ?_
          refine v_aload_n (pc' := 267) (i := 0) (j := 5) X dL_law_266 rfl rfl rfl ?_
          refine v_iload (pc' := 269) (j := 1) X dL_law_267 rfl rfl ?_
          refine v_iconst (pc' := 270) (v := 1) X dL_law_269 (by decide) rfl ?_
          refine v_iaddV (pc' := 271) (v := nI (j + 1)) X (nI_add (j) 1) dL_law_270 rfl ?_
          refine s_ld (pc' := 272) X hX hbl hbA (j + 1) rfl (by omega) (by omega) dL_law_271 rfl ?_
          refine (v_rot ?_)
          refine v_callVF (pc' := 275) X (st := []) (c_X9_turn (ad := ad2) (M := N) hU (k := xs (j + 1))) k_X9_turn w_ml_L_67 w_im_X9_turn w_se_X9_X9_turn (rv_M) (by rw [hR]; exact ⟨Nat.le_of_ble_eq_true rfl, Nat.le_of_ble_eq_true rfl⟩) rfl rfl (Nat.le_of_ble_eq_true rfl) dL_law_272 rfl (by rw [hR]; show 24 * n + 13 * (n9 - n) + 10 * t + 201 + (11 * (nn ((fTurn N (xs (j + 1))).1.1 0 2) - n)) ≤ 600128 ∧ 1474 * n + 800 * (n9 - n) + 1000 * t + 10006 + (674 * (nn ((fTurn N (xs (j + 1))).1.1 0 2) - n)) ≤ 7301098; rw [hNF]; omega) ?_
          rintro _ _ ⟨rfl, ad8, rfl, had8⟩
          have ha8 : ad8 0 = ad2 0 := had8 0 (by unfold tb; omega)
          rw [hNF]
          refine (v_rtb ?_)
          refine v_widen (m1 := 24 * n9 + 10 * t + 201) (m2 := 1474 * n9 + 1000 * t + 10006) (by omega) (by omega) ?_
          show V K 8 _ (24 * n9 + 10 * t + 201) (1474 * n9 + 1000 * t + 10006) 275 [(5, .int 0), (4, .int (nI j)), (3, .ref oo), (2, .ref (ad2 (0))), (1, .ref (ad9 (0))), (0, .ref b)] [.int ((fTurn N (xs (j + 1))).2)]
          rw [← ha8]
          refine v_istore (pc' := 277) (lv' := [(6, .int ((fTurn N (xs (j + 1))).2)), (5, .int 0), (4, .int (nI j)), (3, .ref oo), (2, .ref (ad8 (0))), (1, .ref (ad9 (0))), (0, .ref b)]) X dL_law_275 (by decide) rfl rfl ?_
          refine v_aload_n (pc' := 278) (i := 2) (j := 4) X dL_law_277 rfl rfl rfl ?_
          refine (v_rot ?_)
          refine v_callVF (pc' := 281) X (st := []) (c_X9_thrown (ad := ad8) (M := (fTurn N (xs (j + 1))).1)) k_X9_thrown w_ml_L_56 w_im_X9_thrown w_se_X9_X9_thrown (rv_M) (by rw [hR]; exact ⟨Nat.le_of_ble_eq_true rfl, Nat.le_of_ble_eq_true rfl⟩) rfl rfl (Nat.le_of_ble_eq_true rfl) dL_law_278 rfl (by rw [hR]; show 24 * n9 + 10 * t + 201 + 0 ≤ 600128 ∧ 1474 * n9 + 1000 * t + 10006 + 0 ≤ 7301098; omega) ?_
          rintro _ _ ⟨rfl, rfl⟩
          refine (v_rtb ?_)
          rw [hT0]
          refine v_iload (pc' := 283) (j := 1) X dL_law_281 rfl rfl ?_
          refine v_icmp_eq (pc' := 286) (tgt := 288) X dL_law_283 (by decide) rfl (fun _ => ?_) (fun hc_283 => absurd (by decide) hc_283)
          refine v_iload (pc' := 290) (j := 1) X dL_law_288 rfl rfl ?_
          refine v_if_ne (pc' := 293) (tgt := 305) X dL_law_290 (by decide) rfl (fun hc_290 => absurd (by decide) hc_290) (fun _ => ?_)
          refine v_aload_n (pc' := 294) (i := 3) (j := 3) X dL_law_293 rfl rfl rfl ?_
          refine v_iconst (pc' := 295) (v := 0) X dL_law_294 (by decide) rfl ?_
          refine s_out (pc' := 296) X dL_law_295 rfl ?_
          refine v_iload (pc' := 298) (j := 0) X dL_law_296 rfl rfl ?_
          refine v_i2l (pc' := 299) X dL_law_298 rfl rfl ?_
          refine v_lcmp (pc' := 300) X dL_law_299 rfl ?_
          refine v_lif_eq (pc' := 303) (tgt := 305) X dL_law_300 (by decide) rfl (fun _ => ?_) (fun hc_300 => absurd rfl hc_300)
          refine v_goto (pc' := 659) X dL_law_305 (by decide) ?_
          refine v_iinc (pc' := 662) (j := 2) (v := nI (j + 5)) (lv' := [(4, .int (nI (j + 5))), (6, .int ((fTurn N (xs (j + 1))).2)), (5, .int 0), (3, .ref oo), (2, .ref (ad8 (0))), (1, .ref (ad9 (0))), (0, .ref b)]) X dL_law_659 rfl (nI_add (j) 5) (by decide) rfl rfl ?_
          refine v_goto (pc' := 23) X dL_law_662 (by decide) ?_
          refine v_sub (lv' := [(4, .int (nI (j + 5))), (3, .ref oo), (2, .ref (ad8 (0))), (1, .ref (ad9 (0))), (0, .ref b)]) [0, 3, 4, 5, 6] rfl ?_
          refine v_widen (m1 := 24 * n9 + 10 * (t + 1) + 200) (m2 := 1474 * n9 + 1000 * (t + 1) + 10000) (by omega) (by omega) ?_
          exact ih (j + 5) (t + 1) _ _ _ _ _ _ _ _ _ _ (by omega) (by omega) (by omega) (by omega) hS2 hU2 hq9 hcp hz5 (by omega)
          -- turn 1
        · have hS2 : Sm G (fTurn N (xs (j + 1))).1 n s := by rw [hF]; exact z_thr hS
          have hU2 : IU (fTurn N (xs (j + 1))).1 n us := by rw [hF]; exact iu_cnt hU (by decide)
          have hT0 : (fTurn N (xs (j + 1))).1.1 0 0 = 1 := by rw [hF]; exact mI_s _ _ _ _
          have hnn : nF = n := by have q1 := hUF.n; have q2 := hU2.n; omega
          refine (v_swap ?_)
          refine v_widen (m1 := 24 * n + 10 * t + 201) (m2 := 1474 * n + 1000 * t + 10006) (by rw [hNF]; omega) (by rw [hNF]; omega) ?_
          refine v_istore (pc' := 265) (lv' := [(5, .int 1), (4, .int (nI j)), (3, .ref oo), (2, .ref (ad2 (0))), (1, .ref (ad (0))), (0, .ref b)]) X dL_law_263 (by decide) rfl rfl ?_
          refine v_aload_n (pc' := 266) (i := 2) (j := 3) X dL_law_265 rfl rfl rfl ?_
          refine v_aload_n (pc' := 267) (i := 0) (j := 5) X dL_law_266 rfl rfl rfl ?_
          refine v_iload (pc' := 269) (j := 1) X dL_law_267 rfl rfl ?_
          refine v_iconst (pc' := 270) (v := 1) X dL_law_269 (by decide) rfl ?_
          refine v_iaddV (pc' := 271) (v := nI (j + 1)) X (nI_add (j) 1) dL_law_270 rfl ?_
          refine s_ld (pc' := 272) X hX hbl hbA (j + 1) rfl (by omega) (by omega) dL_law_271 rfl ?_
          refine (v_rot ?_)
          refine v_callVF (pc' := 275) X (st := []) (c_X9_turn (ad := ad2) (M := N) hU (k := xs (j + 1))) k_X9_turn w_ml_L_67 w_im_X9_turn w_se_X9_X9_turn (rv_M) (by rw [hR]; exact ⟨Nat.le_of_ble_eq_true rfl, Nat.le_of_ble_eq_true rfl⟩) rfl rfl (Nat.le_of_ble_eq_true rfl) dL_law_272 rfl (by rw [hR]; show 24 * n + 10 * t + 201 + (11 * (nn ((fTurn N (xs (j + 1))).1.1 0 2) - n)) ≤ 600128 ∧ 1474 * n + 1000 * t + 10006 + (674 * (nn ((fTurn N (xs (j + 1))).1.1 0 2) - n)) ≤ 7301098; rw [hNF]; omega) ?_
          rintro _ _ ⟨rfl, ad8, rfl, had8⟩
          have ha8 : ad8 0 = ad2 0 := had8 0 (by unfold tb; omega)
          rw [hNF]
          rw [hnn]
          refine (v_rtb ?_)
          refine v_widen (m1 := 24 * n + 10 * t + 201) (m2 := 1474 * n + 1000 * t + 10006) (by omega) (by omega) ?_
          show V K 8 _ (24 * n + 10 * t + 201) (1474 * n + 1000 * t + 10006) 275 [(5, .int 1), (4, .int (nI j)), (3, .ref oo), (2, .ref (ad2 (0))), (1, .ref (ad (0))), (0, .ref b)] [.int ((fTurn N (xs (j + 1))).2)]
          rw [← ha8]
          refine v_istore (pc' := 277) (lv' := [(6, .int ((fTurn N (xs (j + 1))).2)), (5, .int 1), (4, .int (nI j)), (3, .ref oo), (2, .ref (ad8 (0))), (1, .ref (ad (0))), (0, .ref b)]) X dL_law_275 (by decide) rfl rfl ?_
          refine v_aload_n (pc' := 278) (i := 2) (j := 4) X dL_law_277 rfl rfl rfl ?_
          refine (v_rot ?_)
          refine v_callVF (pc' := 281) X (st := []) (c_X9_thrown (ad := ad8) (M := (fTurn N (xs (j + 1))).1)) k_X9_thrown w_ml_L_56 w_im_X9_thrown w_se_X9_X9_thrown (rv_M) (by rw [hR]; exact ⟨Nat.le_of_ble_eq_true rfl, Nat.le_of_ble_eq_true rfl⟩) rfl rfl (Nat.le_of_ble_eq_true rfl) dL_law_278 rfl (by rw [hR]; show 24 * n + 10 * t + 201 + 0 ≤ 600128 ∧ 1474 * n + 1000 * t + 10006 + 0 ≤ 7301098; omega) ?_
          rintro _ _ ⟨rfl, rfl⟩
          refine (v_rtb ?_)
          rw [hT0]
          refine v_iload (pc' := 283) (j := 1) X dL_law_281 rfl rfl ?_
          refine v_icmp_eq (pc' := 286) (tgt := 288) X dL_law_283 (by decide) rfl (fun _ => ?_) (fun hc_283 => absurd (by decide) hc_283)
          refine v_iload (pc' := 290) (j := 1) X dL_law_288 rfl rfl ?_
          refine v_if_ne (pc' := 293) (tgt := 305) X dL_law_290 (by decide) rfl (fun _ => ?_) (fun hc_290 => absurd hc_290 (by decide))
          refine v_goto (pc' := 659) X dL_law_305 (by decide) ?_
          refine v_iinc (pc' := 662) (j := 2) (v := nI (j + 5)) (lv' := [(4, .int (nI (j + 5))), (6, .int ((fTurn N (xs (j + 1))).2)), (5, .int 1), (3, .ref oo), (2, .ref (ad8 (0))), (1, .ref (ad (0))), (0, .ref b)]) X dL_law_659 rfl (nI_add (j) 5) (by decide) rfl rfl ?_
          refine v_goto (pc' := 23) X dL_law_662 (by decide) ?_
          refine v_sub (lv' := [(4, .int (nI (j + 5))), (3, .ref oo), (2, .ref (ad8 (0))), (1, .ref (ad (0))), (0, .ref b)]) [0, 3, 4, 5, 6] rfl ?_
          refine v_widen (m1 := 24 * n + 10 * (t + 1) + 200) (m2 := 1474 * n + 1000 * (t + 1) + 10000) (by omega) (by omega) ?_
          exact ih (j + 5) (t + 1) _ _ _ _ _ _ _ _ _ _ (by omega) (by omega) (by omega) (by omega) hS2 hU2 hq hcp hz4 (by omega)
      · refine v_tableIn (off := 269) (tgt := 308) X dL_law_39 (by decide) (by decide) (by decide) (by decide) ?_
        refine v_aload_n (pc' := 309) (i := 1) (j := 3) X dL_law_308 rfl rfl rfl ?_
        refine v_aload_n (pc' := 310) (i := 0) (j := 4) X dL_law_309 rfl rfl rfl ?_
        refine v_iload (pc' := 312) (j := 0) X dL_law_310 rfl rfl ?_
        refine v_iconst (pc' := 313) (v := 1) X dL_law_312 (by decide) rfl ?_
        refine v_iaddV (pc' := 314) (v := nI (j + 1)) X (nI_add (j) 1) dL_law_313 rfl ?_
        refine s_ld (pc' := 315) X hX hbl hbA (j + 1) rfl (by omega) (by omega) dL_law_314 rfl ?_
        refine v_aload_n (pc' := 316) (i := 0) (j := 4) X dL_law_315 rfl rfl rfl ?_
        refine v_iload (pc' := 318) (j := 0) X dL_law_316 rfl rfl ?_
        refine v_iconst (pc' := 319) (v := 2) X dL_law_318 (by decide) rfl ?_
        refine v_iaddV (pc' := 320) (v := nI (j + 2)) X (nI_add (j) 2) dL_law_319 rfl ?_
        refine s_ld (pc' := 321) X hX hbl hbA (j + 2) rfl (by omega) (by omega) dL_law_320 rfl ?_
        refine v_aload_n (pc' := 322) (i := 3) (j := 1) X dL_law_321 rfl rfl rfl ?_
        refine (v_swap ?_)
        refine v_callHF (pc' := 325) (n := 4) X hd (st := []) (h_thread (oo := oo) (f0 := f) hS hU hst9 hq (k := xs (j + 1)) (what := xs (j + 2))) w_cw_L_thread w_in_L (by decide +kernel) (by decide +kernel) w_ml_L_68 w_st_L_thread (by rw [hR]; exact ⟨Nat.le_of_ble_eq_true rfl, Nat.le_of_ble_eq_true rfl⟩) rfl rfl (Nat.le_of_ble_eq_true rfl) dL_law_322 rfl (by rw [hR]; show 24 * n + 10 * t + 200 + 1 ≤ 600128 ∧ 1474 * n + 1000 * t + 10000 + 6 ≤ 7301098; omega) ?_
        rintro _ _ (⟨hz0, rfl, rfl⟩ | ⟨rfl, hF, rfl⟩ | ⟨rfl, hF, rfl⟩)
          -- thread ok
        · have hS2 : Sm G (mI N 0 0 (fThrd N n (xs (j + 1)) (xs (j + 2))).1) n s := z_thr hS
          have hU2 : IU (mI N 0 0 (fThrd N n (xs (j + 1)) (xs (j + 2))).1) n us := iu_cnt hU (by decide)
          have hT0 : (mI N 0 0 (fThrd N n (xs (j + 1)) (xs (j + 2))).1).1 0 0 = 0 := (mI_s _ _ _ _).trans hz0
          refine (v_swap ?_)
          refine v_widen (m1 := 24 * n + 10 * t + 201) (m2 := 1474 * n + 1000 * t + 10006) (by omega) (by omega) ?_
          refine v_istore (pc' := 327) (lv' := [(5, .int 0), (4, .int (nI j)), (3, .ref oo), (2, .ref (ad2 (0))), (1, .ref (ad (0))), (0, .ref b)]) X dL_law_325 (by decide) rfl rfl ?_
          refine v_aload_n (pc' := 328) (i := 2) (j := 3) X dL_law_327 rfl rfl rfl ?_
          refine v_aload_n (pc' := 329) (i := 0) (j := 5) X dL_law_328 rfl rfl rfl ?_
          refine v_iload (pc' := 331) (j := 1) X dL_law_329 rfl rfl ?_
          refine v_iconst (pc' := 332) (v := 1) X dL_law_331 (by decide) rfl ?_
          refine v_iaddV (pc' := 333) (v := nI (j + 1)) X (nI_add (j) 1) dL_law_332 rfl ?_
          refine s_ld (pc' := 334) X hX hbl hbA (j + 1) rfl (by omega) (by omega) dL_law_333 rfl ?_
          refine v_aload_n (pc' := 335) (i := 0) (j := 5) X dL_law_334 rfl rfl rfl ?_
          refine v_iload (pc' := 337) (j := 1) X dL_law_335 rfl rfl ?_
          refine v_iconst (pc' := 338) (v := 2) X dL_law_337 (by decide) rfl ?_
          refine v_iaddV (pc' := 339) (v := nI (j + 2)) X (nI_add (j) 2) dL_law_338 rfl ?_
          refine s_ld (pc' := 340) X hX hbl hbA (j + 2) rfl (by omega) (by omega) dL_law_339 rfl ?_
          obtain ⟨sz9, pd9, hg9, hts9⟩ := id hU
          refine (v_rot ?_)
          refine v_callVF (pc' := 343) X (st := []) (c_X9_thread (ad := ad2) (M := N) hg9 hts9 (k := xs (j + 1)) (what := xs (j + 2))) k_X9_thread w_ml_L_70 w_im_X9_thread w_se_X9_X9_thread (rv_M) (by rw [hR]; exact ⟨Nat.le_of_ble_eq_true rfl, Nat.le_of_ble_eq_true rfl⟩) rfl rfl (Nat.le_of_ble_eq_true rfl) dL_law_340 rfl (by rw [hR]; show 24 * n + 10 * t + 201 + 0 ≤ 600128 ∧ 1474 * n + 1000 * t + 10006 + 0 ≤ 7301098; omega) ?_
          rintro _ _ ⟨rfl, rfl⟩
          refine (v_rtb ?_)
          refine v_istore (pc' := 345) (lv' := [(6, .int ((fThrd N n (xs (j + 1)) (xs (j + 2))).2)), (5, .int 0), (4, .int (nI j)), (3, .ref oo), (2, .ref (ad2 (0))), (1, .ref (ad (0))), (0, .ref b)]) X dL_law_343 (by decide) rfl rfl ?_
          refine v_aload_n (pc' := 346) (i := 2) (j := 4) X dL_law_345 rfl rfl rfl ?_
          refine (v_rot ?_)
          refine v_callVF (pc' := 349) X (st := []) (c_X9_thrown (ad := ad2) (M := (mI N 0 0 (fThrd N n (xs (j + 1)) (xs (j + 2))).1))) k_X9_thrown w_ml_L_56 w_im_X9_thrown w_se_X9_X9_thrown (rv_M) (by rw [hR]; exact ⟨Nat.le_of_ble_eq_true rfl, Nat.le_of_ble_eq_true rfl⟩) rfl rfl (Nat.le_of_ble_eq_true rfl) dL_law_346 rfl (by rw [hR]; show 24 * n + 10 * t + 201 + 0 ≤ 600128 ∧ 1474 * n + 1000 * t + 10006 + 0 ≤ 7301098; omega) ?_
          rintro _ _ ⟨rfl, rfl⟩
          refine (v_rtb ?_)
          rw [hT0]
          refine v_iload (pc' := 351) (j := 1) X dL_law_349 rfl rfl ?_
          refine v_icmp_eq (pc' := 354) (tgt := 356) X dL_law_351 (by decide) rfl (fun _ => ?_) (fun hc_351 => absurd (by decide) hc_351)
          refine v_iload (pc' := 358) (j := 1) X dL_law_356 rfl rfl ?_
          refine v_if_ne (pc' := 361) (tgt := 373) X dL_law_358 (by decide) rfl (fun hc_358 => absurd (by decide) hc_358) (fun _ => ?_)
          refine v_aload_n (pc' := 362) (i := 3) (j := 3) X dL_law_361 rfl rfl rfl ?_
          refine v_iconst (pc' := 363) (v := 0) X dL_law_362 (by decide) rfl ?_
          refine s_out (pc' := 364) X dL_law_363 rfl ?_
          refine v_iload (pc' := 366) (j := 0) X dL_law_364 rfl rfl ?_
          refine v_i2l (pc' := 367) X dL_law_366 rfl rfl ?_
          refine v_lcmp (pc' := 368) X dL_law_367 rfl ?_
          refine v_lif_eq (pc' := 371) (tgt := 373) X dL_law_368 (by decide) rfl (fun _ => ?_) (fun hc_368 => absurd rfl hc_368)
          refine v_goto (pc' := 659) X dL_law_373 (by decide) ?_
          refine v_iinc (pc' := 662) (j := 2) (v := nI (j + 5)) (lv' := [(4, .int (nI (j + 5))), (6, .int ((fThrd N n (xs (j + 1)) (xs (j + 2))).2)), (5, .int 0), (3, .ref oo), (2, .ref (ad2 (0))), (1, .ref (ad (0))), (0, .ref b)]) X dL_law_659 rfl (nI_add (j) 5) (by decide) rfl rfl ?_
          refine v_goto (pc' := 23) X dL_law_662 (by decide) ?_
          refine v_sub (lv' := [(4, .int (nI (j + 5))), (3, .ref oo), (2, .ref (ad2 (0))), (1, .ref (ad (0))), (0, .ref b)]) [0, 3, 4, 5, 6] rfl ?_
          refine v_widen (m1 := 24 * n + 10 * (t + 1) + 200) (m2 := 1474 * n + 1000 * (t + 1) + 10000) (by omega) (by omega) ?_
          exact ih (j + 5) (t + 1) _ _ _ _ _ _ _ _ _ _ (by omega) (by omega) (by omega) (by omega) hS2 hU2 hq hcp hz4 (by omega)
          -- thread 1
        · have hS2 : Sm G (mI N 0 0 (fThrd N n (xs (j + 1)) (xs (j + 2))).1) n s := z_thr hS
          have hU2 : IU (mI N 0 0 (fThrd N n (xs (j + 1)) (xs (j + 2))).1) n us := iu_cnt hU (by decide)
          have hT0 : (mI N 0 0 (fThrd N n (xs (j + 1)) (xs (j + 2))).1).1 0 0 = 1 := by rw [hF]; exact mI_s _ _ _ _
          refine (v_swap ?_)
          refine v_widen (m1 := 24 * n + 10 * t + 201) (m2 := 1474 * n + 1000 * t + 10006) (by omega) (by omega) ?_
          refine v_istore (pc' := 327) (lv' := [(5, .int 1), (4, .int (nI j)), (3, .ref oo), (2, .ref (ad2 (0))), (1, .ref (ad (0))), (0, .ref b)]) X dL_law_325 (by decide) rfl rfl ?_
          refine v_aload_n (pc' := 328) (i := 2) (j := 3) X dL_law_327 rfl rfl rfl ?_
          refine v_aload_n (pc' := 329) (i := 0) (j := 5) X dL_law_328 rfl rfl rfl ?_
          refine v_iload (pc' := 331) (j := 1) X dL_law_329 rfl rfl ?_
          refine v_iconst (pc' := 332) (v := 1) X dL_law_331 (by decide) rfl ?_
          refine v_iaddV (pc' := 333) (v := nI (j + 1)) X (nI_add (j) 1) dL_law_332 rfl ?_
          refine s_ld (pc' := 334) X hX hbl hbA (j + 1) rfl (by omega) (by omega) dL_law_333 rfl ?_
          refine v_aload_n (pc' := 335) (i := 0) (j := 5) X dL_law_334 rfl rfl rfl ?_
          refine v_iload (pc' := 337) (j := 1) X dL_law_335 rfl rfl ?_
          refine v_iconst (pc' := 338) (v := 2) X dL_law_337 (by decide) rfl ?_
          refine v_iaddV (pc' := 339) (v := nI (j + 2)) X (nI_add (j) 2) dL_law_338 rfl ?_
          refine s_ld (pc' := 340) X hX hbl hbA (j + 2) rfl (by omega) (by omega) dL_law_339 rfl ?_
          obtain ⟨sz9, pd9, hg9, hts9⟩ := id hU
          refine (v_rot ?_)
          refine v_callVF (pc' := 343) X (st := []) (c_X9_thread (ad := ad2) (M := N) hg9 hts9 (k := xs (j + 1)) (what := xs (j + 2))) k_X9_thread w_ml_L_70 w_im_X9_thread w_se_X9_X9_thread (rv_M) (by rw [hR]; exact ⟨Nat.le_of_ble_eq_true rfl, Nat.le_of_ble_eq_true rfl⟩) rfl rfl (Nat.le_of_ble_eq_true rfl) dL_law_340 rfl (by rw [hR]; show 24 * n + 10 * t + 201 + 0 ≤ 600128 ∧ 1474 * n + 1000 * t + 10006 + 0 ≤ 7301098; omega) ?_
          rintro _ _ ⟨rfl, rfl⟩
          refine (v_rtb ?_)
          refine v_istore (pc' := 345) (lv' := [(6, .int ((fThrd N n (xs (j + 1)) (xs (j + 2))).2)), (5, .int 1), (4, .int (nI j)), (3, .ref oo), (2, .ref (ad2 (0))), (1, .ref (ad (0))), (0, .ref b)]) X dL_law_343 (by decide) rfl rfl ?_
          refine v_aload_n (pc' := 346) (i := 2) (j := 4) X dL_law_345 rfl rfl rfl ?_
          refine (v_rot ?_)
          refine v_callVF (pc' := 349) X (st := []) (c_X9_thrown (ad := ad2) (M := (mI N 0 0 (fThrd N n (xs (j + 1)) (xs (j + 2))).1))) k_X9_thrown w_ml_L_56 w_im_X9_thrown w_se_X9_X9_thrown (rv_M) (by rw [hR]; exact ⟨Nat.le_of_ble_eq_true rfl, Nat.le_of_ble_eq_true rfl⟩) rfl rfl (Nat.le_of_ble_eq_true rfl) dL_law_346 rfl (by rw [hR]; show 24 * n + 10 * t + 201 + 0 ≤ 600128 ∧ 1474 * n + 1000 * t + 10006 + 0 ≤ 7301098; omega) ?_
          rintro _ _ ⟨rfl, rfl⟩
          refine (v_rtb ?_)
          rw [hT0]
          refine v_iload (pc' := 351) (j := 1) X dL_law_349 rfl rfl ?_
          refine v_icmp_eq (pc' := 354) (tgt := 356) X dL_law_351 (by decide) rfl (fun _ => ?_) (fun hc_351 => absurd (by decide) hc_351)
          refine v_iload (pc' := 358) (j := 1) X dL_law_356 rfl rfl ?_
          refine v_if_ne (pc' := 361) (tgt := 373) X dL_law_358 (by decide) rfl (fun _ => ?_) (fun hc_358 => absurd hc_358 (by decide))
          refine v_goto (pc' := 659) X dL_law_373 (by decide) ?_
          refine v_iinc (pc' := 662) (j := 2) (v := nI (j + 5)) (lv' := [(4, .int (nI (j + 5))), (6, .int ((fThrd N n (xs (j + 1)) (xs (j + 2))).2)), (5, .int 1), (3, .ref oo), (2, .ref (ad2 (0))), (1, .ref (ad (0))), (0, .ref b)]) X dL_law_659 rfl (nI_add (j) 5) (by decide) rfl rfl ?_
          refine v_goto (pc' := 23) X dL_law_662 (by decide) ?_
          refine v_sub (lv' := [(4, .int (nI (j + 5))), (3, .ref oo), (2, .ref (ad2 (0))), (1, .ref (ad (0))), (0, .ref b)]) [0, 3, 4, 5, 6] rfl ?_
          refine v_widen (m1 := 24 * n + 10 * (t + 1) + 200) (m2 := 1474 * n + 1000 * (t + 1) + 10000) (by omega) (by omega) ?_
          exact ih (j + 5) (t + 1) _ _ _ _ _ _ _ _ _ _ (by omega) (by omega) (by omega) (by omega) hS2 hU2 hq hcp hz4 (by omega)
          -- thread 2
        · have hS2 : Sm G (mI N 0 0 (fThrd N n (xs (j + 1)) (xs (j + 2))).1) n s := z_thr hS
          have hU2 : IU (mI N 0 0 (fThrd N n (xs (j + 1)) (xs (j + 2))).1) n us := iu_cnt hU (by decide)
          have hT0 : (mI N 0 0 (fThrd N n (xs (j + 1)) (xs (j + 2))).1).1 0 0 = 2 := by rw [hF]; exact mI_s _ _ _ _
          refine (v_swap ?_)
          refine v_widen (m1 := 24 * n + 10 * t + 201) (m2 := 1474 * n + 1000 * t + 10006) (by omega) (by omega) ?_
          refine v_istore (pc' := 327) (lv' := [(5, .int 2), (4, .int (nI j)), (3, .ref oo), (2, .ref (ad2 (0))), (1, .ref (ad (0))), (0, .ref b)]) X dL_law_325 (by decide) rfl rfl ?_
          refine v_aload_n (pc' := 328) (i := 2) (j := 3) X dL_law_327 rfl rfl rfl ?_
          refine v_aload_n (pc' := 329) (i := 0) (j := 5) X dL_law_328 rfl rfl rfl ?_
          refine v_iload (pc' := 331) (j := 1) X dL_law_329 rfl rfl ?_
          refine v_iconst (pc' := 332) (v := 1) X dL_law_331 (by decide) rfl ?_
          refine v_iaddV (pc' := 333) (v := nI (j + 1)) X (nI_add (j) 1) dL_law_332 rfl ?_
          refine s_ld (pc' := 334) X hX hbl hbA (j + 1) rfl (by omega) (by omega) dL_law_333 rfl ?_
          refine v_aload_n (pc' := 335) (i := 0) (j := 5) X dL_law_334 rfl rfl rfl ?_
          refine v_iload (pc' := 337) (j := 1) X dL_law_335 rfl rfl ?_
          refine v_iconst (pc' := 338) (v := 2) X dL_law_337 (by decide) rfl ?_
          refine v_iaddV (pc' := 339) (v := nI (j + 2)) X (nI_add (j) 2) dL_law_338 rfl ?_
          refine s_ld (pc' := 340) X hX hbl hbA (j + 2) rfl (by omega) (by omega) dL_law_339 rfl ?_
          obtain ⟨sz9, pd9, hg9, hts9⟩ := id hU
          refine (v_rot ?_)
          refine v_callVF (pc' := 343) X (st := []) (c_X9_thread (ad := ad2) (M := N) hg9 hts9 (k := xs (j + 1)) (what := xs (j + 2))) k_X9_thread w_ml_L_70 w_im_X9_thread w_se_X9_X9_thread (rv_M) (by rw [hR]; exact ⟨Nat.le_of_ble_eq_true rfl, Nat.le_of_ble_eq_true rfl⟩) rfl rfl (Nat.le_of_ble_eq_true rfl) dL_law_340 rfl (by rw [hR]; show 24 * n + 10 * t + 201 + 0 ≤ 600128 ∧ 1474 * n + 1000 * t + 10006 + 0 ≤ 7301098; omega) ?_
          rintro _ _ ⟨rfl, rfl⟩
          refine (v_rtb ?_)
          refine v_istore (pc' := 345) (lv' := [(6, .int ((fThrd N n (xs (j + 1)) (xs (j + 2))).2)), (5, .int 2), (4, .int (nI j)), (3, .ref oo), (2, .ref (ad2 (0))), (1, .ref (ad (0))), (0, .ref b)]) X dL_law_343 (by decide) rfl rfl ?_
          refine v_aload_n (pc' := 346) (i := 2) (j := 4) X dL_law_345 rfl rfl rfl ?_
          refine (v_rot ?_)
          refine v_callVF (pc' := 349) X (st := []) (c_X9_thrown (ad := ad2) (M := (mI N 0 0 (fThrd N n (xs (j + 1)) (xs (j + 2))).1))) k_X9_thrown w_ml_L_56 w_im_X9_thrown w_se_X9_X9_thrown (rv_M) (by rw [hR]; exact ⟨Nat.le_of_ble_eq_true rfl, Nat.le_of_ble_eq_true rfl⟩) rfl rfl (Nat.le_of_ble_eq_true rfl) dL_law_346 rfl (by rw [hR]; show 24 * n + 10 * t + 201 + 0 ≤ 600128 ∧ 1474 * n + 1000 * t + 10006 + 0 ≤ 7301098; omega) ?_
          rintro _ _ ⟨rfl, rfl⟩
          refine (v_rtb ?_)
          rw [hT0]
          refine v_iload (pc' := 351) (j := 1) X dL_law_349 rfl rfl ?_
          refine v_icmp_eq (pc' := 354) (tgt := 356) X dL_law_351 (by decide) rfl (fun _ => ?_) (fun hc_351 => absurd (by decide) hc_351)
          refine v_iload (pc' := 358) (j := 1) X dL_law_356 rfl rfl ?_
          refine v_if_ne (pc' := 361) (tgt := 373) X dL_law_358 (by decide) rfl (fun _ => ?_) (fun hc_358 => absurd hc_358 (by decide))
          refine v_goto (pc' := 659) X dL_law_373 (by decide) ?_
          refine v_iinc (pc' := 662) (j := 2) (v := nI (j + 5)) (lv' := [(4, .int (nI (j + 5))), (6, .int ((fThrd N n (xs (j + 1)) (xs (j + 2))).2)), (5, .int 2), (3, .ref oo), (2, .ref (ad2 (0))), (1, .ref (ad (0))), (0, .ref b)]) X dL_law_659 rfl (nI_add (j) 5) (by decide) rfl rfl ?_
          refine v_goto (pc' := 23) X dL_law_662 (by decide) ?_
          refine v_sub (lv' := [(4, .int (nI (j + 5))), (3, .ref oo), (2, .ref (ad2 (0))), (1, .ref (ad (0))), (0, .ref b)]) [0, 3, 4, 5, 6] rfl ?_
          refine v_widen (m1 := 24 * n + 10 * (t + 1) + 200) (m2 := 1474 * n + 1000 * (t + 1) + 10000) (by omega) (by omega) ?_
          exact ih (j + 5) (t + 1) _ _ _ _ _ _ _ _ _ _ (by omega) (by omega) (by omega) (by omega) hS2 hU2 hq hcp hz4 (by omega)
      · refine v_tableIn (off := 337) (tgt := 376) X dL_law_39 (by decide) (by decide) (by decide) (by decide) ?_
        refine v_aload_n (pc' := 377) (i := 1) (j := 3) X dL_law_376 rfl rfl rfl ?_
        refine v_aload_n (pc' := 378) (i := 0) (j := 4) X dL_law_377 rfl rfl rfl ?_
        refine v_iload (pc' := 380) (j := 0) X dL_law_378 rfl rfl ?_
        refine v_iconst (pc' := 381) (v := 1) X dL_law_380 (by decide) rfl ?_
        refine v_iaddV (pc' := 382) (v := nI (j + 1)) X (nI_add (j) 1) dL_law_381 rfl ?_
        refine s_ld (pc' := 383) X hX hbl hbA (j + 1) rfl (by omega) (by omega) dL_law_382 rfl ?_
        refine v_aload_n (pc' := 384) (i := 0) (j := 4) X dL_law_383 rfl rfl rfl ?_
        refine v_iload (pc' := 386) (j := 0) X dL_law_384 rfl rfl ?_
        refine v_iconst (pc' := 387) (v := 2) X dL_law_386 (by decide) rfl ?_
        refine v_iaddV (pc' := 388) (v := nI (j + 2)) X (nI_add (j) 2) dL_law_387 rfl ?_
        refine s_ld (pc' := 389) X hX hbl hbA (j + 2) rfl (by omega) (by omega) dL_law_388 rfl ?_
        refine v_aload_n (pc' := 390) (i := 3) (j := 1) X dL_law_389 rfl rfl rfl ?_
        refine (v_swap ?_)
        refine v_callHF (pc' := 393) (n := 4) X hd (st := []) (h_register (oo := oo) (f0 := f) hS hU hst9 hq (k := xs (j + 1)) (x := xs (j + 2))) w_cw_L_register w_in_L (by decide +kernel) (by decide +kernel) w_ml_L_71 w_st_L_register (by rw [hR]; exact ⟨Nat.le_of_ble_eq_true rfl, Nat.le_of_ble_eq_true rfl⟩) rfl rfl (Nat.le_of_ble_eq_true rfl) dL_law_390 rfl (by rw [hR]; show 24 * n + 10 * t + 200 + 1 ≤ 600128 ∧ 1474 * n + 1000 * t + 10000 + 6 ≤ 7301098; omega) ?_
        rintro _ _ (⟨hz0, rfl, rfl⟩ | ⟨rfl, hF, rfl⟩)
          -- register ok
        · have hS2 : Sm G (mI N 0 0 (fReg N n (xs (j + 1)) (xs (j + 2))).1) n s := z_thr hS
          have hU2 : IU (mI N 0 0 (fReg N n (xs (j + 1)) (xs (j + 2))).1) n us := iu_cnt hU (by decide)
          have hT0 : (mI N 0 0 (fReg N n (xs (j + 1)) (xs (j + 2))).1).1 0 0 = 0 := (mI_s _ _ _ _).trans hz0
          refine (v_swap ?_)
          refine v_widen (m1 := 24 * n + 10 * t + 201) (m2 := 1474 * n + 1000 * t + 10006) (by omega) (by omega) ?_
          refine v_istore (pc' := 395) (lv' := [(5, .int 0), (4, .int (nI j)), (3, .ref oo), (2, .ref (ad2 (0))), (1, .ref (ad (0))), (0, .ref b)]) X dL_law_393 (by decide) rfl rfl ?_
          refine v_aload_n (pc' := 396) (i := 2) (j := 3) X dL_law_395 rfl rfl rfl ?_
          refine v_aload_n (pc' := 397) (i := 0) (j := 5) X dL_law_396 rfl rfl rfl ?_
          refine v_iload (pc' := 399) (j := 1) X dL_law_397 rfl rfl ?_
          refine v_iconst (pc' := 400) (v := 1) X dL_law_399 (by decide) rfl ?_
          refine v_iaddV (pc' := 401) (v := nI (j + 1)) X (nI_add (j) 1) dL_law_400 rfl ?_
          refine s_ld (pc' := 402) X hX hbl hbA (j + 1) rfl (by omega) (by omega) dL_law_401 rfl ?_
          refine v_aload_n (pc' := 403) (i := 0) (j := 5) X dL_law_402 rfl rfl rfl ?_
          refine v_iload (pc' := 405) (j := 1) X dL_law_403 rfl rfl ?_
          refine v_iconst (pc' := 406) (v := 2) X dL_law_405 (by decide) rfl ?_
          refine v_iaddV (pc' := 407) (v := nI (j + 2)) X (nI_add (j) 2) dL_law_406 rfl ?_
          refine s_ld (pc' := 408) X hX hbl hbA (j + 2) rfl (by omega) (by omega) dL_law_407 rfl ?_
          obtain ⟨sz9, pd9, hg9, hts9⟩ := id hU
          refine (v_rot ?_)
          refine v_callVF (pc' := 411) X (st := []) (c_X9_register (ad := ad2) (M := N) hg9 (k := xs (j + 1)) (x := xs (j + 2))) k_X9_register w_ml_L_73 w_im_X9_register w_se_X9_X9_register (rv_M) (by rw [hR]; exact ⟨Nat.le_of_ble_eq_true rfl, Nat.le_of_ble_eq_true rfl⟩) rfl rfl (Nat.le_of_ble_eq_true rfl) dL_law_408 rfl (by rw [hR]; show 24 * n + 10 * t + 201 + 0 ≤ 600128 ∧ 1474 * n + 1000 * t + 10006 + 0 ≤ 7301098; omega) ?_
          rintro _ _ ⟨rfl, rfl⟩
          refine (v_rtb ?_)
          refine v_lstore (pc' := 413) (lv' := [(6, .long ((fReg N n (xs (j + 1)) (xs (j + 2))).2)), (5, .int 0), (4, .int (nI j)), (3, .ref oo), (2, .ref (ad2 (0))), (1, .ref (ad (0))), (0, .ref b)]) X dL_law_411 (by decide) rfl rfl ?_
          refine v_aload_n (pc' := 414) (i := 2) (j := 4) X dL_law_413 rfl rfl rfl ?_
          refine (v_rot ?_)
          refine v_callVF (pc' := 417) X (st := []) (c_X9_thrown (ad := ad2) (M := (mI N 0 0 (fReg N n (xs (j + 1)) (xs (j + 2))).1))) k_X9_thrown w_ml_L_56 w_im_X9_thrown w_se_X9_X9_thrown (rv_M) (by rw [hR]; exact ⟨Nat.le_of_ble_eq_true rfl, Nat.le_of_ble_eq_true rfl⟩) rfl rfl (Nat.le_of_ble_eq_true rfl) dL_law_414 rfl (by rw [hR]; show 24 * n + 10 * t + 201 + 0 ≤ 600128 ∧ 1474 * n + 1000 * t + 10006 + 0 ≤ 7301098; omega) ?_
          rintro _ _ ⟨rfl, rfl⟩
          refine (v_rtb ?_)
          rw [hT0]
          refine v_iload (pc' := 419) (j := 1) X dL_law_417 rfl rfl ?_
          refine v_icmp_eq (pc' := 422) (tgt := 424) X dL_law_419 (by decide) rfl (fun _ => ?_) (fun hc_419 => absurd (by decide) hc_419)
          refine v_iload (pc' := 426) (j := 1) X dL_law_424 rfl rfl ?_
          refine v_if_ne (pc' := 429) (tgt := 440) X dL_law_426 (by decide) rfl (fun hc_426 => absurd (by decide) hc_426) (fun _ => ?_)
          refine v_aload_n (pc' := 430) (i := 3) (j := 3) X dL_law_429 rfl rfl rfl ?_
          refine v_iconst (pc' := 431) (v := 0) X dL_law_430 (by decide) rfl ?_
          refine s_out (pc' := 432) X dL_law_431 rfl ?_
          refine v_lload (pc' := 434) (j := 0) X dL_law_432 rfl rfl ?_
          refine v_lcmp (pc' := 435) X dL_law_434 rfl ?_
          refine v_lif_eq (pc' := 438) (tgt := 440) X dL_law_435 (by decide) rfl (fun _ => ?_) (fun hc_435 => absurd rfl hc_435)
          refine v_goto (pc' := 659) X dL_law_440 (by decide) ?_
          refine v_iinc (pc' := 662) (j := 2) (v := nI (j + 5)) (lv' := [(4, .int (nI (j + 5))), (6, .long ((fReg N n (xs (j + 1)) (xs (j + 2))).2)), (5, .int 0), (3, .ref oo), (2, .ref (ad2 (0))), (1, .ref (ad (0))), (0, .ref b)]) X dL_law_659 rfl (nI_add (j) 5) (by decide) rfl rfl ?_
          refine v_goto (pc' := 23) X dL_law_662 (by decide) ?_
          refine v_sub (lv' := [(4, .int (nI (j + 5))), (3, .ref oo), (2, .ref (ad2 (0))), (1, .ref (ad (0))), (0, .ref b)]) [0, 3, 4, 5, 6] rfl ?_
          refine v_widen (m1 := 24 * n + 10 * (t + 1) + 200) (m2 := 1474 * n + 1000 * (t + 1) + 10000) (by omega) (by omega) ?_
          exact ih (j + 5) (t + 1) _ _ _ _ _ _ _ _ _ _ (by omega) (by omega) (by omega) (by omega) hS2 hU2 hq hcp hz4 (by omega)
          -- register 1
        · have hS2 : Sm G (mI N 0 0 (fReg N n (xs (j + 1)) (xs (j + 2))).1) n s := z_thr hS
          have hU2 : IU (mI N 0 0 (fReg N n (xs (j + 1)) (xs (j + 2))).1) n us := iu_cnt hU (by decide)
          have hT0 : (mI N 0 0 (fReg N n (xs (j + 1)) (xs (j + 2))).1).1 0 0 = 1 := by rw [hF]; exact mI_s _ _ _ _
          refine (v_swap ?_)
          refine v_widen (m1 := 24 * n + 10 * t + 201) (m2 := 1474 * n + 1000 * t + 10006) (by omega) (by omega) ?_
          refine v_istore (pc' := 395) (lv' := [(5, .int 1), (4, .int (nI j)), (3, .ref oo), (2, .ref (ad2 (0))), (1, .ref (ad (0))), (0, .ref b)]) X dL_law_393 (by decide) rfl rfl ?_
          refine v_aload_n (pc' := 396) (i := 2) (j := 3) X dL_law_395 rfl rfl rfl ?_
          refine v_aload_n (pc' := 397) (i := 0) (j := 5) X dL_law_396 rfl rfl rfl ?_
          refine v_iload (pc' := 399) (j := 1) X dL_law_397 rfl rfl ?_
          refine v_iconst (pc' := 400) (v := 1) X dL_law_399 (by decide) rfl ?_
          refine v_iaddV (pc' := 401) (v := nI (j + 1)) X (nI_add (j) 1) dL_law_400 rfl ?_
          refine s_ld (pc' := 402) X hX hbl hbA (j + 1) rfl (by omega) (by omega) dL_law_401 rfl ?_
          refine v_aload_n (pc' := 403) (i := 0) (j := 5) X dL_law_402 rfl rfl rfl ?_
          refine v_iload (pc' := 405) (j := 1) X dL_law_403 rfl rfl ?_
          refine v_iconst (pc' := 406) (v := 2) X dL_law_405 (by decide) rfl ?_
          refine v_iaddV (pc' := 407) (v := nI (j + 2)) X (nI_add (j) 2) dL_law_406 rfl ?_
          refine s_ld (pc' := 408) X hX hbl hbA (j + 2) rfl (by omega) (by omega) dL_law_407 rfl ?_
          obtain ⟨sz9, pd9, hg9, hts9⟩ := id hU
          refine (v_rot ?_)
          refine v_callVF (pc' := 411) X (st := []) (c_X9_register (ad := ad2) (M := N) hg9 (k := xs (j + 1)) (x := xs (j + 2))) k_X9_register w_ml_L_73 w_im_X9_register w_se_X9_X9_register (rv_M) (by rw [hR]; exact ⟨Nat.le_of_ble_eq_true rfl, Nat.le_of_ble_eq_true rfl⟩) rfl rfl (Nat.le_of_ble_eq_true rfl) dL_law_408 rfl (by rw [hR]; show 24 * n + 10 * t + 201 + 0 ≤ 600128 ∧ 1474 * n + 1000 * t + 10006 + 0 ≤ 7301098; omega) ?_
          rintro _ _ ⟨rfl, rfl⟩
          refine (v_rtb ?_)
          refine v_lstore (pc' := 413) (lv' := [(6, .long ((fReg N n (xs (j + 1)) (xs (j + 2))).2)), (5, .int 1), (4, .int (nI j)), (3, .ref oo), (2, .ref (ad2 (0))), (1, .ref (ad (0))), (0, .ref b)]) X dL_law_411 (by decide) rfl rfl ?_
          refine v_aload_n (pc' := 414) (i := 2) (j := 4) X dL_law_413 rfl rfl rfl ?_
          refine (v_rot ?_)
          refine v_callVF (pc' := 417) X (st := []) (c_X9_thrown (ad := ad2) (M := (mI N 0 0 (fReg N n (xs (j + 1)) (xs (j + 2))).1))) k_X9_thrown w_ml_L_56 w_im_X9_thrown w_se_X9_X9_thrown (rv_M) (by rw [hR]; exact ⟨Nat.le_of_ble_eq_true rfl, Nat.le_of_ble_eq_true rfl⟩) rfl rfl (Nat.le_of_ble_eq_true rfl) dL_law_414 rfl (by rw [hR]; show 24 * n + 10 * t + 201 + 0 ≤ 600128 ∧ 1474 * n + 1000 * t + 10006 + 0 ≤ 7301098; omega) ?_
          rintro _ _ ⟨rfl, rfl⟩
          refine (v_rtb ?_)
          rw [hT0]
          refine v_iload (pc' := 419) (j := 1) X dL_law_417 rfl rfl ?_
          refine v_icmp_eq (pc' := 422) (tgt := 424) X dL_law_419 (by decide) rfl (fun _ => ?_) (fun hc_419 => absurd (by decide) hc_419)
          refine v_iload (pc' := 426) (j := 1) X dL_law_424 rfl rfl ?_
          refine v_if_ne (pc' := 429) (tgt := 440) X dL_law_426 (by decide) rfl (fun _ => ?_) (fun hc_426 => absurd hc_426 (by decide))
          refine v_goto (pc' := 659) X dL_law_440 (by decide) ?_
          refine v_iinc (pc' := 662) (j := 2) (v := nI (j + 5)) (lv' := [(4, .int (nI (j + 5))), (6, .long ((fReg N n (xs (j + 1)) (xs (j + 2))).2)), (5, .int 1), (3, .ref oo), (2, .ref (ad2 (0))), (1, .ref (ad (0))), (0, .ref b)]) X dL_law_659 rfl (nI_add (j) 5) (by decide) rfl rfl ?_
          refine v_goto (pc' := 23) X dL_law_662 (by decide) ?_
          refine v_sub (lv' := [(4, .int (nI (j + 5))), (3, .ref oo), (2, .ref (ad2 (0))), (1, .ref (ad (0))), (0, .ref b)]) [0, 3, 4, 5, 6] rfl ?_
          refine v_widen (m1 := 24 * n + 10 * (t + 1) + 200) (m2 := 1474 * n + 1000 * (t + 1) + 10000) (by omega) (by omega) ?_
          exact ih (j + 5) (t + 1) _ _ _ _ _ _ _ _ _ _ (by omega) (by omega) (by omega) (by omega) hS2 hU2 hq hcp hz4 (by omega)
      · refine v_tableIn (off := 404) (tgt := 443) X dL_law_39 (by decide) (by decide) (by decide) (by decide) ?_
        refine v_aload_n (pc' := 444) (i := 1) (j := 3) X dL_law_443 rfl rfl rfl ?_
        refine v_aload_n (pc' := 445) (i := 0) (j := 4) X dL_law_444 rfl rfl rfl ?_
        refine v_iload (pc' := 447) (j := 0) X dL_law_445 rfl rfl ?_
        refine v_iconst (pc' := 448) (v := 1) X dL_law_447 (by decide) rfl ?_
        refine v_iaddV (pc' := 449) (v := nI (j + 1)) X (nI_add (j) 1) dL_law_448 rfl ?_
        refine s_ld (pc' := 450) X hX hbl hbA (j + 1) rfl (by omega) (by omega) dL_law_449 rfl ?_
        refine v_aload_n (pc' := 451) (i := 3) (j := 1) X dL_law_450 rfl rfl rfl ?_
        refine (v_swap ?_)
        refine v_callHF (pc' := 454) (n := 3) X hd (st := []) (h_global (oo := oo) (f0 := f) hS hU hst9 hq (k := xs (j + 1))) w_cw_L_global w_in_L (by decide +kernel) (by decide +kernel) w_ml_L_74 w_st_L_global (by rw [hR]; exact ⟨Nat.le_of_ble_eq_true rfl, Nat.le_of_ble_eq_true rfl⟩) rfl rfl (Nat.le_of_ble_eq_true rfl) dL_law_451 rfl (by rw [hR]; show 24 * n + 10 * t + 200 + 1 ≤ 600128 ∧ 1474 * n + 1000 * t + 10000 + 6 ≤ 7301098; omega) ?_
        rintro _ _ (⟨hz0, rfl, rfl⟩ | ⟨rfl, hF, rfl⟩)
          -- global ok
        · have hS2 : Sm G (mI N 0 0 (fGlob N (xs (j + 1))).1) n s := z_thr hS
          have hU2 : IU (mI N 0 0 (fGlob N (xs (j + 1))).1) n us := iu_cnt hU (by decide)
          have hT0 : (mI N 0 0 (fGlob N (xs (j + 1))).1).1 0 0 = 0 := (mI_s _ _ _ _).trans hz0
          refine (v_swap ?_)
          refine v_widen (m1 := 24 * n + 10 * t + 201) (m2 := 1474 * n + 1000 * t + 10006) (by omega) (by omega) ?_
          refine v_istore (pc' := 456) (lv' := [(5, .int 0), (4, .int (nI j)), (3, .ref oo), (2, .ref (ad2 (0))), (1, .ref (ad (0))), (0, .ref b)]) X dL_law_454 (by decide) rfl rfl ?_
          refine v_aload_n (pc' := 457) (i := 2) (j := 3) X dL_law_456 rfl rfl rfl ?_
          refine v_aload_n (pc' := 458) (i := 0) (j := 5) X dL_law_457 rfl rfl rfl ?_
          refine v_iload (pc' := 460) (j := 1) X dL_law_458 rfl rfl ?_
          refine v_iconst (pc' := 461) (v := 1) X dL_law_460 (by decide) rfl ?_
          refine v_iaddV (pc' := 462) (v := nI (j + 1)) X (nI_add (j) 1) dL_law_461 rfl ?_
          refine s_ld (pc' := 463) X hX hbl hbA (j + 1) rfl (by omega) (by omega) dL_law_462 rfl ?_
          refine (v_rot ?_)
          refine v_callVF (pc' := 466) X (st := []) (c_X9_global (ad := ad2) (M := N)  (k := xs (j + 1))) k_X9_global w_ml_L_76 w_im_X9_global w_se_X9_X9_global (rv_M) (by rw [hR]; exact ⟨Nat.le_of_ble_eq_true rfl, Nat.le_of_ble_eq_true rfl⟩) rfl rfl (Nat.le_of_ble_eq_true rfl) dL_law_463 rfl (by rw [hR]; show 24 * n + 10 * t + 201 + 0 ≤ 600128 ∧ 1474 * n + 1000 * t + 10006 + 0 ≤ 7301098; omega) ?_
          rintro _ _ ⟨rfl, rfl⟩
          refine (v_rtb ?_)
          refine v_lstore (pc' := 468) (lv' := [(6, .long ((fGlob N (xs (j + 1))).2)), (5, .int 0), (4, .int (nI j)), (3, .ref oo), (2, .ref (ad2 (0))), (1, .ref (ad (0))), (0, .ref b)]) X dL_law_466 (by decide) rfl rfl ?_
          refine v_aload_n (pc' := 469) (i := 2) (j := 4) X dL_law_468 rfl rfl rfl ?_
          refine (v_rot ?_)
          refine v_callVF (pc' := 472) X (st := []) (c_X9_thrown (ad := ad2) (M := (mI N 0 0 (fGlob N (xs (j + 1))).1))) k_X9_thrown w_ml_L_56 w_im_X9_thrown w_se_X9_X9_thrown (rv_M) (by rw [hR]; exact ⟨Nat.le_of_ble_eq_true rfl, Nat.le_of_ble_eq_true rfl⟩) rfl rfl (Nat.le_of_ble_eq_true rfl) dL_law_469 rfl (by rw [hR]; show 24 * n + 10 * t + 201 + 0 ≤ 600128 ∧ 1474 * n + 1000 * t + 10006 + 0 ≤ 7301098; omega) ?_
          rintro _ _ ⟨rfl, rfl⟩
          refine (v_rtb ?_)
          rw [hT0]
          refine v_iload (pc' := 474) (j := 1) X dL_law_472 rfl rfl ?_
          refine v_icmp_eq (pc' := 477) (tgt := 479) X dL_law_474 (by decide) rfl (fun _ => ?_) (fun hc_474 => absurd (by decide) hc_474)
          refine v_iload (pc' := 481) (j := 1) X dL_law_479 rfl rfl ?_
          refine v_if_ne (pc' := 484) (tgt := 495) X dL_law_481 (by decide) rfl (fun hc_481 => absurd (by decide) hc_481) (fun _ => ?_)
          refine v_aload_n (pc' := 485) (i := 3) (j := 3) X dL_law_484 rfl rfl rfl ?_
          refine v_iconst (pc' := 486) (v := 0) X dL_law_485 (by decide) rfl ?_
          refine s_out (pc' := 487) X dL_law_486 rfl ?_
          refine v_lload (pc' := 489) (j := 0) X dL_law_487 rfl rfl ?_
          refine v_lcmp (pc' := 490) X dL_law_489 rfl ?_
          refine v_lif_eq (pc' := 493) (tgt := 495) X dL_law_490 (by decide) rfl (fun _ => ?_) (fun hc_490 => absurd rfl hc_490)
          refine v_goto (pc' := 659) X dL_law_495 (by decide) ?_
          refine v_iinc (pc' := 662) (j := 2) (v := nI (j + 5)) (lv' := [(4, .int (nI (j + 5))), (6, .long ((fGlob N (xs (j + 1))).2)), (5, .int 0), (3, .ref oo), (2, .ref (ad2 (0))), (1, .ref (ad (0))), (0, .ref b)]) X dL_law_659 rfl (nI_add (j) 5) (by decide) rfl rfl ?_
          refine v_goto (pc' := 23) X dL_law_662 (by decide) ?_
          refine v_sub (lv' := [(4, .int (nI (j + 5))), (3, .ref oo), (2, .ref (ad2 (0))), (1, .ref (ad (0))), (0, .ref b)]) [0, 3, 4, 5, 6] rfl ?_
          refine v_widen (m1 := 24 * n + 10 * (t + 1) + 200) (m2 := 1474 * n + 1000 * (t + 1) + 10000) (by omega) (by omega) ?_
          exact ih (j + 5) (t + 1) _ _ _ _ _ _ _ _ _ _ (by omega) (by omega) (by omega) (by omega) hS2 hU2 hq hcp hz4 (by omega)
          -- global 1
        · have hS2 : Sm G (mI N 0 0 (fGlob N (xs (j + 1))).1) n s := z_thr hS
          have hU2 : IU (mI N 0 0 (fGlob N (xs (j + 1))).1) n us := iu_cnt hU (by decide)
          have hT0 : (mI N 0 0 (fGlob N (xs (j + 1))).1).1 0 0 = 1 := by rw [hF]; exact mI_s _ _ _ _
          refine (v_swap ?_)
          refine v_widen (m1 := 24 * n + 10 * t + 201) (m2 := 1474 * n + 1000 * t + 10006) (by omega) (by omega) ?_
          refine v_istore (pc' := 456) (lv' := [(5, .int 1), (4, .int (nI j)), (3, .ref oo), (2, .ref (ad2 (0))), (1, .ref (ad (0))), (0, .ref b)]) X dL_law_454 (by decide) rfl rfl ?_
          refine v_aload_n (pc' := 457) (i := 2) (j := 3) X dL_law_456 rfl rfl rfl ?_
          refine v_aload_n (pc' := 458) (i := 0) (j := 5) X dL_law_457 rfl rfl rfl ?_
          refine v_iload (pc' := 460) (j := 1) X dL_law_458 rfl rfl ?_
          refine v_iconst (pc' := 461) (v := 1) X dL_law_460 (by decide) rfl ?_
          refine v_iaddV (pc' := 462) (v := nI (j + 1)) X (nI_add (j) 1) dL_law_461 rfl ?_
          refine s_ld (pc' := 463) X hX hbl hbA (j + 1) rfl (by omega) (by omega) dL_law_462 rfl ?_
          refine (v_rot ?_)
          refine v_callVF (pc' := 466) X (st := []) (c_X9_global (ad := ad2) (M := N)  (k := xs (j + 1))) k_X9_global w_ml_L_76 w_im_X9_global w_se_X9_X9_global (rv_M) (by rw [hR]; exact ⟨Nat.le_of_ble_eq_true rfl, Nat.le_of_ble_eq_true rfl⟩) rfl rfl (Nat.le_of_ble_eq_true rfl) dL_law_463 rfl (by rw [hR]; show 24 * n + 10 * t + 201 + 0 ≤ 600128 ∧ 1474 * n + 1000 * t + 10006 + 0 ≤ 7301098; omega) ?_
          rintro _ _ ⟨rfl, rfl⟩
          refine (v_rtb ?_)
          refine v_lstore (pc' := 468) (lv' := [(6, .long ((fGlob N (xs (j + 1))).2)), (5, .int 1), (4, .int (nI j)), (3, .ref oo), (2, .ref (ad2 (0))), (1, .ref (ad (0))), (0, .ref b)]) X dL_law_466 (by decide) rfl rfl ?_
          refine v_aload_n (pc' := 469) (i := 2) (j := 4) X dL_law_468 rfl rfl rfl ?_
          refine (v_rot ?_)
          refine v_callVF (pc' := 472) X (st := []) (c_X9_thrown (ad := ad2) (M := (mI N 0 0 (fGlob N (xs (j + 1))).1))) k_X9_thrown w_ml_L_56 w_im_X9_thrown w_se_X9_X9_thrown (rv_M) (by rw [hR]; exact ⟨Nat.le_of_ble_eq_true rfl, Nat.le_of_ble_eq_true rfl⟩) rfl rfl (Nat.le_of_ble_eq_true rfl) dL_law_469 rfl (by rw [hR]; show 24 * n + 10 * t + 201 + 0 ≤ 600128 ∧ 1474 * n + 1000 * t + 10006 + 0 ≤ 7301098; omega) ?_
          rintro _ _ ⟨rfl, rfl⟩
          refine (v_rtb ?_)
          rw [hT0]
          refine v_iload (pc' := 474) (j := 1) X dL_law_472 rfl rfl ?_
          refine v_icmp_eq (pc' := 477) (tgt := 479) X dL_law_474 (by decide) rfl (fun _ => ?_) (fun hc_474 => absurd (by decide) hc_474)
          refine v_iload (pc' := 481) (j := 1) X dL_law_479 rfl rfl ?_
          refine v_if_ne (pc' := 484) (tgt := 495) X dL_law_481 (by decide) rfl (fun _ => ?_) (fun hc_481 => absurd hc_481 (by decide))
          refine v_goto (pc' := 659) X dL_law_495 (by decide) ?_
          refine v_iinc (pc' := 662) (j := 2) (v := nI (j + 5)) (lv' := [(4, .int (nI (j + 5))), (6, .long ((fGlob N (xs (j + 1))).2)), (5, .int 1), (3, .ref oo), (2, .ref (ad2 (0))), (1, .ref (ad (0))), (0, .ref b)]) X dL_law_659 rfl (nI_add (j) 5) (by decide) rfl rfl ?_
          refine v_goto (pc' := 23) X dL_law_662 (by decide) ?_
          refine v_sub (lv' := [(4, .int (nI (j + 5))), (3, .ref oo), (2, .ref (ad2 (0))), (1, .ref (ad (0))), (0, .ref b)]) [0, 3, 4, 5, 6] rfl ?_
          refine v_widen (m1 := 24 * n + 10 * (t + 1) + 200) (m2 := 1474 * n + 1000 * (t + 1) + 10000) (by omega) (by omega) ?_
          exact ih (j + 5) (t + 1) _ _ _ _ _ _ _ _ _ _ (by omega) (by omega) (by omega) (by omega) hS2 hU2 hq hcp hz4 (by omega)
      · refine v_tableIn (off := 459) (tgt := 498) X dL_law_39 (by decide) (by decide) (by decide) (by decide) ?_
        refine v_aload_n (pc' := 499) (i := 1) (j := 3) X dL_law_498 rfl rfl rfl ?_
        refine v_aload_n (pc' := 500) (i := 0) (j := 4) X dL_law_499 rfl rfl rfl ?_
        refine v_iload (pc' := 502) (j := 0) X dL_law_500 rfl rfl ?_
        refine v_iconst (pc' := 503) (v := 1) X dL_law_502 (by decide) rfl ?_
        refine v_iaddV (pc' := 504) (v := nI (j + 1)) X (nI_add (j) 1) dL_law_503 rfl ?_
        refine s_ld (pc' := 505) X hX hbl hbA (j + 1) rfl (by omega) (by omega) dL_law_504 rfl ?_
        refine v_aload_n (pc' := 506) (i := 0) (j := 4) X dL_law_505 rfl rfl rfl ?_
        refine v_iload (pc' := 508) (j := 0) X dL_law_506 rfl rfl ?_
        refine v_iconst (pc' := 509) (v := 2) X dL_law_508 (by decide) rfl ?_
        refine v_iaddV (pc' := 510) (v := nI (j + 2)) X (nI_add (j) 2) dL_law_509 rfl ?_
        refine s_ld (pc' := 511) X hX hbl hbA (j + 2) rfl (by omega) (by omega) dL_law_510 rfl ?_
        refine v_aload_n (pc' := 512) (i := 3) (j := 1) X dL_law_511 rfl rfl rfl ?_
        refine (v_swap ?_)
        refine v_callHF (pc' := 515) (n := 4) X hd (st := []) (h_place (oo := oo) (f0 := f) hS hU hst9 hq (p := xs (j + 1)) (what := xs (j + 2))) w_cw_L_place w_in_L (by decide +kernel) (by decide +kernel) w_ml_L_77 w_st_L_place (by rw [hR]; exact ⟨Nat.le_of_ble_eq_true rfl, Nat.le_of_ble_eq_true rfl⟩) rfl rfl (Nat.le_of_ble_eq_true rfl) dL_law_512 rfl (by rw [hR]; show 24 * n + 10 * t + 200 + 1 ≤ 600128 ∧ 1474 * n + 1000 * t + 10000 + 6 ≤ 7301098; omega) ?_
        rintro _ _ (⟨hz0, rfl, rfl⟩ | ⟨rfl, hF, rfl⟩ | ⟨rfl, hF, rfl⟩)
          -- place ok
        · have hS2 : Sm G (mI N 0 0 (fPlace N (xs (j + 1)) (xs (j + 2))).1) n s := z_thr hS
          have hU2 : IU (mI N 0 0 (fPlace N (xs (j + 1)) (xs (j + 2))).1) n us := iu_cnt hU (by decide)
          have hT0 : (mI N 0 0 (fPlace N (xs (j + 1)) (xs (j + 2))).1).1 0 0 = 0 := (mI_s _ _ _ _).trans hz0
          refine (v_swap ?_)
          refine v_widen (m1 := 24 * n + 10 * t + 201) (m2 := 1474 * n + 1000 * t + 10006) (by omega) (by omega) ?_
          refine v_istore (pc' := 517) (lv' := [(5, .int 0), (4, .int (nI j)), (3, .ref oo), (2, .ref (ad2 (0))), (1, .ref (ad (0))), (0, .ref b)]) X dL_law_515 (by decide) rfl rfl ?_
          refine v_aload_n (pc' := 518) (i := 2) (j := 3) X dL_law_517 rfl rfl rfl ?_
          refine v_aload_n (pc' := 519) (i := 0) (j := 5) X dL_law_518 rfl rfl rfl ?_
          refine v_iload (pc' := 521) (j := 1) X dL_law_519 rfl rfl ?_
          refine v_iconst (pc' := 522) (v := 1) X dL_law_521 (by decide) rfl ?_
          refine v_iaddV (pc' := 523) (v := nI (j + 1)) X (nI_add (j) 1) dL_law_522 rfl ?_
          refine s_ld (pc' := 524) X hX hbl hbA (j + 1) rfl (by omega) (by omega) dL_law_523 rfl ?_
          refine v_aload_n (pc' := 525) (i := 0) (j := 5) X dL_law_524 rfl rfl rfl ?_
          refine v_iload (pc' := 527) (j := 1) X dL_law_525 rfl rfl ?_
          refine v_iconst (pc' := 528) (v := 2) X dL_law_527 (by decide) rfl ?_
          refine v_iaddV (pc' := 529) (v := nI (j + 2)) X (nI_add (j) 2) dL_law_528 rfl ?_
          refine s_ld (pc' := 530) X hX hbl hbA (j + 2) rfl (by omega) (by omega) dL_law_529 rfl ?_
          obtain ⟨sz9, pd9, hg9, hts9⟩ := id hU
          refine (v_rot ?_)
          refine v_callVF (pc' := 533) X (st := []) (c_X9_place_ (ad := ad2) (M := N) hg9 (p := xs (j + 1)) (what := xs (j + 2))) k_X9_place_ w_ml_L_79 w_im_X9_place_ w_se_X9_X9_place_ (rv_M) (by rw [hR]; exact ⟨Nat.le_of_ble_eq_true rfl, Nat.le_of_ble_eq_true rfl⟩) rfl rfl (Nat.le_of_ble_eq_true rfl) dL_law_530 rfl (by rw [hR]; show 24 * n + 10 * t + 201 + 0 ≤ 600128 ∧ 1474 * n + 1000 * t + 10006 + 0 ≤ 7301098; omega) ?_
          rintro _ _ ⟨rfl, rfl⟩
          refine (v_rtb ?_)
          refine v_lstore (pc' := 535) (lv' := [(6, .long ((fPlace N (xs (j + 1)) (xs (j + 2))).2)), (5, .int 0), (4, .int (nI j)), (3, .ref oo), (2, .ref (ad2 (0))), (1, .ref (ad (0))), (0, .ref b)]) X dL_law_533 (by decide) rfl rfl ?_
          refine v_aload_n (pc' := 536) (i := 2) (j := 4) X dL_law_535 rfl rfl rfl ?_
          refine (v_rot ?_)
          refine v_callVF (pc' := 539) X (st := []) (c_X9_thrown (ad := ad2) (M := (mI N 0 0 (fPlace N (xs (j + 1)) (xs (j + 2))).1))) k_X9_thrown w_ml_L_56 w_im_X9_thrown w_se_X9_X9_thrown (rv_M) (by rw [hR]; exact ⟨Nat.le_of_ble_eq_true rfl, Nat.le_of_ble_eq_true rfl⟩) rfl rfl (Nat.le_of_ble_eq_true rfl) dL_law_536 rfl (by rw [hR]; show 24 * n + 10 * t + 201 + 0 ≤ 600128 ∧ 1474 * n + 1000 * t + 10006 + 0 ≤ 7301098; omega) ?_
          rintro _ _ ⟨rfl, rfl⟩
          refine (v_rtb ?_)
          rw [hT0]
          refine v_iload (pc' := 541) (j := 1) X dL_law_539 rfl rfl ?_
          refine v_icmp_eq (pc' := 544) (tgt := 546) X dL_law_541 (by decide) rfl (fun _ => ?_) (fun hc_541 => absurd (by decide) hc_541)
          refine v_iload (pc' := 548) (j := 1) X dL_law_546 rfl rfl ?_
          refine v_if_ne (pc' := 551) (tgt := 562) X dL_law_548 (by decide) rfl (fun hc_548 => absurd (by decide) hc_548) (fun _ => ?_)
          refine v_aload_n (pc' := 552) (i := 3) (j := 3) X dL_law_551 rfl rfl rfl ?_
          refine v_iconst (pc' := 553) (v := 0) X dL_law_552 (by decide) rfl ?_
          refine s_out (pc' := 554) X dL_law_553 rfl ?_
          refine v_lload (pc' := 556) (j := 0) X dL_law_554 rfl rfl ?_
          refine v_lcmp (pc' := 557) X dL_law_556 rfl ?_
          refine v_lif_eq (pc' := 560) (tgt := 562) X dL_law_557 (by decide) rfl (fun _ => ?_) (fun hc_557 => absurd rfl hc_557)
          refine v_goto (pc' := 659) X dL_law_562 (by decide) ?_
          refine v_iinc (pc' := 662) (j := 2) (v := nI (j + 5)) (lv' := [(4, .int (nI (j + 5))), (6, .long ((fPlace N (xs (j + 1)) (xs (j + 2))).2)), (5, .int 0), (3, .ref oo), (2, .ref (ad2 (0))), (1, .ref (ad (0))), (0, .ref b)]) X dL_law_659 rfl (nI_add (j) 5) (by decide) rfl rfl ?_
          refine v_goto (pc' := 23) X dL_law_662 (by decide) ?_
          refine v_sub (lv' := [(4, .int (nI (j + 5))), (3, .ref oo), (2, .ref (ad2 (0))), (1, .ref (ad (0))), (0, .ref b)]) [0, 3, 4, 5, 6] rfl ?_
          refine v_widen (m1 := 24 * n + 10 * (t + 1) + 200) (m2 := 1474 * n + 1000 * (t + 1) + 10000) (by omega) (by omega) ?_
          exact ih (j + 5) (t + 1) _ _ _ _ _ _ _ _ _ _ (by omega) (by omega) (by omega) (by omega) hS2 hU2 hq hcp hz4 (by omega)
          -- place 1
        · have hS2 : Sm G (mI N 0 0 (fPlace N (xs (j + 1)) (xs (j + 2))).1) n s := z_thr hS
          have hU2 : IU (mI N 0 0 (fPlace N (xs (j + 1)) (xs (j + 2))).1) n us := iu_cnt hU (by decide)
          have hT0 : (mI N 0 0 (fPlace N (xs (j + 1)) (xs (j + 2))).1).1 0 0 = 1 := by rw [hF]; exact mI_s _ _ _ _
          refine (v_swap ?_)
          refine v_widen (m1 := 24 * n + 10 * t + 201) (m2 := 1474 * n + 1000 * t + 10006) (by omega) (by omega) ?_
          refine v_istore (pc' := 517) (lv' := [(5, .int 1), (4, .int (nI j)), (3, .ref oo), (2, .ref (ad2 (0))), (1, .ref (ad (0))), (0, .ref b)]) X dL_law_515 (by decide) rfl rfl ?_
          refine v_aload_n (pc' := 518) (i := 2) (j := 3) X dL_law_517 rfl rfl rfl ?_
          refine v_aload_n (pc' := 519) (i := 0) (j := 5) X dL_law_518 rfl rfl rfl ?_
          refine v_iload (pc' := 521) (j := 1) X dL_law_519 rfl rfl ?_
          refine v_iconst (pc' := 522) (v := 1) X dL_law_521 (by decide) rfl ?_
          refine v_iaddV (pc' := 523) (v := nI (j + 1)) X (nI_add (j) 1) dL_law_522 rfl ?_
          refine s_ld (pc' := 524) X hX hbl hbA (j + 1) rfl (by omega) (by omega) dL_law_523 rfl ?_
          refine v_aload_n (pc' := 525) (i := 0) (j := 5) X dL_law_524 rfl rfl rfl ?_
          refine v_iload (pc' := 527) (j := 1) X dL_law_525 rfl rfl ?_
          refine v_iconst (pc' := 528) (v := 2) X dL_law_527 (by decide) rfl ?_
          refine v_iaddV (pc' := 529) (v := nI (j + 2)) X (nI_add (j) 2) dL_law_528 rfl ?_
          refine s_ld (pc' := 530) X hX hbl hbA (j + 2) rfl (by omega) (by omega) dL_law_529 rfl ?_
          obtain ⟨sz9, pd9, hg9, hts9⟩ := id hU
          refine (v_rot ?_)
          refine v_callVF (pc' := 533) X (st := []) (c_X9_place_ (ad := ad2) (M := N) hg9 (p := xs (j + 1)) (what := xs (j + 2))) k_X9_place_ w_ml_L_79 w_im_X9_place_ w_se_X9_X9_place_ (rv_M) (by rw [hR]; exact ⟨Nat.le_of_ble_eq_true rfl, Nat.le_of_ble_eq_true rfl⟩) rfl rfl (Nat.le_of_ble_eq_true rfl) dL_law_530 rfl (by rw [hR]; show 24 * n + 10 * t + 201 + 0 ≤ 600128 ∧ 1474 * n + 1000 * t + 10006 + 0 ≤ 7301098; omega) ?_
          rintro _ _ ⟨rfl, rfl⟩
          refine (v_rtb ?_)
          refine v_lstore (pc' := 535) (lv' := [(6, .long ((fPlace N (xs (j + 1)) (xs (j + 2))).2)), (5, .int 1), (4, .int (nI j)), (3, .ref oo), (2, .ref (ad2 (0))), (1, .ref (ad (0))), (0, .ref b)]) X dL_law_533 (by decide) rfl rfl ?_
          refine v_aload_n (pc' := 536) (i := 2) (j := 4) X dL_law_535 rfl rfl rfl ?_
          refine (v_rot ?_)
          refine v_callVF (pc' := 539) X (st := []) (c_X9_thrown (ad := ad2) (M := (mI N 0 0 (fPlace N (xs (j + 1)) (xs (j + 2))).1))) k_X9_thrown w_ml_L_56 w_im_X9_thrown w_se_X9_X9_thrown (rv_M) (by rw [hR]; exact ⟨Nat.le_of_ble_eq_true rfl, Nat.le_of_ble_eq_true rfl⟩) rfl rfl (Nat.le_of_ble_eq_true rfl) dL_law_536 rfl (by rw [hR]; show 24 * n + 10 * t + 201 + 0 ≤ 600128 ∧ 1474 * n + 1000 * t + 10006 + 0 ≤ 7301098; omega) ?_
          rintro _ _ ⟨rfl, rfl⟩
          refine (v_rtb ?_)
          rw [hT0]
          refine v_iload (pc' := 541) (j := 1) X dL_law_539 rfl rfl ?_
          refine v_icmp_eq (pc' := 544) (tgt := 546) X dL_law_541 (by decide) rfl (fun _ => ?_) (fun hc_541 => absurd (by decide) hc_541)
          refine v_iload (pc' := 548) (j := 1) X dL_law_546 rfl rfl ?_
          refine v_if_ne (pc' := 551) (tgt := 562) X dL_law_548 (by decide) rfl (fun _ => ?_) (fun hc_548 => absurd hc_548 (by decide))
          refine v_goto (pc' := 659) X dL_law_562 (by decide) ?_
          refine v_iinc (pc' := 662) (j := 2) (v := nI (j + 5)) (lv' := [(4, .int (nI (j + 5))), (6, .long ((fPlace N (xs (j + 1)) (xs (j + 2))).2)), (5, .int 1), (3, .ref oo), (2, .ref (ad2 (0))), (1, .ref (ad (0))), (0, .ref b)]) X dL_law_659 rfl (nI_add (j) 5) (by decide) rfl rfl ?_
          refine v_goto (pc' := 23) X dL_law_662 (by decide) ?_
          refine v_sub (lv' := [(4, .int (nI (j + 5))), (3, .ref oo), (2, .ref (ad2 (0))), (1, .ref (ad (0))), (0, .ref b)]) [0, 3, 4, 5, 6] rfl ?_
          refine v_widen (m1 := 24 * n + 10 * (t + 1) + 200) (m2 := 1474 * n + 1000 * (t + 1) + 10000) (by omega) (by omega) ?_
          exact ih (j + 5) (t + 1) _ _ _ _ _ _ _ _ _ _ (by omega) (by omega) (by omega) (by omega) hS2 hU2 hq hcp hz4 (by omega)
          -- place 2
        · have hS2 : Sm G (mI N 0 0 (fPlace N (xs (j + 1)) (xs (j + 2))).1) n s := z_thr hS
          have hU2 : IU (mI N 0 0 (fPlace N (xs (j + 1)) (xs (j + 2))).1) n us := iu_cnt hU (by decide)
          have hT0 : (mI N 0 0 (fPlace N (xs (j + 1)) (xs (j + 2))).1).1 0 0 = 2 := by rw [hF]; exact mI_s _ _ _ _
          refine (v_swap ?_)
          refine v_widen (m1 := 24 * n + 10 * t + 201) (m2 := 1474 * n + 1000 * t + 10006) (by omega) (by omega) ?_
          refine v_istore (pc' := 517) (lv' := [(5, .int 2), (4, .int (nI j)), (3, .ref oo), (2, .ref (ad2 (0))), (1, .ref (ad (0))), (0, .ref b)]) X dL_law_515 (by decide) rfl rfl ?_
          refine v_aload_n (pc' := 518) (i := 2) (j := 3) X dL_law_517 rfl rfl rfl ?_
          refine v_aload_n (pc' := 519) (i := 0) (j := 5) X dL_law_518 rfl rfl rfl ?_
          refine v_iload (pc' := 521) (j := 1) X dL_law_519 rfl rfl ?_
          refine v_iconst (pc' := 522) (v := 1) X dL_law_521 (by decide) rfl ?_
          refine v_iaddV (pc' := 523) (v := nI (j + 1)) X (nI_add (j) 1) dL_law_522 rfl ?_
          refine s_ld (pc' := 524) X hX hbl hbA (j + 1) rfl (by omega) (by omega) dL_law_523 rfl ?_
          refine v_aload_n (pc' := 525) (i := 0) (j := 5) X dL_law_524 rfl rfl rfl ?_
          refine v_iload (pc' := 527) (j := 1) X dL_law_525 rfl rfl ?_
          refine v_iconst (pc' := 528) (v := 2) X dL_law_527 (by decide) rfl ?_
          refine v_iaddV (pc' := 529) (v := nI (j + 2)) X (nI_add (j) 2) dL_law_528 rfl ?_
          refine s_ld (pc' := 530) X hX hbl hbA (j + 2) rfl (by omega) (by omega) dL_law_529 rfl ?_
          obtain ⟨sz9, pd9, hg9, hts9⟩ := id hU
          refine (v_rot ?_)
          refine v_callVF (pc' := 533) X (st := []) (c_X9_place_ (ad := ad2) (M := N) hg9 (p := xs (j + 1)) (what := xs (j + 2))) k_X9_place_ w_ml_L_79 w_im_X9_place_ w_se_X9_X9_place_ (rv_M) (by rw [hR]; exact ⟨Nat.le_of_ble_eq_true rfl, Nat.le_of_ble_eq_true rfl⟩) rfl rfl (Nat.le_of_ble_eq_true rfl) dL_law_530 rfl (by rw [hR]; show 24 * n + 10 * t + 201 + 0 ≤ 600128 ∧ 1474 * n + 1000 * t + 10006 + 0 ≤ 7301098; omega) ?_
          rintro _ _ ⟨rfl, rfl⟩
          refine (v_rtb ?_)
          refine v_lstore (pc' := 535) (lv' := [(6, .long ((fPlace N (xs (j + 1)) (xs (j + 2))).2)), (5, .int 2), (4, .int (nI j)), (3, .ref oo), (2, .ref (ad2 (0))), (1, .ref (ad (0))), (0, .ref b)]) X dL_law_533 (by decide) rfl rfl ?_
          refine v_aload_n (pc' := 536) (i := 2) (j := 4) X dL_law_535 rfl rfl rfl ?_
          refine (v_rot ?_)
          refine v_callVF (pc' := 539) X (st := []) (c_X9_thrown (ad := ad2) (M := (mI N 0 0 (fPlace N (xs (j + 1)) (xs (j + 2))).1))) k_X9_thrown w_ml_L_56 w_im_X9_thrown w_se_X9_X9_thrown (rv_M) (by rw [hR]; exact ⟨Nat.le_of_ble_eq_true rfl, Nat.le_of_ble_eq_true rfl⟩) rfl rfl (Nat.le_of_ble_eq_true rfl) dL_law_536 rfl (by rw [hR]; show 24 * n + 10 * t + 201 + 0 ≤ 600128 ∧ 1474 * n + 1000 * t + 10006 + 0 ≤ 7301098; omega) ?_
          rintro _ _ ⟨rfl, rfl⟩
          refine (v_rtb ?_)
          rw [hT0]
          refine v_iload (pc' := 541) (j := 1) X dL_law_539 rfl rfl ?_
          refine v_icmp_eq (pc' := 544) (tgt := 546) X dL_law_541 (by decide) rfl (fun _ => ?_) (fun hc_541 => absurd (by decide) hc_541)
          refine v_iload (pc' := 548) (j := 1) X dL_law_546 rfl rfl ?_
          refine v_if_ne (pc' := 551) (tgt := 562) X dL_law_548 (by decide) rfl (fun _ => ?_) (fun hc_548 => absurd hc_548 (by decide))
          refine v_goto (pc' := 659) X dL_law_562 (by decide) ?_
          refine v_iinc (pc' := 662) (j := 2) (v := nI (j + 5)) (lv' := [(4, .int (nI (j + 5))), (6, .long ((fPlace N (xs (j + 1)) (xs (j + 2))).2)), (5, .int 2), (3, .ref oo), (2, .ref (ad2 (0))), (1, .ref (ad (0))), (0, .ref b)]) X dL_law_659 rfl (nI_add (j) 5) (by decide) rfl rfl ?_
          refine v_goto (pc' := 23) X dL_law_662 (by decide) ?_
          refine v_sub (lv' := [(4, .int (nI (j + 5))), (3, .ref oo), (2, .ref (ad2 (0))), (1, .ref (ad (0))), (0, .ref b)]) [0, 3, 4, 5, 6] rfl ?_
          refine v_widen (m1 := 24 * n + 10 * (t + 1) + 200) (m2 := 1474 * n + 1000 * (t + 1) + 10000) (by omega) (by omega) ?_
          exact ih (j + 5) (t + 1) _ _ _ _ _ _ _ _ _ _ (by omega) (by omega) (by omega) (by omega) hS2 hU2 hq hcp hz4 (by omega)
      · refine v_tableIn (off := 526) (tgt := 565) X dL_law_39 (by decide) (by decide) (by decide) (by decide) ?_
        refine v_aload_n (pc' := 566) (i := 1) (j := 3) X dL_law_565 rfl rfl rfl ?_
        refine v_aload_n (pc' := 567) (i := 0) (j := 4) X dL_law_566 rfl rfl rfl ?_
        refine v_iload (pc' := 569) (j := 0) X dL_law_567 rfl rfl ?_
        refine v_iconst (pc' := 570) (v := 1) X dL_law_569 (by decide) rfl ?_
        refine v_iaddV (pc' := 571) (v := nI (j + 1)) X (nI_add (j) 1) dL_law_570 rfl ?_
        refine s_ld (pc' := 572) X hX hbl hbA (j + 1) rfl (by omega) (by omega) dL_law_571 rfl ?_
        refine v_aload_n (pc' := 573) (i := 3) (j := 1) X dL_law_572 rfl rfl rfl ?_
        refine (v_swap ?_)
        refine v_callHF (pc' := 576) (n := 3) X hd (st := []) (h_output (oo := oo) (f0 := f) hS hU hst9 hq (k := xs (j + 1))) w_cw_L_output w_in_L (by decide +kernel) (by decide +kernel) w_ml_L_80 w_st_L_output (by rw [hR]; exact ⟨Nat.le_of_ble_eq_true rfl, Nat.le_of_ble_eq_true rfl⟩) rfl rfl (Nat.le_of_ble_eq_true rfl) dL_law_573 rfl (by rw [hR]; show 24 * n + 10 * t + 200 + 1 ≤ 600128 ∧ 1474 * n + 1000 * t + 10000 + 6 ≤ 7301098; omega) ?_
        rintro _ _ (⟨hz0, rfl, rfl⟩ | ⟨rfl, hF, rfl⟩)
          -- output ok
        · have hS2 : Sm G (mI N 0 0 (fOutp N (xs (j + 1))).1) n s := z_thr hS
          have hU2 : IU (mI N 0 0 (fOutp N (xs (j + 1))).1) n us := iu_cnt hU (by decide)
          have hT0 : (mI N 0 0 (fOutp N (xs (j + 1))).1).1 0 0 = 0 := (mI_s _ _ _ _).trans hz0
          refine (v_swap ?_)
          refine v_widen (m1 := 24 * n + 10 * t + 201) (m2 := 1474 * n + 1000 * t + 10006) (by omega) (by omega) ?_
          refine v_istore (pc' := 578) (lv' := [(5, .int 0), (4, .int (nI j)), (3, .ref oo), (2, .ref (ad2 (0))), (1, .ref (ad (0))), (0, .ref b)]) X dL_law_576 (by decide) rfl rfl ?_
          refine v_aload_n (pc' := 579) (i := 2) (j := 3) X dL_law_578 rfl rfl rfl ?_
          refine v_aload_n (pc' := 580) (i := 0) (j := 5) X dL_law_579 rfl rfl rfl ?_
          refine v_iload (pc' := 582) (j := 1) X dL_law_580 rfl rfl ?_
          refine v_iconst (pc' := 583) (v := 1) X dL_law_582 (by decide) rfl ?_
          refine v_iaddV (pc' := 584) (v := nI (j + 1)) X (nI_add (j) 1) dL_law_583 rfl ?_
          refine s_ld (pc' := 585) X hX hbl hbA (j + 1) rfl (by omega) (by omega) dL_law_584 rfl ?_
          obtain ⟨sz9, pd9, hg9, hts9⟩ := id hU
          refine (v_rot ?_)
          refine v_callVF (pc' := 588) X (st := []) (c_X9_output (ad := ad2) (M := N) hg9 (k := xs (j + 1))) k_X9_output w_ml_L_82 w_im_X9_output w_se_X9_X9_output (rv_M) (by rw [hR]; exact ⟨Nat.le_of_ble_eq_true rfl, Nat.le_of_ble_eq_true rfl⟩) rfl rfl (Nat.le_of_ble_eq_true rfl) dL_law_585 rfl (by rw [hR]; show 24 * n + 10 * t + 201 + 0 ≤ 600128 ∧ 1474 * n + 1000 * t + 10006 + 0 ≤ 7301098; omega) ?_
          rintro _ _ ⟨rfl, rfl⟩
          refine (v_rtb ?_)
          refine v_istore (pc' := 590) (lv' := [(6, .int ((fOutp N (xs (j + 1))).2)), (5, .int 0), (4, .int (nI j)), (3, .ref oo), (2, .ref (ad2 (0))), (1, .ref (ad (0))), (0, .ref b)]) X dL_law_588 (by decide) rfl rfl ?_
          refine v_aload_n (pc' := 591) (i := 2) (j := 4) X dL_law_590 rfl rfl rfl ?_
          refine (v_rot ?_)
          refine v_callVF (pc' := 594) X (st := []) (c_X9_thrown (ad := ad2) (M := (mI N 0 0 (fOutp N (xs (j + 1))).1))) k_X9_thrown w_ml_L_56 w_im_X9_thrown w_se_X9_X9_thrown (rv_M) (by rw [hR]; exact ⟨Nat.le_of_ble_eq_true rfl, Nat.le_of_ble_eq_true rfl⟩) rfl rfl (Nat.le_of_ble_eq_true rfl) dL_law_591 rfl (by rw [hR]; show 24 * n + 10 * t + 201 + 0 ≤ 600128 ∧ 1474 * n + 1000 * t + 10006 + 0 ≤ 7301098; omega) ?_
          rintro _ _ ⟨rfl, rfl⟩
          refine (v_rtb ?_)
          rw [hT0]
          refine v_iload (pc' := 596) (j := 1) X dL_law_594 rfl rfl ?_
          refine v_icmp_eq (pc' := 599) (tgt := 601) X dL_law_596 (by decide) rfl (fun _ => ?_) (fun hc_596 => absurd (by decide) hc_596)
          refine v_iload (pc' := 603) (j := 1) X dL_law_601 rfl rfl ?_
          refine v_if_ne (pc' := 606) (tgt := 618) X dL_law_603 (by decide) rfl (fun hc_603 => absurd (by decide) hc_603) (fun _ => ?_)
          refine v_aload_n (pc' := 607) (i := 3) (j := 3) X dL_law_606 rfl rfl rfl ?_
          refine v_iconst (pc' := 608) (v := 0) X dL_law_607 (by decide) rfl ?_
          refine s_out (pc' := 609) X dL_law_608 rfl ?_
          refine v_iload (pc' := 611) (j := 0) X dL_law_609 rfl rfl ?_
          refine v_i2l (pc' := 612) X dL_law_611 rfl rfl ?_
          refine v_lcmp (pc' := 613) X dL_law_612 rfl ?_
          refine v_lif_eq (pc' := 616) (tgt := 618) X dL_law_613 (by decide) rfl (fun _ => ?_) (fun hc_613 => absurd rfl hc_613)
          refine v_goto (pc' := 659) X dL_law_618 (by decide) ?_
          refine v_iinc (pc' := 662) (j := 2) (v := nI (j + 5)) (lv' := [(4, .int (nI (j + 5))), (6, .int ((fOutp N (xs (j + 1))).2)), (5, .int 0), (3, .ref oo), (2, .ref (ad2 (0))), (1, .ref (ad (0))), (0, .ref b)]) X dL_law_659 rfl (nI_add (j) 5) (by decide) rfl rfl ?_
          refine v_goto (pc' := 23) X dL_law_662 (by decide) ?_
          refine v_sub (lv' := [(4, .int (nI (j + 5))), (3, .ref oo), (2, .ref (ad2 (0))), (1, .ref (ad (0))), (0, .ref b)]) [0, 3, 4, 5, 6] rfl ?_
          refine v_widen (m1 := 24 * n + 10 * (t + 1) + 200) (m2 := 1474 * n + 1000 * (t + 1) + 10000) (by omega) (by omega) ?_
          exact ih (j + 5) (t + 1) _ _ _ _ _ _ _ _ _ _ (by omega) (by omega) (by omega) (by omega) hS2 hU2 hq hcp hz4 (by omega)
          -- output 1
        · have hS2 : Sm G (mI N 0 0 (fOutp N (xs (j + 1))).1) n s := z_thr hS
          have hU2 : IU (mI N 0 0 (fOutp N (xs (j + 1))).1) n us := iu_cnt hU (by decide)
          have hT0 : (mI N 0 0 (fOutp N (xs (j + 1))).1).1 0 0 = 1 := by rw [hF]; exact mI_s _ _ _ _
          refine (v_swap ?_)
          refine v_widen (m1 := 24 * n + 10 * t + 201) (m2 := 1474 * n + 1000 * t + 10006) (by omega) (by omega) ?_
          refine v_istore (pc' := 578) (lv' := [(5, .int 1), (4, .int (nI j)), (3, .ref oo), (2, .ref (ad2 (0))), (1, .ref (ad (0))), (0, .ref b)]) X dL_law_576 (by decide) rfl rfl ?_
          refine v_aload_n (pc' := 579) (i := 2) (j := 3) X dL_law_578 rfl rfl rfl ?_
          refine v_aload_n (pc' := 580) (i := 0) (j := 5) X dL_law_579 rfl rfl rfl ?_
          refine v_iload (pc' := 582) (j := 1) X dL_law_580 rfl rfl ?_
          refine v_iconst (pc' := 583) (v := 1) X dL_law_582 (by decide) rfl ?_
          refine v_iaddV (pc' := 584) (v := nI (j + 1)) X (nI_add (j) 1) dL_law_583 rfl ?_
          refine s_ld (pc' := 585) X hX hbl hbA (j + 1) rfl (by omega) (by omega) dL_law_584 rfl ?_
          obtain ⟨sz9, pd9, hg9, hts9⟩ := id hU
          refine (v_rot ?_)
          refine v_callVF (pc' := 588) X (st := []) (c_X9_output (ad := ad2) (M := N) hg9 (k := xs (j + 1))) k_X9_output w_ml_L_82 w_im_X9_output w_se_X9_X9_output (rv_M) (by rw [hR]; exact ⟨Nat.le_of_ble_eq_true rfl, Nat.le_of_ble_eq_true rfl⟩) rfl rfl (Nat.le_of_ble_eq_true rfl) dL_law_585 rfl (by rw [hR]; show 24 * n + 10 * t + 201 + 0 ≤ 600128 ∧ 1474 * n + 1000 * t + 10006 + 0 ≤ 7301098; omega) ?_
          rintro _ _ ⟨rfl, rfl⟩
          refine (v_rtb ?_)
          refine v_istore (pc' := 590) (lv' := [(6, .int ((fOutp N (xs (j + 1))).2)), (5, .int 1), (4, .int (nI j)), (3, .ref oo), (2, .ref (ad2 (0))), (1, .ref (ad (0))), (0, .ref b)]) X dL_law_588 (by decide) rfl rfl ?_
          refine v_aload_n (pc' := 591) (i := 2) (j := 4) X dL_law_590 rfl rfl rfl ?_
          refine (v_rot ?_)
          refine v_callVF (pc' := 594) X (st := []) (c_X9_thrown (ad := ad2) (M := (mI N 0 0 (fOutp N (xs (j + 1))).1))) k_X9_thrown w_ml_L_56 w_im_X9_thrown w_se_X9_X9_thrown (rv_M) (by rw [hR]; exact ⟨Nat.le_of_ble_eq_true rfl, Nat.le_of_ble_eq_true rfl⟩) rfl rfl (Nat.le_of_ble_eq_true rfl) dL_law_591 rfl (by rw [hR]; show 24 * n + 10 * t + 201 + 0 ≤ 600128 ∧ 1474 * n + 1000 * t + 10006 + 0 ≤ 7301098; omega) ?_
          rintro _ _ ⟨rfl, rfl⟩
          refine (v_rtb ?_)
          rw [hT0]
          refine v_iload (pc' := 596) (j := 1) X dL_law_594 rfl rfl ?_
          refine v_icmp_eq (pc' := 599) (tgt := 601) X dL_law_596 (by decide) rfl (fun _ => ?_) (fun hc_596 => absurd (by decide) hc_596)
          refine v_iload (pc' := 603) (j := 1) X dL_law_601 rfl rfl ?_
          refine v_if_ne (pc' := 606) (tgt := 618) X dL_law_603 (by decide) rfl (fun _ => ?_) (fun hc_603 => absurd hc_603 (by decide))
          refine v_goto (pc' := 659) X dL_law_618 (by decide) ?_
          refine v_iinc (pc' := 662) (j := 2) (v := nI (j + 5)) (lv' := [(4, .int (nI (j + 5))), (6, .int ((fOutp N (xs (j + 1))).2)), (5, .int 1), (3, .ref oo), (2, .ref (ad2 (0))), (1, .ref (ad (0))), (0, .ref b)]) X dL_law_659 rfl (nI_add (j) 5) (by decide) rfl rfl ?_
          refine v_goto (pc' := 23) X dL_law_662 (by decide) ?_
          refine v_sub (lv' := [(4, .int (nI (j + 5))), (3, .ref oo), (2, .ref (ad2 (0))), (1, .ref (ad (0))), (0, .ref b)]) [0, 3, 4, 5, 6] rfl ?_
          refine v_widen (m1 := 24 * n + 10 * (t + 1) + 200) (m2 := 1474 * n + 1000 * (t + 1) + 10000) (by omega) (by omega) ?_
          exact ih (j + 5) (t + 1) _ _ _ _ _ _ _ _ _ _ (by omega) (by omega) (by omega) (by omega) hS2 hU2 hq hcp hz4 (by omega)
      · refine v_tableIn (off := 582) (tgt := 621) X dL_law_39 (by decide) (by decide) (by decide) (by decide) ?_
        refine v_aload_n (pc' := 622) (i := 1) (j := 3) X dL_law_621 rfl rfl rfl ?_
        refine v_eqw (List.append_assoc _ _ _) ?_
        refine v_callVF (pc' := 625) X (st := []) (c_X7_collect hS hU hq) k_X7_collect w_ml_L_83 w_im_X7_collect w_se_X7_X7_collect rw_X7 (by rw [hR]; exact ⟨Nat.le_of_ble_eq_true rfl, Nat.le_of_ble_eq_true rfl⟩) rfl rfl (Nat.le_of_ble_eq_true rfl) dL_law_622 rfl (by rw [hR]; show 24 * n + 10 * t + 200 + 0 ≤ 600128 ∧ 1474 * n + 1000 * t + 10000 + 0 ≤ 7301098; omega) ?_
        rintro _ _ ⟨rfl, G9, rfl, hS2⟩
        refine v_eqw (List.append_assoc _ _ _).symm ?_
        obtain ⟨u2, -, -, hU2⟩ := iu_gather (iu_cnt (k := 0) (v := 0) hU (by decide))
        refine v_aload_n (pc' := 626) (i := 2) (j := 2) X dL_law_625 rfl rfl rfl ?_
        refine (v_rot ?_)
        refine v_callVF (pc' := 629) X (st := [.int ((fGather (mI N 0 0 0) n us).1 0 3)]) (c_X9_collect (ad := ad2) (M := N) hU) k_X9_collect w_ml_L_86 w_im_X9_collect w_se_X9_X9_collect (rv_M) (by rw [hR]; exact ⟨Nat.le_of_ble_eq_true rfl, Nat.le_of_ble_eq_true rfl⟩) rfl rfl (Nat.le_of_ble_eq_true rfl) dL_law_626 rfl (by rw [hR]; show 24 * n + 10 * t + 200 + 0 ≤ 600128 ∧ 1474 * n + 1000 * t + 10000 + 0 ≤ 7301098; omega) ?_
        rintro _ _ ⟨rfl, rfl⟩
        refine (v_rtb ?_)
        refine v_icmp_eq (pc' := 632) (tgt := 659) X dL_law_629 (by decide) rfl (fun _ => ?_) (fun hc_629 => absurd rfl hc_629)
        refine v_iinc (pc' := 662) (j := 0) (v := nI (j + 5)) (lv' := [(4, .int (nI (j + 5))), (3, .ref oo), (2, .ref (ad2 (0))), (1, .ref (ad (0))), (0, .ref b)]) X dL_law_659 rfl (nI_add (j) 5) (by decide) rfl rfl ?_
        refine v_goto (pc' := 23) X dL_law_662 (by decide) ?_
        refine v_sub (lv' := [(4, .int (nI (j + 5))), (3, .ref oo), (2, .ref (ad2 (0))), (1, .ref (ad (0))), (0, .ref b)]) [0, 1, 2, 3, 4] rfl ?_
        refine v_widen (m1 := 24 * n + 10 * (t + 1) + 200) (m2 := 1474 * n + 1000 * (t + 1) + 10000) (by omega) (by omega) ?_
        exact ih (j + 5) (t + 1) _ _ _ _ _ _ _ _ _ _ (by omega) (by omega) (by omega) (by omega) hS2 hU2 hq hcp hz4 (by omega)
      · refine v_tableIn (off := 595) (tgt := 634) X dL_law_39 (by decide) (by decide) (by decide) (by decide) ?_
        refine v_aload_n (pc' := 635) (i := 1) (j := 3) X dL_law_634 rfl rfl rfl ?_
        refine v_aload_n (pc' := 636) (i := 0) (j := 4) X dL_law_635 rfl rfl rfl ?_
        refine v_iload (pc' := 638) (j := 0) X dL_law_636 rfl rfl ?_
        refine v_iconst (pc' := 639) (v := 1) X dL_law_638 (by decide) rfl ?_
        refine v_iaddV (pc' := 640) (v := nI (j + 1)) X (nI_add (j) 1) dL_law_639 rfl ?_
        refine s_ld (pc' := 641) X hX hbl hbA (j + 1) rfl (by omega) (by omega) dL_law_640 rfl ?_
        refine v_eqw (List.append_assoc _ _ _) ?_
        refine v_callVF (pc' := 644) X (st := []) (c_X7_count hS hU hq (what := xs (j + 1))) k_X7_count w_ml_L_87 w_im_X7_count w_se_X7_X7_count rw_X7 (by rw [hR]; exact ⟨Nat.le_of_ble_eq_true rfl, Nat.le_of_ble_eq_true rfl⟩) rfl rfl (Nat.le_of_ble_eq_true rfl) dL_law_641 rfl (by rw [hR]; show 24 * n + 10 * t + 200 + 0 ≤ 600128 ∧ 1474 * n + 1000 * t + 10000 + 0 ≤ 7301098; omega) ?_
        rintro _ _ ⟨rfl, rfl⟩
        refine v_eqw (List.append_assoc _ _ _).symm ?_
        refine v_aload_n (pc' := 645) (i := 2) (j := 2) X dL_law_644 rfl rfl rfl ?_
        refine v_aload_n (pc' := 646) (i := 0) (j := 4) X dL_law_645 rfl rfl rfl ?_
        refine v_iload (pc' := 648) (j := 0) X dL_law_646 rfl rfl ?_
        refine v_iconst (pc' := 649) (v := 1) X dL_law_648 (by decide) rfl ?_
        refine v_iaddV (pc' := 650) (v := nI (j + 1)) X (nI_add (j) 1) dL_law_649 rfl ?_
        refine s_ld (pc' := 651) X hX hbl hbA (j + 1) rfl (by omega) (by omega) dL_law_650 rfl ?_
        obtain ⟨sz9, pd9, hg9, hts9⟩ := id hU
        refine (v_rot ?_)
        refine v_callVF (pc' := 654) X (st := [.int (fCount N n (xs (j + 1)))]) (c_X9_count (ad := ad2) (M := N) hg9 (what := xs (j + 1))) k_X9_count w_ml_L_90 w_im_X9_count w_se_X9_X9_count (rv_M) (by rw [hR]; exact ⟨Nat.le_of_ble_eq_true rfl, Nat.le_of_ble_eq_true rfl⟩) rfl rfl (Nat.le_of_ble_eq_true rfl) dL_law_651 rfl (by rw [hR]; show 24 * n + 10 * t + 200 + 0 ≤ 600128 ∧ 1474 * n + 1000 * t + 10000 + 0 ≤ 7301098; omega) ?_
        rintro _ _ ⟨rfl, rfl⟩
        refine (v_rtb ?_)
        have hS2 : Sm G (mI N 0 0 0) n s := z_thr hS
        have hU2 : IU (mI N 0 0 0) n us := iu_cnt hU (by decide)
        refine v_icmp_eq (pc' := 657) (tgt := 659) X dL_law_654 (by decide) rfl (fun _ => ?_) (fun hc_654 => absurd rfl hc_654)
        refine v_iinc (pc' := 662) (j := 0) (v := nI (j + 5)) (lv' := [(4, .int (nI (j + 5))), (3, .ref oo), (2, .ref (ad2 (0))), (1, .ref (ad (0))), (0, .ref b)]) X dL_law_659 rfl (nI_add (j) 5) (by decide) rfl rfl ?_
        refine v_goto (pc' := 23) X dL_law_662 (by decide) ?_
        refine v_sub (lv' := [(4, .int (nI (j + 5))), (3, .ref oo), (2, .ref (ad2 (0))), (1, .ref (ad (0))), (0, .ref b)]) [0, 1, 2, 3, 4] rfl ?_
        refine v_widen (m1 := 24 * n + 10 * (t + 1) + 200) (m2 := 1474 * n + 1000 * (t + 1) + 10000) (by omega) (by omega) ?_
        exact ih (j + 5) (t + 1) _ _ _ _ _ _ _ _ _ _ (by omega) (by omega) (by omega) (by omega) hS2 hU2 hq hcp hz4 (by omega)
      · refine v_tableOut (tgt := 659) X dL_law_39 hsw (by decide) ?_
        refine v_iinc (pc' := 662) (j := 0) (v := nI (j + 5)) (lv' := [(4, .int (nI (j + 5))), (3, .ref oo), (2, .ref (ad2 (0))), (1, .ref (ad (0))), (0, .ref b)]) X dL_law_659 rfl (nI_add (j) 5) (by decide) rfl rfl ?_
        refine v_goto (pc' := 23) X dL_law_662 (by decide) ?_
        refine v_sub (lv' := [(4, .int (nI (j + 5))), (3, .ref oo), (2, .ref (ad2 (0))), (1, .ref (ad (0))), (0, .ref b)]) [0, 1, 2, 3, 4] rfl ?_
        refine v_widen (m1 := 24 * n + 10 * (t + 1) + 200) (m2 := 1474 * n + 1000 * (t + 1) + 10000) (by omega) (by omega) ?_
        exact ih (j + 5) (t + 1) _ _ _ _ _ _ _ _ _ _ (by omega) (by omega) (by omega) (by omega) hS hU hq hcp hz4 (by omega)
