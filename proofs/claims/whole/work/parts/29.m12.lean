/-! FORK: the walk (reference) -/
theorem vcp_s00 (s : Nat → Int64) (j : Nat) (d : Nat → Int64) : vp_updL (vcp s 0 0 j d) j (s j) = vcp s 0 0 (j + 1) d := by
  have hh := vcp_sL0 s 0 j d
  rwa [Nat.zero_add] at hh
theorem fork_mem {M : vM} {i n jx : Nat} (hi : i < n) {v : Int64} {y : Int32} : mI (mRL (mL (fNewT M (tb n) (fun _ => 0) 0) (tb i + 8) jx v) (tb n + 8) (vcp ((mL (fNewT M (tb n) (fun _ => 0) 0) (tb i + 8) jx v).2 (tb i + 8)) 0 0 16 ((mL (fNewT M (tb n) (fun _ => 0) 0) (tb i + 8) jx v).2 (tb n + 8)))) (tb n) 2 y = fNewT (mL M (tb i + 8) jx v) (tb n) (fun k => if k < 16 then (mL M (tb i + 8) jx v).2 (tb i + 8) k else 0) y := by
  have hne : tb i + 8 ≠ tb n + 8 := by unfold tb; omega
  have e2 : (fNewT M (tb n) (fun _ => 0) 0).2 (tb i + 8) = M.2 (tb i + 8) := by
    show (if tb i + 8 = tb n + 8 then _ else if tb i + 8 = tb n + 9 ∨ (tb n + 15 ≤ tb i + 8 ∧ tb i + 8 ≤ tb n + 17) then _ else M.2 (tb i + 8)) = _
    rw [if_neg hne, if_neg (by unfold tb; omega)]
  apply Prod.ext
  · funext c
    show va_up (fNewT M (tb n) (fun _ => 0) 0).1 (tb n) (upd ((fNewT M (tb n) (fun _ => 0) 0).1 (tb n)) 2 y) c = (if c = tb n then (fun k => if k = 0 then 1 else if k = 2 then y else 0) else if tb n + 10 ≤ c ∧ c ≤ tb n + 14 then (fun _ => 0) else M.1 c)
    by_cases hc : c = tb n
    · subst hc
      rw [va_up_self, if_pos rfl]
      have e1 : (fNewT M (tb n) (fun _ => 0) 0).1 (tb n) = (fun k => if k = 0 then 1 else if k = 2 then 0 else 0) := if_pos rfl
      rw [e1]
      funext k
      show (if k = 2 then y else if k = 0 then 1 else if k = 2 then 0 else 0) = _
      by_cases h0 : k = 0
      · subst h0; rfl
      · rw [if_neg h0, if_neg h0]
        by_cases h2 : k = 2
        · rw [if_pos h2, if_pos h2]
        · rw [if_neg h2, if_neg h2, if_neg h2]
    · rw [va_up_ne _ _ hc, if_neg hc]
      show (if c = tb n then _ else if tb n + 10 ≤ c ∧ c ≤ tb n + 14 then _ else M.1 c) = _
      rw [if_neg hc]
  · funext c
    show va_up (va_up (fNewT M (tb n) (fun _ => 0) 0).2 (tb i + 8) (vp_updL ((fNewT M (tb n) (fun _ => 0) 0).2 (tb i + 8)) jx v)) (tb n + 8) (vcp ((mL (fNewT M (tb n) (fun _ => 0) 0) (tb i + 8) jx v).2 (tb i + 8)) 0 0 16 ((mL (fNewT M (tb n) (fun _ => 0) 0) (tb i + 8) jx v).2 (tb n + 8))) c = (if c = tb n + 8 then _ else if c = tb n + 9 ∨ (tb n + 15 ≤ c ∧ c ≤ tb n + 17) then _ else va_up M.2 (tb i + 8) (vp_updL (M.2 (tb i + 8)) jx v) c)
    by_cases hc : c = tb n + 8
    · subst hc
      rw [va_up_self, if_pos rfl, mL_r, mL_r, e2, mL_n _ _ _ _ (fun z9 => hne z9.symm)]
      have e3 : (fNewT M (tb n) (fun _ => 0) 0).2 (tb n + 8) = (fun _ => 0) := if_pos rfl
      rw [e3]
      funext k
      unfold vcp
      by_cases hk : k < 16
      · rw [if_pos ⟨Nat.zero_le _, by omega⟩, if_pos hk]; congr 1; omega
      · rw [if_neg (by omega), if_neg hk]
    · rw [va_up_ne _ _ hc, if_neg hc]
      by_cases hc2 : c = tb i + 8
      · subst hc2
        rw [va_up_self, e2, if_neg (by unfold tb; omega), va_up_self]
      · rw [va_up_ne _ _ hc2, va_up_ne _ _ hc2]
        show (if c = tb n + 8 then _ else if c = tb n + 9 ∨ (tb n + 15 ≤ c ∧ c ≤ tb n + 17) then _ else M.2 c) = _
        rw [if_neg hc]
set_option maxHeartbeats 4000000 in
set_option maxRecDepth 100000 in
theorem c_X9_outer_25 {l : Launch} {D : va_G} {Y : Nat → ClassId} {zz : Nat → Nat} {n sz us pd : Nat} {ad : Nat → Nat} {M : vM} {i ca e r w : Nat} (hi : i < n) (hg : gI M n sz us pd) (hts : ∀ i, i < n → ∃ ca e r w, tI M us (tb i) ca e r w) (hI : tI M us (tb i) ca e r w) {x y : Int32} (hx1 : x = nI (nn x)) (hx2 : nn x < 16) : Ct l D Y zz yX9_outer cX9_outer 7 (some FieldType.int) 2 32 [.ref (ad (0)), .ref (ad (tb i)), .int 25, .int x, .int y] (wM Y n ad M) ((if n = 16 then 0 else 11)) ((if n = 16 then 0 else 674)) (fun r w => r = some (.int 0) ∧ ∃ ad9 : Nat → Nat, w = wM Y (if n = 16 then n else n + 1) ad9 (fOuter M n (tb i) 25 x y).1 ∧ ∀ c, c < tb n → ad9 c = ad c) := by
  refine v_entry (by decide +kernel) (Nat.le_of_ble_eq_true rfl) ?_
  intro K X R hR hnm hl hD hY hz
  subst hl hD hY hz
  refine v_sub (lv' := [(0, .ref (ad (0))), (1, .ref (ad (tb i))), (2, .int 25), (3, .int x), (4, .int y)]) [0, 1, 2, 3, 4] rfl ?_
  obtain ⟨hsz, hsz2, hn2, hn1, hn16, hus, hus2, hpd, hpd2, h17, hfs, hvi, hgl⟩ := id hg
  obtain ⟨h3, hca, h4, he, h5, hr, h6, hw, hso, huq, hct, hctm, hwt, hwtm, hwt0, hpk, hst, hem, hov, hrg, hsv, hrd, hwr, hva⟩ := id hI
  refine v_iload_n (pc' := 1) (i := 2) (j := 2) X dX9_outer_0 rfl rfl rfl ?_
  refine v_tableIn (off := 27) (tgt := 28) X dX9_outer_1 (by decide) (by decide) (by decide) (by decide) ?_
  refine v_aload_n (pc' := 29) (i := 0) (j := 0) X dX9_outer_28 rfl rfl rfl ?_
  refine fg_X9_7 (pc' := 32) X (v := nI n) hn2 dX9_outer_29 rfl ?_
  refine v_bipush (pc' := 34) (v := 16) X dX9_outer_32 (by decide) rfl ?_
  refine v_icmp_ne (pc' := 37) (tgt := 48) X dX9_outer_34 (by decide) rfl (fun hc_34 => ?_) (fun hc_34 => ?_)
  -- taken 34
  · have hn9 : ¬ n = 16 := fun z9 => hc_34 (congrArg nI z9)
    have hn15 : n < 16 := by omega
    refine v_new (pc' := 51) X inX8 tyX8 tyX8_ok w_cl_X9_26 w_is_X8 w_in_X8 (ci := 7) (fs := [.int 0, .int 0, .int 0, .int 0, .int 0, .int 0, .int 0, .int 0, .null, .null, .null, .null, .null, .null, .null, .null, .null, .null]) rfl (fun j hj => by rcases (show j = 0 ∨ j = 1 ∨ j = 2 ∨ j = 3 ∨ j = 4 ∨ j = 5 ∨ j = 6 ∨ j = 7 ∨ j = 8 ∨ j = 9 ∨ j = 10 ∨ j = 11 ∨ j = 12 ∨ j = 13 ∨ j = 14 ∨ j = 15 ∨ j = 16 ∨ j = 17 by omega) with rfl | rfl | rfl | rfl | rfl | rfl | rfl | rfl | rfl | rfl | rfl | rfl | rfl | rfl | rfl | rfl | rfl | rfl <;> rfl) (by rw [hR]; show 0 + 1 ≤ (if n = 16 then 0 else 11); rw [if_neg hn9]; decide) (by rw [hR]; show 0 + 18 ≤ (if n = 16 then 0 else 674); rw [if_neg hn9]; decide) dX9_outer_48 rfl (fun q0 => ?_)
    refine v_widen (m1 := 1) (m2 := 18) (Nat.le_of_ble_eq_true rfl) (Nat.le_of_ble_eq_true rfl) ?_
    refine v_dup (pc' := 52) X dX9_outer_51 rfl rfl ?_
    refine v_callIN (pc' := 55) X (st := [.ref q0]) (c_X8_init (ws0 := wM (kY K) n ad M) (h0 := q0)) k_X8_init n_ml_X9_58 w_im_X8_init rfl (by rw [hR]; exact ⟨Nat.le_of_ble_eq_true rfl, Nat.le_of_ble_eq_true rfl⟩) rfl rfl (Nat.le_of_ble_eq_true rfl) dX9_outer_52 rfl (by rw [hR]; show 1 + 10 ≤ (if n = 16 then 0 else 11) ∧ 18 + 656 ≤ (if n = 16 then 0 else 674); rw [if_neg hn9, if_neg hn9]; decide) ?_
    rintro _ _ ⟨rfl, q1, q2, q3, q4, q5, q6, q7, q8, q9, q10, rfl⟩
    refine v_widen (m1 := 11) (m2 := 674) (Nat.le_of_ble_eq_true rfl) (Nat.le_of_ble_eq_true rfl) ?_
    obtain ⟨ad9, had9⟩ : ∃ ad9, ad9 = adF ad n q0 q1 q2 q3 q4 q5 q6 q7 q8 q9 q10 := ⟨_, rfl⟩
    have hAn : ad9 (tb n) = q0 := by rw [had9]; exact adF_0
    have hA : ∀ c, c < tb n → ad9 c = ad c := fun c hc => by rw [had9]; exact adF_o hc
    refine v_eqw (ws' := wM2 (kY K) n (n + 1) ad9 (fNewT M (tb n) (fun _ => 0) 0)) (by rw [had9]; exact fork_world) ?_
    show V K 7 _ 11 674 55 [(0, .ref (ad (0))), (1, .ref (ad (tb i))), (2, .int 25), (3, .int x), (4, .int y)] [.ref q0]
    rw [← hAn, ← hA (tb i) (by unfold tb; omega), ← hA 0 (by unfold tb; omega)]
    have hT2 : (fNewT M (tb n) (fun _ => 0) 0).1 0 2 = nI n := by
      show (if 0 = tb n then _ else if tb n + 10 ≤ 0 ∧ 0 ≤ tb n + 14 then _ else M.1 0) 2 = _
      rw [if_neg (by unfold tb; omega), if_neg (by omega)]; exact hn2
    have hT2b : (mL (fNewT M (tb n) (fun _ => 0) 0) (tb i + 8) (nn x) (nI n).toInt64).1 0 2 = nI n := hT2
    refine v_astore (pc' := 57) (lv' := [(5, .ref (ad9 (tb n))), (0, .ref (ad9 (0))), (1, .ref (ad9 (tb i))), (2, .int 25), (3, .int x), (4, .int y)]) X dX9_outer_55 (by decide) rfl rfl ?_
    refine v_aload_n (pc' := 58) (i := 1) (j := 2) X dX9_outer_57 rfl rfl rfl ?_
    refine fg_X9_105N (pc' := 61) X (Nat.lt_succ_of_lt hi) dX9_outer_58 rfl ?_
    refine v_iload_n (pc' := 62) (i := 3) (j := 4) X dX9_outer_61 rfl rfl rfl ?_
    refine v_aload_n (pc' := 63) (i := 0) (j := 1) X dX9_outer_62 rfl rfl rfl ?_
    refine fg_X9_7N (pc' := 66) X (v := nI n) hT2 dX9_outer_63 rfl ?_
    refine v_i2l (pc' := 67) X dX9_outer_66 rfl rfl ?_
    refine as_T8N (pc' := 68) X (Nat.lt_succ_of_lt hi) (nn x) hx1 (by omega) dX9_outer_67 rfl ?_
    generalize hM9 : mL (fNewT M (tb n) (fun _ => 0) 0) (tb i + 8) (nn x) (nI n).toInt64 = M9 at hT2b
    refine v_iconst (pc' := 69) (v := 0) X dX9_outer_68 (by decide) rfl ?_
    refine v_istore (pc' := 71) (lv' := [(6, .int 0), (5, .ref (ad9 (tb n))), (0, .ref (ad9 (0))), (1, .ref (ad9 (tb i))), (2, .int 25), (3, .int x), (4, .int y)]) X dX9_outer_69 (by decide) rfl rfl ?_
    have hloop : ∀ (dd_hloop : Nat) (k : Nat), 16 - k < dd_hloop → (k ≤ 16) → V K 7 (wM2 (kY K) n (n + 1) ad9 (mRL M9 (tb n + 8) (vcp (M9.2 (tb i + 8)) 0 0 k (M9.2 (tb n + 8))))) 11 674 71 [(6, .int (nI k)), (5, .ref (ad9 (tb n))), (0, .ref (ad9 (0))), (1, .ref (ad9 (tb i))), (2, .int 25), (3, .int x), (4, .int y)] [] := by
      intro dd_hloop
      induction dd_hloop with
      | zero => intro k hlt_hloop; exact absurd hlt_hloop (Nat.not_lt_zero _)
      | succ dd_hloop ih_hloop =>
        intro k hlt_hloop hk
        refine v_iload (pc' := 73) (j := 0) X dX9_outer_71 rfl rfl ?_
        refine v_bipush (pc' := 75) (v := 16) X dX9_outer_73 (by decide) rfl ?_
        refine v_icmp_ge (pc' := 78) (tgt := 99) X dX9_outer_75 (by decide) rfl (fun hc_75 => ?_) (fun hc_75 => ?_)
        -- taken 75
        · have hke : k = 16 := by have hh := le_of_nI (a := 16) (b := k) hc_75 (by omega) (by omega); omega
          rw [hke]
          refine v_aload (pc' := 101) (j := 1) X dX9_outer_99 rfl rfl ?_
          refine v_iload (pc' := 103) (j := 6) X dX9_outer_101 rfl rfl ?_
          refine fp_X9_69N (pc' := 106) X (Nat.lt_succ_self n) dX9_outer_103 rfl ?_
          refine v_aload_n (pc' := 107) (i := 0) (j := 2) X dX9_outer_106 rfl rfl rfl ?_
          refine fg_X9_28N (pc' := 110) X dX9_outer_107 rfl ?_
          refine v_aload_n (pc' := 111) (i := 0) (j := 2) X dX9_outer_110 rfl rfl rfl ?_
          refine fg_X9_7N (pc' := 114) X (v := nI n) ((congrFun (mI_n _ _ _ _ (by unfold tb; omega)) _).trans ((congrFun (congrFun (mRL_1 _ _ _) _) _).trans hT2b)) dX9_outer_111 rfl ?_
          refine v_aload (pc' := 116) (j := 1) X dX9_outer_114 rfl rfl ?_
          refine v_forkrow (pc' := 117) X hn15 rfl dX9_outer_116 rfl ?_
          refine v_aload_n (pc' := 118) (i := 0) (j := 2) X dX9_outer_117 rfl rfl rfl ?_
          refine v_dup (pc' := 119) X dX9_outer_118 rfl rfl ?_
          refine fg_X9_7 (pc' := 122) X (v := nI n) ((congrFun (mI_n _ _ _ _ (by unfold tb; omega)) _).trans ((congrFun (congrFun (mRL_1 _ _ _) _) _).trans hT2b)) dX9_outer_119 rfl ?_
          refine v_iconst (pc' := 123) (v := 1) X dX9_outer_122 (by decide) rfl ?_
          refine v_iaddV (pc' := 124) (v := nI (n + 1)) X (nI_add (n) 1) dX9_outer_123 rfl ?_
          refine fp_X9_7 (pc' := 127) X dX9_outer_124 rfl ?_
          refine v_iconst (pc' := 128) (v := 0) X dX9_outer_127 (by decide) rfl ?_
          refine v_ireturn X R (by rw [if_neg hn9]; decide) (by rw [if_neg hn9]; decide) dX9_outer_128 ?_
          refine ⟨rfl, ad9, ?_, hA⟩
          show _ = wM (kY K) (if n = 16 then n else n + 1) ad9 (fFork M n (tb i) x y)
          rw [if_neg hn9, fFork, if_neg hn9]
          subst hM9
          rw [fork_mem hi]
        -- not taken 75
        · have hk2 : k < 16 := by
            rcases Nat.lt_or_ge k 16 with q9 | q9
            · exact q9
            · exact absurd (nI_le q9 (by omega)) hc_75
          refine v_aload (pc' := 80) (j := 1) X dX9_outer_78 rfl rfl ?_
          refine fg_X9_105N (pc' := 83) X (Nat.lt_succ_self n) dX9_outer_80 rfl ?_
          refine v_iload (pc' := 85) (j := 0) X dX9_outer_83 rfl rfl ?_
          refine v_aload_n (pc' := 86) (i := 1) (j := 3) X dX9_outer_85 rfl rfl rfl ?_
          refine fg_X9_105N (pc' := 89) X (Nat.lt_succ_of_lt hi) dX9_outer_86 rfl ?_
          refine v_iload (pc' := 91) (j := 0) X dX9_outer_89 rfl rfl ?_
          refine ag_T8N (pc' := 92) X (Nat.lt_succ_of_lt hi) (v := M9.2 (tb i + 8) k) (k) rfl (by omega) (congrFun (mRL_n _ _ _ (by unfold tb; omega)) _) dX9_outer_91 rfl ?_
          refine as_T8N (pc' := 93) X (Nat.lt_succ_self n) (k) rfl (by omega) dX9_outer_92 rfl ?_
          refine v_iinc (pc' := 96) (j := 0) (v := nI (k + 1)) (lv' := [(6, .int (nI (k + 1))), (5, .ref (ad9 (tb n))), (0, .ref (ad9 (0))), (1, .ref (ad9 (tb i))), (2, .int 25), (3, .int x), (4, .int y)]) X dX9_outer_93 rfl (nI_add (k) 1) (by decide) rfl rfl ?_
          refine v_goto (pc' := 71) X dX9_outer_96 (by decide) ?_
          refine v_eqw (ws' := wM2 (kY K) n (n + 1) ad9 (mRL M9 (tb n + 8) (vcp (M9.2 (tb i + 8)) 0 0 (k + 1) (M9.2 (tb n + 8))))) (by rw [mL_mRL, vcp_s00]) ?_
          exact ih_hloop (k + 1) (by omega) (by omega)
    refine v_eqw (ws' := wM2 (kY K) n (n + 1) ad9 (mRL M9 (tb n + 8) (vcp (M9.2 (tb i + 8)) 0 0 0 (M9.2 (tb n + 8))))) (by rw [vcp_0, mRL_self]) ?_
    exact hloop _ 0 (Nat.lt_succ_self _) (Nat.zero_le _)
  -- not taken 34
  · refine v_aload_n (pc' := 38) (i := 1) (j := 1) X dX9_outer_37 rfl rfl rfl ?_
    refine fg_X9_105 (pc' := 41) X hi dX9_outer_38 rfl ?_
    refine v_iload_n (pc' := 42) (i := 3) (j := 3) X dX9_outer_41 rfl rfl rfl ?_
    refine v_ldc2 (pc' := 45) (v := -1) X dX9_outer_42 w_kl_X9_214 rfl ?_
    refine as_T8 (pc' := 46) X hi (nn x) hx1 (by omega) dX9_outer_45 rfl ?_
    refine v_iconst (pc' := 47) (v := 0) X dX9_outer_46 (by decide) rfl ?_
    have hn9 : n = 16 := eq_of_nI (b := 16) hc_34 (by omega) (by decide)
    refine v_ireturn X R (Nat.zero_le _) (Nat.zero_le _) dX9_outer_47 ?_
    refine ⟨rfl, ad, ?_, fun _ _ => rfl⟩
    show _ = wM (kY K) (if n = 16 then n else n + 1) ad (fFork M n (tb i) x y)
    rw [if_pos hn9, fFork, if_pos hn9]
