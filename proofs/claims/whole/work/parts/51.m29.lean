/-! THE CLASS'S COLLECTION: FORGETTING; LISTS READ -/
/-- registers from k0 on (below e) that refer to a place are 0 -/
def fgR (row : Nat → Int64) (k0 e : Nat) : Nat → Int64 := fun q => if k0 ≤ q ∧ q < e ∧ ¬ row q < 8589934592 then 0 else row q
theorem fgR_0 {row : Nat → Int64} {k0 : Nat} : fgR row k0 k0 = row := by
  funext q; exact if_neg (fun z9 => by omega)
theorem fgR_s {row : Nat → Int64} {k0 k : Nat} (hk : k0 ≤ k) (h : ¬ row k < 8589934592) : vp_updL (fgR row k0 k) k 0 = fgR row k0 (k + 1) := by
  funext q
  show (if q = k then (0 : Int64) else fgR row k0 k q) = _
  unfold fgR
  by_cases h1 : q = k
  · subst h1; rw [if_pos rfl, if_pos ⟨hk, Nat.lt_succ_self q, h⟩]
  · rw [if_neg h1]
    by_cases h2 : k0 ≤ q ∧ q < k ∧ ¬ row q < 8589934592
    · rw [if_pos h2, if_pos ⟨h2.1, by omega, h2.2.2⟩]
    · rw [if_neg h2, if_neg (fun z9 => h2 ⟨z9.1, by omega, z9.2.2⟩)]
theorem fgR_n {row : Nat → Int64} {k0 k : Nat} (h : row k < 8589934592) : fgR row k0 k = fgR row k0 (k + 1) := by
  funext q
  unfold fgR
  by_cases h1 : q = k
  · subst h1; rw [if_neg (fun z9 => z9.2.2 h), if_neg (fun z9 => z9.2.2 h)]
  · by_cases h2 : k0 ≤ q ∧ q < k ∧ ¬ row q < 8589934592
    · rw [if_pos h2, if_pos ⟨h2.1, by omega, h2.2.2⟩]
    · rw [if_neg h2, if_neg (fun z9 => h2 ⟨z9.1, by omega, z9.2.2⟩)]
set_option maxHeartbeats 4000000 in
set_option maxRecDepth 100000 in
theorem c_X6_forgetPlacesFrom {l : Launch} {D : va_G} {Y : Nat → ClassId} {zz : Nat → Nat} {n s cp cq : Nat} {ad : Nat → Nat} {M : vM} {i k0 : Nat} (hi : i < n) (h16 : i < 16) (hk16 : k0 ≤ 16) : Ct l D Y zz yX6_forgetPlacesFrom cX6_forgetPlacesFrom 3 none 0 0 [.ref (ad (tb i)), .int (nI k0)] (wK Y n s cp cq ad M) 0 0 (fun r w => r = none ∧ w = wK Y n s cp cq ad (mRL M (tb i + 8) (fgR (M.2 (tb i + 8)) k0 16))) := by
  refine v_entry (by decide +kernel) (Nat.le_of_ble_eq_true rfl) ?_
  intro K X R hR hnm hl hD hY hz
  subst hl hD hY hz
  refine v_sub (lv' := [(0, .ref (ad (tb i))), (1, .int (nI k0))]) [0, 1] rfl ?_
  refine v_iload_n (pc' := 1) (i := 1) (j := 1) X dX6_forgetPlacesFrom_0 rfl rfl rfl ?_
  refine v_istore_n (pc' := 2) (i := 2) (lv' := [(2, .int (nI k0)), (0, .ref (ad (tb i))), (1, .int (nI k0))]) X dX6_forgetPlacesFrom_1 rfl (by decide) rfl rfl ?_
  have hloop : ∀ (dd_hloop : Nat) (k : Nat), 16 - k < dd_hloop → (k0 ≤ k) → (k ≤ 16) → V K 3 (wK (kY K) n s cp cq ad (mRL M (tb i + 8) (fgR (M.2 (tb i + 8)) k0 k))) 0 0 2 [(2, .int (nI k)), (1, .int (nI k0)), (0, .ref (ad (tb i)))] [] := by
    intro dd_hloop
    induction dd_hloop with
    | zero => intro k hlt_hloop; exact absurd hlt_hloop (Nat.not_lt_zero _)
    | succ dd_hloop ih_hloop =>
      intro k hlt_hloop hk0 hk
      refine v_iload_n (pc' := 3) (i := 2) (j := 0) X dX6_forgetPlacesFrom_2 rfl rfl rfl ?_
      refine v_bipush (pc' := 5) (v := 16) X dX6_forgetPlacesFrom_3 (by decide) rfl ?_
      refine v_icmp_ge (pc' := 8) (tgt := 34) X dX6_forgetPlacesFrom_5 (by decide) rfl (fun hc_5 => ?_) (fun hc_5 => ?_)
      -- taken 5
      · refine v_return X R (Nat.zero_le _) (Nat.zero_le _) dX6_forgetPlacesFrom_34 ?_
        obtain rfl : k = 16 := by have hh := le_of_nI (a := 16) hc_5 (by omega) (by omega); omega
        exact ⟨rfl, rfl⟩
      -- not taken 5
      · have hke : k < 16 := by
          rcases Nat.lt_or_ge k 16 with q9 | q9
          · exact q9
          · exact absurd (nI_le q9 (by omega)) hc_5
        refine v_aload_n (pc' := 9) (i := 0) (j := 2) X dX6_forgetPlacesFrom_8 rfl rfl rfl ?_
        refine fk_X6_9 (pc' := 12) X hi h16 dX6_forgetPlacesFrom_9 rfl ?_
        refine v_iload_n (pc' := 13) (i := 2) (j := 0) X dX6_forgetPlacesFrom_12 rfl rfl rfl ?_
        refine ak_G8 (pc' := 14) X hi h16 (v := M.2 (tb i + 8) k) (k) rfl (by omega) (by rw [mRL_r]; exact if_neg (fun z9 => Nat.lt_irrefl k z9.2.1)) dX6_forgetPlacesFrom_13 rfl ?_
        refine v_ldc2 (pc' := 17) (v := 8589934592) X dX6_forgetPlacesFrom_14 w_kl_X6_82 rfl ?_
        refine v_lcmp (pc' := 18) X dX6_forgetPlacesFrom_17 rfl ?_
        refine v_lif_lt (pc' := 21) (tgt := 28) X dX6_forgetPlacesFrom_18 (by decide) rfl (fun hc_18 => ?_) (fun hc_18 => ?_)
        -- taken 18
        · refine v_iinc (pc' := 31) (j := 0) (v := nI (k + 1)) (lv' := [(2, .int (nI (k + 1))), (1, .int (nI k0)), (0, .ref (ad (tb i)))]) X dX6_forgetPlacesFrom_28 rfl (nI_add (k) 1) (by decide) rfl rfl ?_
          refine v_goto (pc' := 2) X dX6_forgetPlacesFrom_31 (by decide) ?_
          refine v_eqw (ws' := wK (kY K) n s cp cq ad (mRL M (tb i + 8) (fgR (M.2 (tb i + 8)) k0 (k + 1)))) (by rw [fgR_n hc_18]) ?_
          exact ih_hloop (k + 1) (by omega) (by omega) (by omega)
        -- not taken 18
        · refine v_aload_n (pc' := 22) (i := 0) (j := 2) X dX6_forgetPlacesFrom_21 rfl rfl rfl ?_
          refine fk_X6_9 (pc' := 25) X hi h16 dX6_forgetPlacesFrom_22 rfl ?_
          refine v_iload_n (pc' := 26) (i := 2) (j := 0) X dX6_forgetPlacesFrom_25 rfl rfl rfl ?_
          refine v_lconst (pc' := 27) (v := 0) X dX6_forgetPlacesFrom_26 (by decide) rfl ?_
          refine aq_G8 (pc' := 28) X hi h16 (k) rfl (by omega) dX6_forgetPlacesFrom_27 rfl ?_
          refine v_iinc (pc' := 31) (j := 0) (v := nI (k + 1)) (lv' := [(2, .int (nI (k + 1))), (1, .int (nI k0)), (0, .ref (ad (tb i)))]) X dX6_forgetPlacesFrom_28 rfl (nI_add (k) 1) (by decide) rfl rfl ?_
          refine v_goto (pc' := 2) X dX6_forgetPlacesFrom_31 (by decide) ?_
          refine v_eqw (ws' := wK (kY K) n s cp cq ad (mRL M (tb i + 8) (fgR (M.2 (tb i + 8)) k0 (k + 1)))) (by rw [mL_mRL, fgR_s hk0 (Int64.not_lt.mpr hc_18)]) ?_
          exact ih_hloop (k + 1) (by omega) (by omega) (by omega)
  refine v_eqw (ws' := wK (kY K) n s cp cq ad (mRL M (tb i + 8) (fgR (M.2 (tb i + 8)) k0 k0))) (by rw [fgR_0, mRL_self]) ?_
  refine v_sub (lv' := [(2, .int (nI k0)), (1, .int (nI k0)), (0, .ref (ad (tb i)))]) [0, 2, 1] rfl ?_
  exact hloop _ k0 (Nat.lt_succ_self _) (Nat.le_refl _) hk16
