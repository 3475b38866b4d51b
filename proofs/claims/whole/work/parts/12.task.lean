/-! THE TASK'S METHODS (reference) -/
/-- registers and calls as they were when nest k began -/
def fRestore (M : vM) (b k : Nat) : vM := mRL (mI M b 3 (M.1 (b + 13) k)) (b + 8) (vcp (M.2 (b + 9)) (16 * k) 0 16 (M.2 (b + 8)))
def fNest (M : vM) (b e : Nat) (kind to : Int32) : vM := mI (mRL (mI (mI (mI (mI M (b + 11) e kind) (b + 12) e to) (b + 13) e (M.1 b 3)) (b + 14) e (M.1 b 6)) (b + 9) (vcp (M.2 (b + 8)) 0 (16 * e) 16 (M.2 (b + 9)))) b 4 (nI (e + 1))
def fRollBack (M : vM) (b k : Nat) : vM := mI (mI (mI (fRestore M b k) b 6 (M.1 (b + 14) k)) b 4 (nI k)) b 2 (M.1 (b + 12) k)
def fAgain (M : vM) (b k : Nat) (clock : Int32) : vM := mI (mI (mI (mI (mI (mI (fRestore M b k) b 4 (nI (k + 1))) b 5 0) b 6 0) b 7 clock) b 2 (M.1 (b + 12) k)) b 0 1
def fEnd (M : vM) (b : Nat) (how why : Int32) : vM := mI (mI (mI (mI (mI M b 0 how) b 1 why) b 4 0) b 5 0) b 6 0
/-- the atomic nest's number, or -1, among e nests with sorts s -/
def aAt (s : Nat → Int32) (e : Nat) (r : Int32) : Prop := (∃ k, k < e ∧ s k = 0 ∧ (∀ j, j < k → s j ≠ 0) ∧ r = nI k) ∨ ((∀ j, j < e → s j ≠ 0) ∧ r = -1)
theorem aAt_eq {s : Nat → Int32} {e k : Nat} {r : Int32} (h : aAt s e r) (hk : k < e) (h0 : s k = 0) (hj : ∀ j, j < k → s j ≠ 0) : r = nI k := by
  rcases h with ⟨q, h1, h2, h3, h4⟩ | ⟨h1, -⟩
  · rcases Nat.lt_trichotomy q k with c9 | c9 | c9
    · exact absurd h2 (hj q c9)
    · rw [h4, c9]
    · exact absurd h0 (h3 k c9)
  · exact absurd h0 (h1 k hk)
/-- whether v is among the first e of f -/
def aIn (f : Nat → Int64) (e : Nat) (v : Int64) (r : Int32) : Prop := (r = 1 ∧ ∃ k, k < e ∧ f k = v) ∨ (r = 0 ∧ ∀ k, k < e → f k ≠ v)
theorem vcp_sL0 (s : Nat → Int64) (p j : Nat) (d : Nat → Int64) : vp_updL (vcp s p 0 j d) j (s (p + j)) = vcp s p 0 (j + 1) d := by
  have hh := vcp_sL s p 0 j d
  rwa [Nat.zero_add] at hh
theorem vcp_sLp (s : Nat → Int64) (o j : Nat) (d : Nat → Int64) : vp_updL (vcp s 0 o j d) (o + j) (s j) = vcp s 0 o (j + 1) d := by
  have hh := vcp_sL s 0 o j d
  rwa [Nat.zero_add] at hh
set_option maxHeartbeats 4000000 in
set_option maxRecDepth 100000 in
/-- atomic() -/
theorem c_X8_atomic {l : Launch} {D : va_G} {Y : Nat → ClassId} {z : Nat → Nat} {n : Nat} {ad : Nat → Nat} {M : vM} {i e : Nat} (hi : i < n) (hne : M.1 (tb i) 4 = nI e) (he : e ≤ 24) : Ct l D Y z yX8_atomic cX8_atomic 2 (some FieldType.int) 0 0 [.ref (ad (tb i))] (wM Y n ad M) 0 0 (fun r w => w = wM Y n ad M ∧ ∃ x : Int32, r = some (.int x) ∧ aAt (M.1 (tb i + 11)) e x) := by
  refine v_entry (by decide +kernel) (Nat.le_of_ble_eq_true rfl) ?_
  intro K X R hR hnm hl hD hY hz
  subst hl hD hY hz
  refine v_sub (lv' := [(0, .ref (ad (tb i)))]) [0] rfl ?_
  refine v_iconst (pc' := 1) (v := 0) X dX8_atomic_0 (by decide) rfl ?_
  refine v_istore_n (pc' := 2) (i := 1) (lv' := [(1, .int 0), (0, .ref (ad (tb i)))]) X dX8_atomic_1 rfl (by decide) rfl rfl ?_
  have hloop : ∀ (dd_hloop : Nat) (k : Nat), e - k < dd_hloop → (k ≤ e) → (∀ j, j < k → M.1 (tb i + 11) j ≠ 0) → V K 2 (wM (kY K) n ad M) 0 0 2 [(1, .int (nI k)), (0, .ref (ad (tb i)))] [] := by
    intro dd_hloop
    induction dd_hloop with
    | zero => intro k hlt_hloop; exact absurd hlt_hloop (Nat.not_lt_zero _)
    | succ dd_hloop ih_hloop =>
      intro k hlt_hloop hk hno
      refine v_iload_n (pc' := 3) (i := 1) (j := 0) X dX8_atomic_2 rfl rfl rfl ?_
      refine v_aload_n (pc' := 4) (i := 0) (j := 1) X dX8_atomic_3 rfl rfl rfl ?_
      refine fg_X8_47 (pc' := 7) X hi (v := nI e) hne dX8_atomic_4 rfl ?_
      refine v_icmp_ge (pc' := 10) (tgt := 27) X dX8_atomic_7 (by decide) rfl (fun hc_7 => ?_) (fun hc_7 => ?_)
      -- taken 7
      · refine v_iconst (pc' := 28) (v := (-1)) X dX8_atomic_27 (by decide) rfl ?_
        refine v_ireturn X R (Nat.zero_le _) (Nat.zero_le _) dX8_atomic_28 ?_
        exact ⟨rfl, _, rfl, Or.inr ⟨fun j hj => hno j (by have hh := le_of_nI hc_7 (by omega) (by omega); omega), rfl⟩⟩
      -- not taken 7
      · have hke : k < e := by
          rcases Nat.lt_or_ge k e with q9 | q9
          · exact q9
          · exact absurd (nI_le q9 (by omega)) hc_7
        refine v_aload_n (pc' := 11) (i := 0) (j := 1) X dX8_atomic_10 rfl rfl rfl ?_
        refine fg_X8_26 (pc' := 14) X hi dX8_atomic_11 rfl ?_
        refine v_iload_n (pc' := 15) (i := 1) (j := 0) X dX8_atomic_14 rfl rfl rfl ?_
        refine ag_T11 (pc' := 16) X hi (v := M.1 (tb i + 11) k) (k) rfl (by omega) rfl dX8_atomic_15 rfl ?_
        refine v_if_ne (pc' := 19) (tgt := 21) X dX8_atomic_16 (by decide) rfl (fun hc_16 => ?_) (fun hc_16 => ?_)
        -- taken 16
        · refine v_iinc (pc' := 24) (j := 0) (v := nI (k + 1)) (lv' := [(1, .int (nI (k + 1))), (0, .ref (ad (tb i)))]) X dX8_atomic_21 rfl (nI_add (k) 1) (by decide) rfl rfl ?_
          refine v_goto (pc' := 2) X dX8_atomic_24 (by decide) ?_
          exact ih_hloop (k + 1) (by omega) (by omega) (lt_s hno hc_16)
        -- not taken 16
        · refine v_iload_n (pc' := 20) (i := 1) (j := 0) X dX8_atomic_19 rfl rfl rfl ?_
          refine v_ireturn X R (Nat.zero_le _) (Nat.zero_le _) dX8_atomic_20 ?_
          exact ⟨rfl, _, rfl, Or.inl ⟨k, hke, hc_16, hno, rfl⟩⟩
  exact hloop _ 0 (Nat.lt_succ_self _) (by omega) lt_0
set_option maxHeartbeats 4000000 in
set_option maxRecDepth 100000 in
/-- restore(k) -/
theorem c_X8_restore {l : Launch} {D : va_G} {Y : Nat → ClassId} {z : Nat → Nat} {n : Nat} {ad : Nat → Nat} {M : vM} {i k : Nat} (hi : i < n) (hk : k < 24) : Ct l D Y z yX8_restore cX8_restore 3 none 0 0 [.ref (ad (tb i)), .int (nI k)] (wM Y n ad M) 0 0 (fun r w => r = none ∧ w = wM Y n ad (fRestore M (tb i) k)) := by
  refine v_entry (by decide +kernel) (Nat.le_of_ble_eq_true rfl) ?_
  intro K X R hR hnm hl hD hY hz
  subst hl hD hY hz
  refine v_sub (lv' := [(0, .ref (ad (tb i))), (1, .int (nI k))]) [0, 1] rfl ?_
  refine v_aload_n (pc' := 1) (i := 0) (j := 0) X dX8_restore_0 rfl rfl rfl ?_
  refine v_aload_n (pc' := 2) (i := 0) (j := 0) X dX8_restore_1 rfl rfl rfl ?_
  refine fg_X8_32 (pc' := 5) X hi dX8_restore_2 rfl ?_
  refine v_iload_n (pc' := 6) (i := 1) (j := 1) X dX8_restore_5 rfl rfl rfl ?_
  refine ag_T13 (pc' := 7) X hi (v := M.1 (tb i + 13) k) (k) rfl (by omega) rfl dX8_restore_6 rfl ?_
  refine fp_X8_50 (pc' := 10) X hi dX8_restore_7 rfl ?_
  refine v_iconst (pc' := 11) (v := 0) X dX8_restore_10 (by decide) rfl ?_
  refine v_istore_n (pc' := 12) (i := 2) (lv' := [(2, .int 0), (0, .ref (ad (tb i))), (1, .int (nI k))]) X dX8_restore_11 rfl (by decide) rfl rfl ?_
  have hloop : ∀ (dd_hloop : Nat) (j : Nat), 16 - j < dd_hloop → (j ≤ 16) → V K 3 (wM (kY K) n ad (mRL (mI M (tb i) 3 (M.1 (tb i + 13) k)) (tb i + 8) (vcp (M.2 (tb i + 9)) (16 * k) 0 j (M.2 (tb i + 8))))) 0 0 12 [(2, .int (nI j)), (1, .int (nI k)), (0, .ref (ad (tb i)))] [] := by
    intro dd_hloop
    induction dd_hloop with
    | zero => intro j hlt_hloop; exact absurd hlt_hloop (Nat.not_lt_zero _)
    | succ dd_hloop ih_hloop =>
      intro j hlt_hloop hj
      refine v_iload_n (pc' := 13) (i := 2) (j := 0) X dX8_restore_12 rfl rfl rfl ?_
      refine v_bipush (pc' := 15) (v := 16) X dX8_restore_13 (by decide) rfl ?_
      refine v_icmp_ge (pc' := 18) (tgt := 41) X dX8_restore_15 (by decide) rfl (fun hc_15 => ?_) (fun hc_15 => ?_)
      -- taken 15
      · obtain rfl : j = 16 := by have hh := le_of_nI (a := 16) (b := j) hc_15 (by omega) (by omega); omega
        refine v_return X R (Nat.zero_le _) (Nat.zero_le _) dX8_restore_41 ?_
        exact ⟨rfl, rfl⟩
      -- not taken 15
      · have hj2 : j < 16 := by
          rcases Nat.lt_or_ge j 16 with q9 | q9
          · exact q9
          · exact absurd (nI_le q9 (by omega)) hc_15
        refine v_aload_n (pc' := 19) (i := 0) (j := 2) X dX8_restore_18 rfl rfl rfl ?_
        refine fg_X8_15 (pc' := 22) X hi dX8_restore_19 rfl ?_
        refine v_iload_n (pc' := 23) (i := 2) (j := 0) X dX8_restore_22 rfl rfl rfl ?_
        refine v_aload_n (pc' := 24) (i := 0) (j := 2) X dX8_restore_23 rfl rfl rfl ?_
        refine fg_X8_19 (pc' := 27) X hi dX8_restore_24 rfl ?_
        refine v_bipush (pc' := 29) (v := 16) X dX8_restore_27 (by decide) rfl ?_
        refine v_iload_n (pc' := 30) (i := 1) (j := 1) X dX8_restore_29 rfl rfl rfl ?_
        refine v_imulV (pc' := 31) (v := nI (16 * (k))) X (pk_mul 16 (k)) dX8_restore_30 rfl ?_
        refine v_iload_n (pc' := 32) (i := 2) (j := 0) X dX8_restore_31 rfl rfl rfl ?_
        refine v_iaddV (pc' := 33) (v := nI (16 * (k) + j)) X (nI_add (16 * (k)) (j)) dX8_restore_32 rfl ?_
        refine ag_T9 (pc' := 34) X hi (v := M.2 (tb i + 9) (16 * (k) + j)) (16 * (k) + j) rfl (by omega) (congrFun (mRL_n _ _ _ (by omega)) _) dX8_restore_33 rfl ?_
        refine as_T8 (pc' := 35) X hi (j) rfl (by omega) dX8_restore_34 rfl ?_
        refine v_iinc (pc' := 38) (j := 0) (v := nI (j + 1)) (lv' := [(2, .int (nI (j + 1))), (1, .int (nI k)), (0, .ref (ad (tb i)))]) X dX8_restore_35 rfl (nI_add (j) 1) (by decide) rfl rfl ?_
        refine v_goto (pc' := 12) X dX8_restore_38 (by decide) ?_
        refine v_eqw (ws' := wM (kY K) n ad (mRL (mI M (tb i) 3 (M.1 (tb i + 13) k)) (tb i + 8) (vcp (M.2 (tb i + 9)) (16 * k) 0 (j + 1) (M.2 (tb i + 8))))) (by rw [mL_mRL, vcp_sL0]) ?_
        exact ih_hloop (j + 1) (by omega) (by omega)
  refine v_eqw (ws' := wM (kY K) n ad (mRL (mI M (tb i) 3 (M.1 (tb i + 13) k)) (tb i + 8) (vcp (M.2 (tb i + 9)) (16 * k) 0 0 (M.2 (tb i + 8))))) (by rw [vcp_0]; exact (congrArg (pM _ _ _) (mRL_self _ _)).symm) ?_
  refine v_sub (lv' := [(2, .int 0), (1, .int (nI k)), (0, .ref (ad (tb i)))]) [0, 2, 1] rfl ?_
  exact hloop _ 0 (Nat.lt_succ_self _) (by omega)
set_option maxHeartbeats 4000000 in
set_option maxRecDepth 100000 in
/-- nest(kind, to) -/
theorem c_X8_nest {l : Launch} {D : va_G} {Y : Nat → ClassId} {z : Nat → Nat} {n : Nat} {ad : Nat → Nat} {M : vM} {i e : Nat} (hi : i < n) (hne : M.1 (tb i) 4 = nI e) (he : e < 24) {kind to : Int32} : Ct l D Y z yX8_nest cX8_nest 4 none 0 0 [.ref (ad (tb i)), .int kind, .int to] (wM Y n ad M) 0 0 (fun r w => r = none ∧ w = wM Y n ad (fNest M (tb i) e kind to)) := by
  refine v_entry (by decide +kernel) (Nat.le_of_ble_eq_true rfl) ?_
  intro K X R hR hnm hl hD hY hz
  subst hl hD hY hz
  refine v_sub (lv' := [(0, .ref (ad (tb i))), (1, .int kind), (2, .int to)]) [0, 1, 2] rfl ?_
  refine v_aload_n (pc' := 1) (i := 0) (j := 0) X dX8_nest_0 rfl rfl rfl ?_
  refine fg_X8_26 (pc' := 4) X hi dX8_nest_1 rfl ?_
  refine v_aload_n (pc' := 5) (i := 0) (j := 0) X dX8_nest_4 rfl rfl rfl ?_
  refine fg_X8_47 (pc' := 8) X hi (v := nI e) hne dX8_nest_5 rfl ?_
  refine v_iload_n (pc' := 9) (i := 1) (j := 1) X dX8_nest_8 rfl rfl rfl ?_
  refine as_T11 (pc' := 10) X hi (e) rfl (by omega) dX8_nest_9 rfl ?_
  refine v_aload_n (pc' := 11) (i := 0) (j := 0) X dX8_nest_10 rfl rfl rfl ?_
  refine fg_X8_29 (pc' := 14) X hi dX8_nest_11 rfl ?_
  refine v_aload_n (pc' := 15) (i := 0) (j := 0) X dX8_nest_14 rfl rfl rfl ?_
  refine fg_X8_47 (pc' := 18) X hi (v := nI e) ((congrFun (mI_n _ _ _ _ (by omega)) _).trans hne) dX8_nest_15 rfl ?_
  refine v_iload_n (pc' := 19) (i := 2) (j := 2) X dX8_nest_18 rfl rfl rfl ?_
  refine as_T12 (pc' := 20) X hi (e) rfl (by omega) dX8_nest_19 rfl ?_
  refine v_aload_n (pc' := 21) (i := 0) (j := 0) X dX8_nest_20 rfl rfl rfl ?_
  refine fg_X8_32 (pc' := 24) X hi dX8_nest_21 rfl ?_
  refine v_aload_n (pc' := 25) (i := 0) (j := 0) X dX8_nest_24 rfl rfl rfl ?_
  refine fg_X8_47 (pc' := 28) X hi (v := nI e) ((congrFun (mI_n _ _ _ _ (by omega)) _).trans ((congrFun (mI_n _ _ _ _ (by omega)) _).trans hne)) dX8_nest_25 rfl ?_
  refine v_aload_n (pc' := 29) (i := 0) (j := 0) X dX8_nest_28 rfl rfl rfl ?_
  refine fg_X8_50 (pc' := 32) X hi (v := M.1 (tb i) 3) ((congrFun (mI_n _ _ _ _ (by omega)) _).trans (congrFun (mI_n _ _ _ _ (by omega)) _)) dX8_nest_29 rfl ?_
  refine as_T13 (pc' := 33) X hi (e) rfl (by omega) dX8_nest_32 rfl ?_
  refine v_aload_n (pc' := 34) (i := 0) (j := 0) X dX8_nest_33 rfl rfl rfl ?_
  refine fg_X8_35 (pc' := 37) X hi dX8_nest_34 rfl ?_
  refine v_aload_n (pc' := 38) (i := 0) (j := 0) X dX8_nest_37 rfl rfl rfl ?_
  refine fg_X8_47 (pc' := 41) X hi (v := nI e) ((congrFun (mI_n _ _ _ _ (by omega)) _).trans ((congrFun (mI_n _ _ _ _ (by omega)) _).trans ((congrFun (mI_n _ _ _ _ (by omega)) _).trans hne))) dX8_nest_38 rfl ?_
  refine v_aload_n (pc' := 42) (i := 0) (j := 0) X dX8_nest_41 rfl rfl rfl ?_
  refine fg_X8_53 (pc' := 45) X hi (v := M.1 (tb i) 6) ((congrFun (mI_n _ _ _ _ (by omega)) _).trans ((congrFun (mI_n _ _ _ _ (by omega)) _).trans (congrFun (mI_n _ _ _ _ (by omega)) _))) dX8_nest_42 rfl ?_
  refine as_T14 (pc' := 46) X hi (e) rfl (by omega) dX8_nest_45 rfl ?_
  refine v_iconst (pc' := 47) (v := 0) X dX8_nest_46 (by decide) rfl ?_
  refine v_istore_n (pc' := 48) (i := 3) (lv' := [(3, .int 0), (0, .ref (ad (tb i))), (1, .int kind), (2, .int to)]) X dX8_nest_47 rfl (by decide) rfl rfl ?_
  have hloop : ∀ (dd_hloop : Nat) (j : Nat), 16 - j < dd_hloop → (j ≤ 16) → V K 4 (wM (kY K) n ad (mRL (mI (mI (mI (mI M (tb i + 11) e kind) (tb i + 12) e to) (tb i + 13) e (M.1 (tb i) 3)) (tb i + 14) e (M.1 (tb i) 6)) (tb i + 9) (vcp (M.2 (tb i + 8)) 0 (16 * e) j (M.2 (tb i + 9))))) 0 0 48 [(3, .int (nI j)), (1, .int kind), (2, .int to), (0, .ref (ad (tb i)))] [] := by
    intro dd_hloop
    induction dd_hloop with
    | zero => intro j hlt_hloop; exact absurd hlt_hloop (Nat.not_lt_zero _)
    | succ dd_hloop ih_hloop =>
      intro j hlt_hloop hj
      refine v_iload_n (pc' := 49) (i := 3) (j := 0) X dX8_nest_48 rfl rfl rfl ?_
      refine v_bipush (pc' := 51) (v := 16) X dX8_nest_49 (by decide) rfl ?_
      refine v_icmp_ge (pc' := 54) (tgt := 80) X dX8_nest_51 (by decide) rfl (fun hc_51 => ?_) (fun hc_51 => ?_)
      -- taken 51
      · obtain rfl : j = 16 := by have hh := le_of_nI (a := 16) (b := j) hc_51 (by omega) (by omega); omega
        refine v_aload_n (pc' := 81) (i := 0) (j := 3) X dX8_nest_80 rfl rfl rfl ?_
        refine v_dup (pc' := 82) X dX8_nest_81 rfl rfl ?_
        refine fg_X8_47 (pc' := 85) X hi (v := nI e) ((congrFun (mI_n _ _ _ _ (by omega)) _).trans ((congrFun (mI_n _ _ _ _ (by omega)) _).trans ((congrFun (mI_n _ _ _ _ (by omega)) _).trans ((congrFun (mI_n _ _ _ _ (by omega)) _).trans hne)))) dX8_nest_82 rfl ?_
        refine v_iconst (pc' := 86) (v := 1) X dX8_nest_85 (by decide) rfl ?_
        refine v_iaddV (pc' := 87) (v := nI (e + 1)) X (nI_add (e) 1) dX8_nest_86 rfl ?_
        refine fp_X8_47 (pc' := 90) X hi dX8_nest_87 rfl ?_
        refine v_return X R (Nat.zero_le _) (Nat.zero_le _) dX8_nest_90 ?_
        exact ⟨rfl, rfl⟩
      -- not taken 51
      · have hj2 : j < 16 := by
          rcases Nat.lt_or_ge j 16 with q9 | q9
          · exact q9
          · exact absurd (nI_le q9 (by omega)) hc_51
        refine v_aload_n (pc' := 55) (i := 0) (j := 3) X dX8_nest_54 rfl rfl rfl ?_
        refine fg_X8_19 (pc' := 58) X hi dX8_nest_55 rfl ?_
        refine v_bipush (pc' := 60) (v := 16) X dX8_nest_58 (by decide) rfl ?_
        refine v_aload_n (pc' := 61) (i := 0) (j := 3) X dX8_nest_60 rfl rfl rfl ?_
        refine fg_X8_47 (pc' := 64) X hi (v := nI e) ((congrFun (mI_n _ _ _ _ (by omega)) _).trans ((congrFun (mI_n _ _ _ _ (by omega)) _).trans ((congrFun (mI_n _ _ _ _ (by omega)) _).trans ((congrFun (mI_n _ _ _ _ (by omega)) _).trans hne)))) dX8_nest_61 rfl ?_
        refine v_imulV (pc' := 65) (v := nI (16 * (e))) X (pk_mul 16 (e)) dX8_nest_64 rfl ?_
        refine v_iload_n (pc' := 66) (i := 3) (j := 0) X dX8_nest_65 rfl rfl rfl ?_
        refine v_iaddV (pc' := 67) (v := nI (16 * (e) + j)) X (nI_add (16 * (e)) (j)) dX8_nest_66 rfl ?_
        refine v_aload_n (pc' := 68) (i := 0) (j := 3) X dX8_nest_67 rfl rfl rfl ?_
        refine fg_X8_15 (pc' := 71) X hi dX8_nest_68 rfl ?_
        refine v_iload_n (pc' := 72) (i := 3) (j := 0) X dX8_nest_71 rfl rfl rfl ?_
        refine ag_T8 (pc' := 73) X hi (v := M.2 (tb i + 8) j) (j) rfl (by omega) (congrFun (mRL_n _ _ _ (by omega)) _) dX8_nest_72 rfl ?_
        refine as_T9 (pc' := 74) X hi (16 * (e) + j) rfl (by omega) dX8_nest_73 rfl ?_
        refine v_iinc (pc' := 77) (j := 0) (v := nI (j + 1)) (lv' := [(3, .int (nI (j + 1))), (1, .int kind), (2, .int to), (0, .ref (ad (tb i)))]) X dX8_nest_74 rfl (nI_add (j) 1) (by decide) rfl rfl ?_
        refine v_goto (pc' := 48) X dX8_nest_77 (by decide) ?_
        refine v_eqw (ws' := wM (kY K) n ad (mRL (mI (mI (mI (mI M (tb i + 11) e kind) (tb i + 12) e to) (tb i + 13) e (M.1 (tb i) 3)) (tb i + 14) e (M.1 (tb i) 6)) (tb i + 9) (vcp (M.2 (tb i + 8)) 0 (16 * e) (j + 1) (M.2 (tb i + 9))))) (by rw [mL_mRL, vcp_sLp]) ?_
        exact ih_hloop (j + 1) (by omega) (by omega)
  refine v_eqw (ws' := wM (kY K) n ad (mRL (mI (mI (mI (mI M (tb i + 11) e kind) (tb i + 12) e to) (tb i + 13) e (M.1 (tb i) 3)) (tb i + 14) e (M.1 (tb i) 6)) (tb i + 9) (vcp (M.2 (tb i + 8)) 0 (16 * e) 0 (M.2 (tb i + 9))))) (by rw [vcp_0]; exact (congrArg (pM _ _ _) (mRL_self _ _)).symm) ?_
  refine v_sub (lv' := [(3, .int 0), (1, .int kind), (2, .int to), (0, .ref (ad (tb i)))]) [0, 2, 3, 1] rfl ?_
  exact hloop _ 0 (Nat.lt_succ_self _) (by omega)
set_option maxHeartbeats 4000000 in
set_option maxRecDepth 100000 in
/-- rollBack(k) -/
theorem c_X8_rollBack {l : Launch} {D : va_G} {Y : Nat → ClassId} {z : Nat → Nat} {n : Nat} {ad : Nat → Nat} {M : vM} {i k : Nat} (hi : i < n) (hk : k < 24) : Ct l D Y z yX8_rollBack cX8_rollBack 2 none 1 22 [.ref (ad (tb i)), .int (nI k)] (wM Y n ad M) 0 0 (fun r w => r = none ∧ w = wM Y n ad (fRollBack M (tb i) k)) := by
  refine v_entry (by decide +kernel) (Nat.le_of_ble_eq_true rfl) ?_
  intro K X R hR hnm hl hD hY hz
  subst hl hD hY hz
  refine v_sub (lv' := [(0, .ref (ad (tb i))), (1, .int (nI k))]) [0, 1] rfl ?_
  refine v_aload_n (pc' := 1) (i := 0) (j := 0) X dX8_rollBack_0 rfl rfl rfl ?_
  refine v_iload_n (pc' := 2) (i := 1) (j := 1) X dX8_rollBack_1 rfl rfl rfl ?_
  refine v_callV (pc' := 5) X (st := []) (c_X8_restore (M := M) hi (k := k) (by omega)) k_X8_restore w_ml_X8_56 w_im_X8_restore w_se_X8_X8_restore (rv_T hi) (by rw [hR]; exact ⟨Nat.le_of_ble_eq_true rfl, Nat.le_of_ble_eq_true rfl⟩) rfl rfl (Nat.le_of_ble_eq_true rfl) dX8_rollBack_2 rfl (⟨Nat.zero_le _, Nat.zero_le _⟩) ?_
  rintro _ _ ⟨rfl, rfl⟩
  refine v_aload_n (pc' := 6) (i := 0) (j := 0) X dX8_rollBack_5 rfl rfl rfl ?_
  refine v_aload_n (pc' := 7) (i := 0) (j := 0) X dX8_rollBack_6 rfl rfl rfl ?_
  refine fg_X8_35 (pc' := 10) X hi dX8_rollBack_7 rfl ?_
  refine v_iload_n (pc' := 11) (i := 1) (j := 1) X dX8_rollBack_10 rfl rfl rfl ?_
  refine ag_T14 (pc' := 12) X hi (v := M.1 (tb i + 14) k) (k) rfl (by omega) (congrFun (mI_n _ _ _ _ (by omega)) _) dX8_rollBack_11 rfl ?_
  refine fp_X8_53 (pc' := 15) X hi dX8_rollBack_12 rfl ?_
  refine v_aload_n (pc' := 16) (i := 0) (j := 0) X dX8_rollBack_15 rfl rfl rfl ?_
  refine v_iload_n (pc' := 17) (i := 1) (j := 1) X dX8_rollBack_16 rfl rfl rfl ?_
  refine fp_X8_47 (pc' := 20) X hi dX8_rollBack_17 rfl ?_
  refine v_aload_n (pc' := 21) (i := 0) (j := 0) X dX8_rollBack_20 rfl rfl rfl ?_
  refine v_aload_n (pc' := 22) (i := 0) (j := 0) X dX8_rollBack_21 rfl rfl rfl ?_
  refine fg_X8_29 (pc' := 25) X hi dX8_rollBack_22 rfl ?_
  refine v_iload_n (pc' := 26) (i := 1) (j := 1) X dX8_rollBack_25 rfl rfl rfl ?_
  refine ag_T12 (pc' := 27) X hi (v := M.1 (tb i + 12) k) (k) rfl (by omega) ((congrFun (mI_n _ _ _ _ (by omega)) _).trans ((congrFun (mI_n _ _ _ _ (by omega)) _).trans (congrFun (mI_n _ _ _ _ (by omega)) _))) dX8_rollBack_26 rfl ?_
  refine fp_X8_60 (pc' := 30) X hi dX8_rollBack_27 rfl ?_
  refine v_return X R (Nat.zero_le _) (Nat.zero_le _) dX8_rollBack_30 ?_
  exact ⟨rfl, rfl⟩
set_option maxHeartbeats 4000000 in
set_option maxRecDepth 100000 in
/-- again(clock) -/
theorem c_X8_again {l : Launch} {D : va_G} {Y : Nat → ClassId} {z : Nat → Nat} {n : Nat} {ad : Nat → Nat} {M : vM} {i e k : Nat} (hi : i < n) (hne : M.1 (tb i) 4 = nI e) (he : e ≤ 24) (hk : k < e) (h0 : M.1 (tb i + 11) k = 0) (hfirst : ∀ j, j < k → M.1 (tb i + 11) j ≠ 0) {clock : Int32} : Ct l D Y z yX8_again cX8_again 3 none 1 22 [.ref (ad (tb i)), .int clock] (wM Y n ad M) 0 0 (fun r w => r = none ∧ w = wM Y n ad (fAgain M (tb i) k clock)) := by
  refine v_entry (by decide +kernel) (Nat.le_of_ble_eq_true rfl) ?_
  intro K X R hR hnm hl hD hY hz
  subst hl hD hY hz
  refine v_sub (lv' := [(0, .ref (ad (tb i))), (1, .int clock)]) [0, 1] rfl ?_
  refine v_aload_n (pc' := 1) (i := 0) (j := 0) X dX8_again_0 rfl rfl rfl ?_
  refine v_callV (pc' := 4) X (st := []) (c_X8_atomic (M := M) hi (e := e) hne (by omega)) k_X8_atomic w_ml_X8_63 w_im_X8_atomic w_se_X8_X8_atomic (rv_T hi) (by rw [hR]; exact ⟨Nat.le_of_ble_eq_true rfl, Nat.le_of_ble_eq_true rfl⟩) rfl rfl (Nat.le_of_ble_eq_true rfl) dX8_again_1 rfl (⟨Nat.zero_le _, Nat.zero_le _⟩) ?_
  rintro _ _ ⟨rfl, x9, rfl, hx9⟩
  obtain rfl := aAt_eq hx9 hk h0 hfirst
  refine v_istore_n (pc' := 5) (i := 2) (lv' := [(2, .int (nI k)), (0, .ref (ad (tb i))), (1, .int clock)]) X dX8_again_4 rfl (by decide) rfl rfl ?_
  refine v_aload_n (pc' := 6) (i := 0) (j := 1) X dX8_again_5 rfl rfl rfl ?_
  refine v_iload_n (pc' := 7) (i := 2) (j := 0) X dX8_again_6 rfl rfl rfl ?_
  refine v_callV (pc' := 10) X (st := []) (c_X8_restore (M := M) hi (k := k) (by omega)) k_X8_restore w_ml_X8_56 w_im_X8_restore w_se_X8_X8_restore (rv_T hi) (by rw [hR]; exact ⟨Nat.le_of_ble_eq_true rfl, Nat.le_of_ble_eq_true rfl⟩) rfl rfl (Nat.le_of_ble_eq_true rfl) dX8_again_7 rfl (⟨Nat.zero_le _, Nat.zero_le _⟩) ?_
  rintro _ _ ⟨rfl, rfl⟩
  refine v_aload_n (pc' := 11) (i := 0) (j := 1) X dX8_again_10 rfl rfl rfl ?_
  refine v_iload_n (pc' := 12) (i := 2) (j := 0) X dX8_again_11 rfl rfl rfl ?_
  refine v_iconst (pc' := 13) (v := 1) X dX8_again_12 (by decide) rfl ?_
  refine v_iaddV (pc' := 14) (v := nI (k + 1)) X (nI_add (k) 1) dX8_again_13 rfl ?_
  refine fp_X8_47 (pc' := 17) X hi dX8_again_14 rfl ?_
  refine v_aload_n (pc' := 18) (i := 0) (j := 1) X dX8_again_17 rfl rfl rfl ?_
  refine v_iconst (pc' := 19) (v := 0) X dX8_again_18 (by decide) rfl ?_
  refine fp_X8_67 (pc' := 22) X hi dX8_again_19 rfl ?_
  refine v_aload_n (pc' := 23) (i := 0) (j := 1) X dX8_again_22 rfl rfl rfl ?_
  refine v_iconst (pc' := 24) (v := 0) X dX8_again_23 (by decide) rfl ?_
  refine fp_X8_53 (pc' := 27) X hi dX8_again_24 rfl ?_
  refine v_aload_n (pc' := 28) (i := 0) (j := 1) X dX8_again_27 rfl rfl rfl ?_
  refine v_iload_n (pc' := 29) (i := 1) (j := 2) X dX8_again_28 rfl rfl rfl ?_
  refine fp_X8_70 (pc' := 32) X hi dX8_again_29 rfl ?_
  refine v_aload_n (pc' := 33) (i := 0) (j := 1) X dX8_again_32 rfl rfl rfl ?_
  refine v_aload_n (pc' := 34) (i := 0) (j := 1) X dX8_again_33 rfl rfl rfl ?_
  refine fg_X8_29 (pc' := 37) X hi dX8_again_34 rfl ?_
  refine v_iload_n (pc' := 38) (i := 2) (j := 0) X dX8_again_37 rfl rfl rfl ?_
  refine ag_T12 (pc' := 39) X hi (v := M.1 (tb i + 12) k) (k) rfl (by omega) ((congrFun (mI_n _ _ _ _ (by omega)) _).trans ((congrFun (mI_n _ _ _ _ (by omega)) _).trans ((congrFun (mI_n _ _ _ _ (by omega)) _).trans ((congrFun (mI_n _ _ _ _ (by omega)) _).trans (congrFun (mI_n _ _ _ _ (by omega)) _))))) dX8_again_38 rfl ?_
  refine fp_X8_60 (pc' := 42) X hi dX8_again_39 rfl ?_
  refine v_aload_n (pc' := 43) (i := 0) (j := 1) X dX8_again_42 rfl rfl rfl ?_
  refine v_iconst (pc' := 44) (v := 1) X dX8_again_43 (by decide) rfl ?_
  refine fp_X8_9 (pc' := 47) X hi dX8_again_44 rfl ?_
  refine v_return X R (Nat.zero_le _) (Nat.zero_le _) dX8_again_47 ?_
  exact ⟨rfl, rfl⟩
set_option maxHeartbeats 4000000 in
set_option maxRecDepth 100000 in
/-- end(how, why) -/
theorem c_X8_end {l : Launch} {D : va_G} {Y : Nat → ClassId} {z : Nat → Nat} {n : Nat} {ad : Nat → Nat} {M : vM} {i : Nat} (hi : i < n) {how why : Int32} : Ct l D Y z yX8_end cX8_end 3 none 0 0 [.ref (ad (tb i)), .int how, .int why] (wM Y n ad M) 0 0 (fun r w => r = none ∧ w = wM Y n ad (fEnd M (tb i) how why)) := by
  refine v_entry (by decide +kernel) (Nat.le_of_ble_eq_true rfl) ?_
  intro K X R hR hnm hl hD hY hz
  subst hl hD hY hz
  refine v_sub (lv' := [(0, .ref (ad (tb i))), (1, .int how), (2, .int why)]) [0, 1, 2] rfl ?_
  refine v_aload_n (pc' := 1) (i := 0) (j := 0) X dX8_end_0 rfl rfl rfl ?_
  refine v_iload_n (pc' := 2) (i := 1) (j := 1) X dX8_end_1 rfl rfl rfl ?_
  refine fp_X8_9 (pc' := 5) X hi dX8_end_2 rfl ?_
  refine v_aload_n (pc' := 6) (i := 0) (j := 0) X dX8_end_5 rfl rfl rfl ?_
  refine v_iload_n (pc' := 7) (i := 2) (j := 2) X dX8_end_6 rfl rfl rfl ?_
  refine fp_X8_73 (pc' := 10) X hi dX8_end_7 rfl ?_
  refine v_aload_n (pc' := 11) (i := 0) (j := 0) X dX8_end_10 rfl rfl rfl ?_
  refine v_iconst (pc' := 12) (v := 0) X dX8_end_11 (by decide) rfl ?_
  refine fp_X8_47 (pc' := 15) X hi dX8_end_12 rfl ?_
  refine v_aload_n (pc' := 16) (i := 0) (j := 0) X dX8_end_15 rfl rfl rfl ?_
  refine v_iconst (pc' := 17) (v := 0) X dX8_end_16 (by decide) rfl ?_
  refine fp_X8_67 (pc' := 20) X hi dX8_end_17 rfl ?_
  refine v_aload_n (pc' := 21) (i := 0) (j := 0) X dX8_end_20 rfl rfl rfl ?_
  refine v_iconst (pc' := 22) (v := 0) X dX8_end_21 (by decide) rfl ?_
  refine fp_X8_53 (pc' := 25) X hi dX8_end_22 rfl ?_
  refine v_return X R (Nat.zero_le _) (Nat.zero_le _) dX8_end_25 ?_
  exact ⟨rfl, rfl⟩
set_option maxHeartbeats 4000000 in
set_option maxRecDepth 100000 in
/-- hasRead(v) -/
theorem c_X8_hasRead {l : Launch} {D : va_G} {Y : Nat → ClassId} {z : Nat → Nat} {n : Nat} {ad : Nat → Nat} {M : vM} {i e : Nat} (hi : i < n) (hne : M.1 (tb i) 5 = nI e) (he : e ≤ 40) {v : Int64} : Ct l D Y z yX8_hasRead cX8_hasRead 4 (some FieldType.boolean) 0 0 [.ref (ad (tb i)), .long v] (wM Y n ad M) 0 0 (fun r w => w = wM Y n ad M ∧ ∃ x : Int32, r = some (.int x) ∧ aIn (M.2 (tb i + 15)) e v x) := by
  refine v_entry (by decide +kernel) (Nat.le_of_ble_eq_true rfl) ?_
  intro K X R hR hnm hl hD hY hz
  subst hl hD hY hz
  refine v_sub (lv' := [(0, .ref (ad (tb i))), (1, .long v)]) [0, 1] rfl ?_
  refine v_iconst (pc' := 1) (v := 0) X dX8_hasRead_0 (by decide) rfl ?_
  refine v_istore_n (pc' := 2) (i := 3) (lv' := [(3, .int 0), (0, .ref (ad (tb i))), (1, .long v)]) X dX8_hasRead_1 rfl (by decide) rfl rfl ?_
  have hloop : ∀ (dd_hloop : Nat) (k : Nat), e - k < dd_hloop → (k ≤ e) → (∀ j, j < k → M.2 (tb i + 15) j ≠ v) → V K 4 (wM (kY K) n ad M) 0 0 2 [(3, .int (nI k)), (1, .long v), (0, .ref (ad (tb i)))] [] := by
    intro dd_hloop
    induction dd_hloop with
    | zero => intro k hlt_hloop; exact absurd hlt_hloop (Nat.not_lt_zero _)
    | succ dd_hloop ih_hloop =>
      intro k hlt_hloop hk hno
      refine v_iload_n (pc' := 3) (i := 3) (j := 0) X dX8_hasRead_2 rfl rfl rfl ?_
      refine v_aload_n (pc' := 4) (i := 0) (j := 2) X dX8_hasRead_3 rfl rfl rfl ?_
      refine fg_X8_67 (pc' := 7) X hi (v := nI e) hne dX8_hasRead_4 rfl ?_
      refine v_icmp_ge (pc' := 10) (tgt := 29) X dX8_hasRead_7 (by decide) rfl (fun hc_7 => ?_) (fun hc_7 => ?_)
      -- taken 7
      · refine v_iconst (pc' := 30) (v := 0) X dX8_hasRead_29 (by decide) rfl ?_
        refine v_zreturn X R (by decide) (Nat.zero_le _) (Nat.zero_le _) dX8_hasRead_30 ?_
        exact ⟨rfl, _, rfl, Or.inr ⟨rfl, fun j hj => hno j (by have hh := le_of_nI hc_7 (by omega) (by omega); omega)⟩⟩
      -- not taken 7
      · have hke : k < e := by
          rcases Nat.lt_or_ge k e with q9 | q9
          · exact q9
          · exact absurd (nI_le q9 (by omega)) hc_7
        refine v_aload_n (pc' := 11) (i := 0) (j := 2) X dX8_hasRead_10 rfl rfl rfl ?_
        refine fg_X8_38 (pc' := 14) X hi dX8_hasRead_11 rfl ?_
        refine v_iload_n (pc' := 15) (i := 3) (j := 0) X dX8_hasRead_14 rfl rfl rfl ?_
        refine ag_T15 (pc' := 16) X hi (v := M.2 (tb i + 15) k) (k) rfl (by omega) rfl dX8_hasRead_15 rfl ?_
        refine v_lload_n (pc' := 17) (i := 1) (j := 1) X dX8_hasRead_16 rfl rfl rfl ?_
        refine v_lcmp (pc' := 18) X dX8_hasRead_17 rfl ?_
        refine v_if_ne (pc' := 21) (tgt := 23) X dX8_hasRead_18 (by decide) rfl (fun hc_18 => ?_) (fun hc_18 => ?_)
        -- taken 18
        · refine v_iinc (pc' := 26) (j := 0) (v := nI (k + 1)) (lv' := [(3, .int (nI (k + 1))), (1, .long v), (0, .ref (ad (tb i)))]) X dX8_hasRead_23 rfl (nI_add (k) 1) (by decide) rfl rfl ?_
          refine v_goto (pc' := 2) X dX8_hasRead_26 (by decide) ?_
          exact ih_hloop (k + 1) (by omega) (by omega) (lt_s hno (fun z9 => hc_18 ((lg_cmp_eq _ _).mpr z9)))
        -- not taken 18
        · refine v_iconst (pc' := 22) (v := 1) X dX8_hasRead_21 (by decide) rfl ?_
          refine v_zreturn X R (by decide) (Nat.zero_le _) (Nat.zero_le _) dX8_hasRead_22 ?_
          exact ⟨rfl, _, rfl, Or.inl ⟨rfl, k, hke, (lg_cmp_eq _ _).mp hc_18⟩⟩
  refine v_sub (lv' := [(3, .int 0), (1, .long v), (0, .ref (ad (tb i)))]) [0, 2, 1] rfl ?_
  exact hloop _ 0 (Nat.lt_succ_self _) (by omega) lt_0
