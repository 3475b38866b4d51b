/-! CASTS; ARE ALL STRANDS STUCK -/
theorem v_castS {K : vKt} {cc : ByteArray} {own : String} {nL n1 n2 pc pc' : Nat} {ws : va_W} {lv : List (Nat × Value)} {st : List Value} (X : vOk K cc own nL) {a : Nat} {nm : String} {n9 index : Nat} (hins : Cond.instantiable nm n9 ∈ gw) (hl : Cond.classLink own index nm ∈ gw) (hb : ∃ (q0 ci : Nat) (fs : List Value) (q : vw_C), ws[q0]? = some (a, .inr (ci, fs)) ∧ vwCl[ci]? = some q ∧ q.1 = nm) (d : decode cc pc = .ok (.checkcast index, 3)) (e : pc + 3 = pc') (kk : V K nL ws n1 n2 pc' lv (.ref a :: st)) : V K nL ws n1 n2 pc lv (.ref a :: st) := by
  subst e
  intro H locs ls hP hD hS hl9
  obtain ⟨cC, hc⟩ := classAt_of (X.w hins)
  exact va_castS X.x X.b X.o (X.w hl) hc (v_recv X hP hb) d (kk H locs ls hP hD hS hl9)
set_option maxHeartbeats 4000000 in
set_option maxRecDepth 100000 in
theorem c_X7_isDeadlocked {l : Launch} {D : va_G} {Y : Nat → ClassId} {zz : Nat → Nat} {n s cp cq : Nat} {ad : Nat → Nat} {M : vM} (h52 : M.1 5 2 = nI n) (hn16 : n ≤ 16) (hq : n ≤ cq) (hq2 : cq < 2 ^ 31) : Ct l D Y zz yX7_isDeadlocked cX7_isDeadlocked 4 (some FieldType.boolean) 3 64 [.ref (ad (0))] (wK Y n s cp cq ad M) 0 0 (fun r w => r = some (.int (bP ((∀ q, q < n → M.1 (tb q) 8 ≠ 1) ∧ ∃ q, q < n ∧ M.1 (tb q) 8 = 2))) ∧ w = wK Y n s cp cq ad M) := by
  refine v_entry (by decide +kernel) (Nat.le_of_ble_eq_true rfl) ?_
  intro K X R hR hnm hl hD hY hz
  subst hl hD hY hz
  refine v_sub (lv' := [(0, .ref (ad (0)))]) [0] rfl ?_
  refine v_iconst (pc' := 1) (v := 0) X dX7_isDeadlocked_0 (by decide) rfl ?_
  refine v_istore_n (pc' := 2) (i := 1) (lv' := [(1, .int 0), (0, .ref (ad (0)))]) X dX7_isDeadlocked_1 rfl (by decide) rfl rfl ?_
  refine v_iconst (pc' := 3) (v := 0) X dX7_isDeadlocked_2 (by decide) rfl ?_
  refine v_istore_n (pc' := 4) (i := 2) (lv' := [(2, .int 0), (1, .int 0), (0, .ref (ad (0)))]) X dX7_isDeadlocked_3 rfl (by decide) rfl rfl ?_
  have hloop : ∀ (dd_hloop : Nat) (k : Nat) (x1 : Int32), n - k < dd_hloop → (k ≤ n) → (∀ q, q < k → M.1 (tb q) 8 ≠ 1) → (x1 = bP (∃ q, q < k ∧ M.1 (tb q) 8 = 2)) → V K 4 (wK (kY K) n s cp cq ad M) 0 0 4 [(2, .int (nI k)), (1, .int x1), (0, .ref (ad (0)))] [] := by
    intro dd_hloop
    induction dd_hloop with
    | zero => intro k x1 hlt_hloop; exact absurd hlt_hloop (Nat.not_lt_zero _)
    | succ dd_hloop ih_hloop =>
      intro k x1 hlt_hloop hk hno hx
      refine v_iload_n (pc' := 5) (i := 2) (j := 0) X dX7_isDeadlocked_4 rfl rfl rfl ?_
      refine v_aload_n (pc' := 6) (i := 0) (j := 2) X dX7_isDeadlocked_5 rfl rfl rfl ?_
      refine fk_X7_16 (pc' := 9) X dX7_isDeadlocked_6 rfl ?_
      refine v_callV (pc' := 12) X (st := [.int (nI k)]) (c_size5 (M := M)) k_Jx4a65c_size_8abf5 w_ml_X7_59 w_im_Jx4a65c_size_8abf5 w_se_Jx4a65c_Jx4a65c_size_8abf5 rw_L5 (by rw [hR]; exact ⟨Nat.le_of_ble_eq_true rfl, Nat.le_of_ble_eq_true rfl⟩) rfl rfl (Nat.le_of_ble_eq_true rfl) dX7_isDeadlocked_9 rfl (⟨Nat.zero_le _, Nat.zero_le _⟩) ?_
      rintro _ _ ⟨rfl, rfl⟩
      rw [h52]
      refine v_icmp_ge (pc' := 15) (tgt := 58) X dX7_isDeadlocked_12 (by decide) rfl (fun hc_12 => ?_) (fun hc_12 => ?_)
      -- taken 12
      · refine v_iload_n (pc' := 59) (i := 1) (j := 1) X dX7_isDeadlocked_58 rfl rfl rfl ?_
        refine v_zreturn X R (by rw [hx]; exact bP_nar _) (Nat.zero_le _) (Nat.zero_le _) dX7_isDeadlocked_59 ?_
        obtain rfl : k = n := by have hh := le_of_nI hc_12 (by omega) (by omega); omega
        exact ⟨by rw [hx]; exact congrArg (fun b => some (Value.int b)) (bP_congr ⟨fun z9 => ⟨hno, z9⟩, fun z9 => z9.2⟩), rfl⟩
      -- not taken 12
      · have hke : k < n := by
          rcases Nat.lt_or_ge k n with q9 | q9
          · exact q9
          · exact absurd (nI_le q9 (by omega)) hc_12
        have hk16 : k < 16 := by omega
        refine v_aload_n (pc' := 16) (i := 0) (j := 2) X dX7_isDeadlocked_15 rfl rfl rfl ?_
        refine fk_X7_16 (pc' := 19) X dX7_isDeadlocked_16 rfl ?_
        refine v_iload_n (pc' := 20) (i := 2) (j := 0) X dX7_isDeadlocked_19 rfl rfl rfl ?_
        refine v_callV (pc' := 23) X (st := []) (c_get5 (M := M) (k := k) hke hq hq2 h52) k_Jx4a65c_get_915e3 w_ml_X7_77 w_im_Jx4a65c_get_915e3 w_se_Jx4a65c_Jx4a65c_get_915e3 rw_L5 (by rw [hR]; exact ⟨Nat.le_of_ble_eq_true rfl, Nat.le_of_ble_eq_true rfl⟩) rfl rfl (Nat.le_of_ble_eq_true rfl) dX7_isDeadlocked_20 rfl (⟨Nat.zero_le _, Nat.zero_le _⟩) ?_
        rintro _ _ ⟨rfl, rfl⟩
        refine v_castS (pc' := 26) X w_is_X6 w_cl_X7_50 (rw_X6 hke hk16) dX7_isDeadlocked_23 rfl ?_
        refine fk_X7_81 (pc' := 29) X hke hk16 (v := M.1 (tb k) 8) rfl dX7_isDeadlocked_26 rfl ?_
        refine v_istore_n (pc' := 30) (i := 3) (lv' := [(3, .int (M.1 (tb k) 8)), (2, .int (nI k)), (1, .int x1), (0, .ref (ad (0)))]) X dX7_isDeadlocked_29 rfl (by decide) rfl rfl ?_
        refine v_iload_n (pc' := 31) (i := 3) (j := 0) X dX7_isDeadlocked_30 rfl rfl rfl ?_
        refine v_iconst (pc' := 32) (v := 1) X dX7_isDeadlocked_31 (by decide) rfl ?_
        refine v_icmp_ne (pc' := 35) (tgt := 37) X dX7_isDeadlocked_32 (by decide) rfl (fun hc_32 => ?_) (fun hc_32 => ?_)
        -- taken 32
        · refine v_iload_n (pc' := 38) (i := 1) (j := 2) X dX7_isDeadlocked_37 rfl rfl rfl ?_
          refine v_if_ne (pc' := 41) (tgt := 46) X dX7_isDeadlocked_38 (by decide) rfl (fun hc_38 => ?_) (fun hc_38 => ?_)
          -- taken 38
          · refine v_iconst (pc' := 47) (v := 1) X dX7_isDeadlocked_46 (by decide) rfl ?_
            refine v_goto (pc' := 51) X dX7_isDeadlocked_47 (by decide) ?_
            refine v_istore_n (pc' := 52) (i := 1) (lv' := [(1, .int 1), (3, .int (M.1 (tb k) 8)), (2, .int (nI k)), (0, .ref (ad (0)))]) X dX7_isDeadlocked_51 rfl (by decide) rfl rfl ?_
            refine v_iinc (pc' := 55) (j := 2) (v := nI (k + 1)) (lv' := [(2, .int (nI (k + 1))), (1, .int 1), (3, .int (M.1 (tb k) 8)), (0, .ref (ad (0)))]) X dX7_isDeadlocked_52 rfl (nI_add (k) 1) (by decide) rfl rfl ?_
            refine v_goto (pc' := 4) X dX7_isDeadlocked_55 (by decide) ?_
            refine v_sub (lv' := [(2, .int (nI (k + 1))), (1, .int 1), (0, .ref (ad (0)))]) [0, 1, 3] rfl ?_
            exact ih_hloop (k + 1) _ (by omega) (by omega) (lt_s hno hc_32) (by rw [bP_t (c := ∃ q, q < k + 1 ∧ M.1 (tb q) 8 = 2) (by obtain ⟨q, hq, hq2⟩ := bP_1.mp (hx ▸ hc_38); exact ⟨q, by omega, hq2⟩)])
          -- not taken 38
          · refine v_iload_n (pc' := 42) (i := 3) (j := 0) X dX7_isDeadlocked_41 rfl rfl rfl ?_
            refine v_iconst (pc' := 43) (v := 2) X dX7_isDeadlocked_42 (by decide) rfl ?_
            refine v_icmp_ne (pc' := 46) (tgt := 50) X dX7_isDeadlocked_43 (by decide) rfl (fun hc_43 => ?_) (fun hc_43 => ?_)
            -- taken 43
            · refine v_iconst (pc' := 51) (v := 0) X dX7_isDeadlocked_50 (by decide) rfl ?_
              refine v_istore_n (pc' := 52) (i := 1) (lv' := [(1, .int 0), (3, .int (M.1 (tb k) 8)), (2, .int (nI k)), (0, .ref (ad (0)))]) X dX7_isDeadlocked_51 rfl (by decide) rfl rfl ?_
              refine v_iinc (pc' := 55) (j := 2) (v := nI (k + 1)) (lv' := [(2, .int (nI (k + 1))), (1, .int 0), (3, .int (M.1 (tb k) 8)), (0, .ref (ad (0)))]) X dX7_isDeadlocked_52 rfl (nI_add (k) 1) (by decide) rfl rfl ?_
              refine v_goto (pc' := 4) X dX7_isDeadlocked_55 (by decide) ?_
              refine v_sub (lv' := [(2, .int (nI (k + 1))), (1, .int 0), (0, .ref (ad (0)))]) [0, 1, 3] rfl ?_
              exact ih_hloop (k + 1) _ (by omega) (by omega) (lt_s hno hc_32) (by rw [bP_f (c := ∃ q, q < k + 1 ∧ M.1 (tb q) 8 = 2) (fun z9 => by obtain ⟨q, hq9, hq8⟩ := z9; exact (Nat.lt_succ_iff_lt_or_eq.mp hq9).elim (fun y9 => bP_0.mp (hx.symm.trans hc_38) ⟨q, y9, hq8⟩) (fun y9 => hc_43 (y9 ▸ hq8)))])
            -- not taken 43
            · refine v_iconst (pc' := 47) (v := 1) X dX7_isDeadlocked_46 (by decide) rfl ?_
              refine v_goto (pc' := 51) X dX7_isDeadlocked_47 (by decide) ?_
              refine v_istore_n (pc' := 52) (i := 1) (lv' := [(1, .int 1), (3, .int (M.1 (tb k) 8)), (2, .int (nI k)), (0, .ref (ad (0)))]) X dX7_isDeadlocked_51 rfl (by decide) rfl rfl ?_
              refine v_iinc (pc' := 55) (j := 2) (v := nI (k + 1)) (lv' := [(2, .int (nI (k + 1))), (1, .int 1), (3, .int (M.1 (tb k) 8)), (0, .ref (ad (0)))]) X dX7_isDeadlocked_52 rfl (nI_add (k) 1) (by decide) rfl rfl ?_
              refine v_goto (pc' := 4) X dX7_isDeadlocked_55 (by decide) ?_
              refine v_sub (lv' := [(2, .int (nI (k + 1))), (1, .int 1), (0, .ref (ad (0)))]) [0, 1, 3] rfl ?_
              exact ih_hloop (k + 1) _ (by omega) (by omega) (lt_s hno hc_32) (by rw [bP_t (c := ∃ q, q < k + 1 ∧ M.1 (tb q) 8 = 2) ⟨k, Nat.lt_succ_self k, hc_43⟩])
        -- not taken 32
        · refine v_iconst (pc' := 36) (v := 0) X dX7_isDeadlocked_35 (by decide) rfl ?_
          refine v_zreturn X R (by decide) (Nat.zero_le _) (Nat.zero_le _) dX7_isDeadlocked_36 ?_
          rw [bP_f (fun z9 => z9.1 k hke hc_32)]
          exact ⟨rfl, rfl⟩
  exact hloop _ 0 0 (Nat.lt_succ_self _) (Nat.zero_le _) lt_0 (bP_f (fun z9 => by obtain ⟨q, hq, -⟩ := z9; omega)).symm
