/-! THE CLASS: WAKING, COMMITTING -/
theorem gRest_n {M : vM} {b k c : Nat} (h : c ≠ b) : (gRest M b k).1 c = M.1 c := by
  unfold gRest; rw [mRL_1, mI_n _ _ _ _ h, mI_n _ _ _ _ h]
theorem gRest_2 {M : vM} {b k c : Nat} (h : c ≠ b + 8) : (gRest M b k).2 c = M.2 c := by
  unfold gRest; rw [mRL_n _ _ _ h]; rfl
theorem gBegin_n {M : vM} {b c : Nat} {v : Int32} (h : c ≠ b + 18) : (gBegin M b v).1 c = M.1 c := by
  unfold gBegin; rw [mI_n _ _ _ _ h, mI_n _ _ _ _ h, mI_n _ _ _ _ h]
theorem gBegin_2 {M : vM} {b : Nat} {v : Int32} : (gBegin M b v).2 = M.2 := rfl
theorem gDrop_2 {M : vM} {b : Nat} {k : Int32} : (gDrop M b k).2 = M.2 := by
  unfold gDrop
  split <;> rfl
theorem gDrop_o {M : vM} {b q : Nat} {k : Int32} (h1 : q ≠ 12) (h2 : q ≠ 13) : (gDrop M b k).1 b q = M.1 b q := by
  unfold gDrop
  split
  · rw [mI_o _ _ _ _ h2, mI_o _ _ _ _ h1]
  · rw [mI_o _ _ _ _ h1]
theorem gAgain_n {M : vM} {b k c : Nat} {v : Int32} (h1 : c ≠ b) (h2 : c ≠ b + 18) : (gAgain M b k v).1 c = M.1 c := by
  unfold gAgain; rw [gBegin_n h2, gDrop_n h1, gRest_n h1]
theorem gAgain_2 {M : vM} {b k c : Nat} {v : Int32} (h : c ≠ b + 8) : (gAgain M b k v).2 c = M.2 c := by
  unfold gAgain; rw [gBegin_2, gDrop_2, gRest_2 h]
/-- the strands below j that wait for one of the writes of the log of b run again -/
noncomputable def gWakes (M : vM) (b nw : Nat) : Nat → vM
  | 0 => M
  | j + 1 => @ite _ (M.1 (tb j) 8 = 2 ∧ ∃ q, q < nn (M.1 (tb j + 18) 3) ∧ ¬ lastI (M.1 (b + 16)) nw (M.1 (tb j + 15) q) < 0) (Classical.propDecidable _) (gAgain (mI (gWakes M b nw j) (tb j) 8 1) (tb j) (nn (M.1 (tb j) 13)) (M.1 0 5)) (gWakes M b nw j)
theorem gWakes_t {M : vM} {b nw j : Nat} (h : M.1 (tb j) 8 = 2 ∧ ∃ q, q < nn (M.1 (tb j + 18) 3) ∧ ¬ lastI (M.1 (b + 16)) nw (M.1 (tb j + 15) q) < 0) : gWakes M b nw (j + 1) = gAgain (mI (gWakes M b nw j) (tb j) 8 1) (tb j) (nn (M.1 (tb j) 13)) (M.1 0 5) := if_pos h
theorem gWakes_f {M : vM} {b nw j : Nat} (h : ¬ (M.1 (tb j) 8 = 2 ∧ ∃ q, q < nn (M.1 (tb j + 18) 3) ∧ ¬ lastI (M.1 (b + 16)) nw (M.1 (tb j + 15) q) < 0)) : gWakes M b nw (j + 1) = gWakes M b nw j := if_neg h
theorem gWakes_n {M : vM} {b nw c : Nat} : ∀ {j : Nat}, (∀ q, q < j → (c = tb q ∨ c = tb q + 18) → M.1 (tb q) 8 ≠ 2) → (gWakes M b nw j).1 c = M.1 c
  | 0, _ => rfl
  | j + 1, h => by
    have ih := gWakes_n (M := M) (b := b) (nw := nw) (c := c) (j := j) (fun q hq => h q (Nat.lt_succ_of_lt hq))
    by_cases hc : M.1 (tb j) 8 = 2 ∧ ∃ q, q < nn (M.1 (tb j + 18) 3) ∧ ¬ lastI (M.1 (b + 16)) nw (M.1 (tb j + 15) q) < 0
    · have h1 : c ≠ tb j := fun z9 => h j (Nat.lt_succ_self j) (Or.inl z9) hc.1
      have h2 : c ≠ tb j + 18 := fun z9 => h j (Nat.lt_succ_self j) (Or.inr z9) hc.1
      rw [gWakes_t hc, gAgain_n h1 h2, mI_n _ _ _ _ h1, ih]
    · rw [gWakes_f hc, ih]
theorem gWakes_o {M : vM} {b nw c j : Nat} (h : ∀ q, c ≠ tb q ∧ c ≠ tb q + 18) : (gWakes M b nw j).1 c = M.1 c := gWakes_n (fun q _ z9 => absurd z9 (fun y9 => y9.elim (h q).1 (h q).2))
theorem gWakes_ge {M : vM} {b nw j q : Nat} (h : j ≤ q) : (gWakes M b nw j).1 (tb q) = M.1 (tb q) := gWakes_n (fun x hx z9 => by unfold tb at z9; omega)
theorem gWakes_ge18 {M : vM} {b nw j q : Nat} (h : j ≤ q) : (gWakes M b nw j).1 (tb q + 18) = M.1 (tb q + 18) := gWakes_n (fun x hx z9 => by unfold tb at z9; omega)
theorem gWakes_me18 {M : vM} {b nw j q : Nat} (h : M.1 (tb q) 8 ≠ 2) : (gWakes M b nw j).1 (tb q + 18) = M.1 (tb q + 18) := gWakes_n (fun x hx z9 => by
  have e9 : x = q := by unfold tb at z9; omega
  rw [e9]; exact h)
theorem gWakes_me {M : vM} {b nw j q : Nat} (h : M.1 (tb q) 8 ≠ 2) : (gWakes M b nw j).1 (tb q) = M.1 (tb q) := gWakes_n (fun x hx z9 => by
  have e9 : x = q := by unfold tb at z9; omega
  rw [e9]; exact h)
theorem tbo {q k : Nat} (h : k ≠ 0) (h2 : k ≠ 18) (h3 : k < 20) {i : Nat} : tb i + k ≠ tb q ∧ tb i + k ≠ tb q + 18 := by unfold tb; omega
theorem tbl {c q : Nat} (h : c < 30) : c ≠ tb q ∧ c ≠ tb q + 18 := by unfold tb; omega
/-- the writes of a commit: the first k of them -/
def gWr (p : Nat → Int32) (va : Nat → Int64) (clk : Int32) : Nat → vM → vM
  | 0, M => M
  | k + 1, M => mL (mL (gWr p va clk k M) 15 (nn (p k)) (va k)) 16 (nn (p k)) clk.toInt64
theorem gWr_1 {p : Nat → Int32} {va : Nat → Int64} {clk : Int32} {M : vM} : ∀ {k : Nat}, (gWr p va clk k M).1 = M.1
  | 0 => rfl
  | k + 1 => gWr_1 (k := k)
theorem gWr_2 {p : Nat → Int32} {va : Nat → Int64} {clk : Int32} {M : vM} {c : Nat} (h1 : c ≠ 15) (h2 : c ≠ 16) : ∀ {k : Nat}, (gWr p va clk k M).2 c = M.2 c
  | 0 => rfl
  | k + 1 => by rw [gWr, mL_n _ _ _ _ h2, mL_n _ _ _ _ h1, gWr_2 h1 h2 (k := k)]
noncomputable def gCommit (M : vM) (n b e k nw : Nat) : vM := @ite _ (gValid M b) (Classical.propDecidable _)
  (if nw = 0 then gClear (gDrop M b (nI (e - 1))) b else gClear (gWakes (gWr (M.1 (b + 16)) (M.2 (b + 17)) (M.1 0 5 + 1) nw (mI (gDrop M b (nI (e - 1))) 0 5 (M.1 0 5 + 1))) b nw n) b) (gAbort M b k)
set_option maxHeartbeats 4000000 in
set_option maxRecDepth 100000 in
theorem c_X7_wakeReadersOf {l : Launch} {D : va_G} {Y : Nat → ClassId} {zz : Nat → Nat} {n s cp cq : Nat} {ad : Nat → Nat} {M : vM} {i nw : Nat} (hi : i < n) (h16 : i < 16) (h52 : M.1 5 2 = nI n) (hn16 : n ≤ 16) (hq : n ≤ cq) (hq2 : cq < 2 ^ 31) (h4 : M.1 (tb i + 18) 4 = nI nw) (hw : nw ≤ 40) (hne2 : M.1 (tb i) 8 ≠ 2) (hst : ∀ j, j < n → M.1 (tb j) 8 = 2 → ∃ r k : Nat, M.1 (tb j + 18) 3 = nI r ∧ r ≤ 40 ∧ M.1 (tb j) 13 = nI k ∧ k < 24)  : Ct l D Y zz yX7_wakeReadersOf cX7_wakeReadersOf 4 none 3 102 [.ref (ad (0)), .ref (ad (tb i + 18))] (wK Y n s cp cq ad M) 0 0 (fun r w => r = none ∧ w = wK Y n s cp cq ad (gWakes M (tb i) nw n)) := by
  refine v_entry (by decide +kernel) (Nat.le_of_ble_eq_true rfl) ?_
  intro K X R hR hnm hl hD hY hz
  subst hl hD hY hz
  refine v_sub (lv' := [(0, .ref (ad (0))), (1, .ref (ad (tb i + 18)))]) [0, 1] rfl ?_
  refine v_iconst (pc' := 1) (v := 0) X dX7_wakeReadersOf_0 (by decide) rfl ?_
  refine v_istore_n (pc' := 2) (i := 2) (lv' := [(2, .int 0), (0, .ref (ad (0))), (1, .ref (ad (tb i + 18)))]) X dX7_wakeReadersOf_1 rfl (by decide) rfl rfl ?_
  have hloop : ∀ (dd_hloop : Nat) (j : Nat), n - j < dd_hloop → (j ≤ n) → V K 4 (wK (kY K) n s cp cq ad (gWakes M (tb i) nw j)) 0 0 2 [(2, .int (nI j)), (1, .ref (ad (tb i + 18))), (0, .ref (ad (0)))] [] := by
    intro dd_hloop
    induction dd_hloop with
    | zero => intro j hlt_hloop; exact absurd hlt_hloop (Nat.not_lt_zero _)
    | succ dd_hloop ih_hloop =>
      intro j hlt_hloop hj
      refine v_iload_n (pc' := 3) (i := 2) (j := 0) X dX7_wakeReadersOf_2 rfl rfl rfl ?_
      refine v_aload_n (pc' := 4) (i := 0) (j := 2) X dX7_wakeReadersOf_3 rfl rfl rfl ?_
      refine fk_X7_16 (pc' := 7) X dX7_wakeReadersOf_4 rfl ?_
      refine v_callV (pc' := 10) X (st := [.int (nI j)]) (c_size5 (M := (gWakes M (tb i) nw j))) k_Jx4a65c_size_8abf5 w_ml_X7_59 w_im_Jx4a65c_size_8abf5 w_se_Jx4a65c_Jx4a65c_size_8abf5 rw_L5 (by rw [hR]; exact ⟨Nat.le_of_ble_eq_true rfl, Nat.le_of_ble_eq_true rfl⟩) rfl rfl (Nat.le_of_ble_eq_true rfl) dX7_wakeReadersOf_7 rfl (⟨Nat.zero_le _, Nat.zero_le _⟩) ?_
      rintro _ _ ⟨rfl, rfl⟩
      rw [show (gWakes M (tb i) nw j).1 5 2 = nI n from (congrFun (gWakes_o (fun q => tbl (by decide))) _).trans h52]
      refine v_icmp_ge (pc' := 13) (tgt := 63) X dX7_wakeReadersOf_10 (by decide) rfl (fun hc_10 => ?_) (fun hc_10 => ?_)
      -- taken 10
      · refine v_return X R (Nat.zero_le _) (Nat.zero_le _) dX7_wakeReadersOf_63 ?_
        obtain rfl : j = n := by have hh := le_of_nI hc_10 (by omega) (by omega); omega
        exact ⟨rfl, rfl⟩
      -- not taken 10
      · have hjn : j < n := by
          rcases Nat.lt_or_ge j n with q9 | q9
          · exact q9
          · exact absurd (nI_le q9 (by omega)) hc_10
        have hj16 : j < 16 := by omega
        refine v_aload_n (pc' := 14) (i := 0) (j := 2) X dX7_wakeReadersOf_13 rfl rfl rfl ?_
        refine fk_X7_16 (pc' := 17) X dX7_wakeReadersOf_14 rfl ?_
        refine v_iload_n (pc' := 18) (i := 2) (j := 0) X dX7_wakeReadersOf_17 rfl rfl rfl ?_
        refine v_callV (pc' := 21) X (st := []) (c_get5 (M := (gWakes M (tb i) nw j)) (k := j) hjn hq hq2 ((congrFun (gWakes_o (fun q => tbl (by decide))) _).trans h52)) k_Jx4a65c_get_915e3 w_ml_X7_77 w_im_Jx4a65c_get_915e3 w_se_Jx4a65c_Jx4a65c_get_915e3 rw_L5 (by rw [hR]; exact ⟨Nat.le_of_ble_eq_true rfl, Nat.le_of_ble_eq_true rfl⟩) rfl rfl (Nat.le_of_ble_eq_true rfl) dX7_wakeReadersOf_18 rfl (⟨Nat.zero_le _, Nat.zero_le _⟩) ?_
        rintro _ _ ⟨rfl, rfl⟩
        refine v_castS (pc' := 24) X w_is_X6 w_cl_X7_50 (rw_X6 hjn hj16) dX7_wakeReadersOf_21 rfl ?_
        refine v_astore_n (pc' := 25) (i := 3) (lv' := [(3, .ref (ad (tb j))), (2, .int (nI j)), (1, .ref (ad (tb i + 18))), (0, .ref (ad (0)))]) X dX7_wakeReadersOf_24 rfl (by decide) rfl rfl ?_
        refine v_aload_n (pc' := 26) (i := 3) (j := 0) X dX7_wakeReadersOf_25 rfl rfl rfl ?_
        refine fk_X7_81 (pc' := 29) X hjn hj16 (v := M.1 (tb j) 8) (congrFun (gWakes_ge (Nat.le_refl j)) _) dX7_wakeReadersOf_26 rfl ?_
        refine v_iconst (pc' := 30) (v := 2) X dX7_wakeReadersOf_29 (by decide) rfl ?_
        refine v_icmp_ne (pc' := 33) (tgt := 57) X dX7_wakeReadersOf_30 (by decide) rfl (fun hc_30 => ?_) (fun hc_30 => ?_)
        -- taken 30
        · refine v_iinc (pc' := 60) (j := 1) (v := nI (j + 1)) (lv' := [(2, .int (nI (j + 1))), (3, .ref (ad (tb j))), (1, .ref (ad (tb i + 18))), (0, .ref (ad (0)))]) X dX7_wakeReadersOf_57 rfl (nI_add (j) 1) (by decide) rfl rfl ?_
          refine v_goto (pc' := 2) X dX7_wakeReadersOf_60 (by decide) ?_
          refine v_eqw (ws' := wK (kY K) n s cp cq ad (gWakes M (tb i) nw (j + 1))) (by rw [gWakes_f (fun z9 => hc_30 z9.1)]) ?_
          refine v_sub (lv' := [(2, .int (nI (j + 1))), (1, .ref (ad (tb i + 18))), (0, .ref (ad (0)))]) [0, 2, 3] rfl ?_
          exact ih_hloop (j + 1) (by omega) (by omega)
        -- not taken 30
        · obtain ⟨r9, k9, h3j, hr9, h13j, hk9⟩ := hst j hjn hc_30
          refine v_aload_n (pc' := 34) (i := 3) (j := 0) X dX7_wakeReadersOf_33 rfl rfl rfl ?_
          refine fk_X7_100 (pc' := 37) X hjn hj16 dX7_wakeReadersOf_34 rfl ?_
          refine v_aload_n (pc' := 38) (i := 1) (j := 2) X dX7_wakeReadersOf_37 rfl rfl rfl ?_
          refine v_callVN (pc' := 41) X (st := []) (c_X3_readsOneThatIsIn (M := (gWakes M (tb i) nw j)) (i := j) (j := i) hjn hj16 hi h16 (r9 := r9) (nw := nw) ((congrFun (gWakes_ge18 (Nat.le_refl j)) _).trans h3j) hr9 ((congrFun (gWakes_me18 hne2) _).trans h4) hw) k_X3_readsOneThatIsIn n_ml_X7_352 w_im_X3_readsOneThatIsIn w_se_X3_X3_readsOneThatIsIn (rw_X3 hjn hj16) (by rw [hR]; exact ⟨Nat.le_of_ble_eq_true rfl, Nat.le_of_ble_eq_true rfl⟩) rfl rfl (Nat.le_of_ble_eq_true rfl) dX7_wakeReadersOf_38 rfl (⟨Nat.zero_le _, Nat.zero_le _⟩) ?_
          rintro _ _ ⟨rfl, rfl⟩
          rw [gWakes_o (fun q => tbo (k := 16) (by decide) (by decide) (by decide)), gWakes_o (fun q => tbo (k := 15) (by decide) (by decide) (by decide))]
          refine v_ifB_eq (pc' := 44) (tgt := 57) X dX7_wakeReadersOf_41 (by decide) rfl (fun hc_41 => ?_) (fun hc_41 => ?_)
          -- taken 41
          · refine v_iinc (pc' := 60) (j := 1) (v := nI (j + 1)) (lv' := [(2, .int (nI (j + 1))), (3, .ref (ad (tb j))), (1, .ref (ad (tb i + 18))), (0, .ref (ad (0)))]) X dX7_wakeReadersOf_57 rfl (nI_add (j) 1) (by decide) rfl rfl ?_
            refine v_goto (pc' := 2) X dX7_wakeReadersOf_60 (by decide) ?_
            refine v_eqw (ws' := wK (kY K) n s cp cq ad (gWakes M (tb i) nw (j + 1))) (by rw [gWakes_f (fun z9 => hc_41 (by rw [h3j, nn_nI (by omega)] at z9; exact z9.2))]) ?_
            refine v_sub (lv' := [(2, .int (nI (j + 1))), (1, .ref (ad (tb i + 18))), (0, .ref (ad (0)))]) [0, 2, 3] rfl ?_
            exact ih_hloop (j + 1) (by omega) (by omega)
          -- not taken 41
          · refine v_aload_n (pc' := 45) (i := 3) (j := 0) X dX7_wakeReadersOf_44 rfl rfl rfl ?_
            refine v_iconst (pc' := 46) (v := 1) X dX7_wakeReadersOf_45 (by decide) rfl ?_
            refine fq_X7_81 (pc' := 49) X hjn hj16 dX7_wakeReadersOf_46 rfl ?_
            refine v_aload_n (pc' := 50) (i := 3) (j := 0) X dX7_wakeReadersOf_49 rfl rfl rfl ?_
            refine v_aload_n (pc' := 51) (i := 0) (j := 3) X dX7_wakeReadersOf_50 rfl rfl rfl ?_
            refine fk_X7_37 (pc' := 54) X (v := M.1 0 5) ((congrFun (mI_n _ _ _ _ (by unfold tb; omega)) _).trans (congrFun (gWakes_o (fun q => tbl (by decide))) _)) dX7_wakeReadersOf_51 rfl ?_
            refine v_callVN (pc' := 57) X (st := []) (c_X6_beginAgain (M := (mI (gWakes M (tb i) nw j) (tb j) 8 1)) hjn hj16 (k := k9) ((mI_o _ _ _ _ (by decide)).trans ((congrFun (gWakes_ge (Nat.le_refl j)) _).trans h13j)) hk9 (clk := M.1 0 5)) k_X6_beginAgain n_ml_X7_331 w_im_X6_beginAgain w_se_X6_X6_beginAgain (rw_X6 hjn hj16) (by rw [hR]; exact ⟨Nat.le_of_ble_eq_true rfl, Nat.le_of_ble_eq_true rfl⟩) rfl rfl (Nat.le_of_ble_eq_true rfl) dX7_wakeReadersOf_54 rfl (⟨Nat.zero_le _, Nat.zero_le _⟩) ?_
            rintro _ _ ⟨rfl, rfl⟩
            refine v_iinc (pc' := 60) (j := 1) (v := nI (j + 1)) (lv' := [(2, .int (nI (j + 1))), (3, .ref (ad (tb j))), (1, .ref (ad (tb i + 18))), (0, .ref (ad (0)))]) X dX7_wakeReadersOf_57 rfl (nI_add (j) 1) (by decide) rfl rfl ?_
            refine v_goto (pc' := 2) X dX7_wakeReadersOf_60 (by decide) ?_
            refine v_eqw (ws' := wK (kY K) n s cp cq ad (gWakes M (tb i) nw (j + 1))) (by rw [gWakes_t ⟨hc_30, by rw [h3j, nn_nI (by omega)]; exact hc_41⟩, h13j, nn_nI (by omega)]) ?_
            refine v_sub (lv' := [(2, .int (nI (j + 1))), (1, .ref (ad (tb i + 18))), (0, .ref (ad (0)))]) [0, 2, 3] rfl ?_
            exact ih_hloop (j + 1) (by omega) (by omega)
  refine v_eqw (ws' := wK (kY K) n s cp cq ad (gWakes M (tb i) nw 0)) rfl ?_
  refine v_sub (lv' := [(2, .int 0), (1, .ref (ad (tb i + 18))), (0, .ref (ad (0)))]) [0, 2, 1] rfl ?_
  exact hloop _ 0 (Nat.lt_succ_self _) (Nat.zero_le _)
theorem gDrop_w {M : vM} {i e nw : Nat} (c : Nat) (h : c ≠ tb i) (h0 : c ≠ 0) : (gWr (M.1 (tb i + 16)) (M.2 (tb i + 17)) (M.1 0 5 + 1) nw (mI (gDrop M (tb i) (nI (e - 1))) 0 5 (M.1 0 5 + 1))).1 c = M.1 c := by
  rw [gWr_1, mI_n _ _ _ _ h0, gDrop_n h]
set_option maxHeartbeats 4000000 in
set_option maxRecDepth 100000 in
theorem c_X7_commit {l : Launch} {D : va_G} {Y : Nat → ClassId} {zz : Nat → Nat} {n s cp cq : Nat} {ad : Nat → Nat} {M : vM} {i e k r9 nw : Nat} (hi : i < n) (h16 : i < 16) (h52 : M.1 5 2 = nI n) (hn16 : n ≤ 16) (hq : n ≤ cq) (hq2 : cq < 2 ^ 31) (h12 : M.1 (tb i) 12 = nI e) (he : e ≤ 24) (he1 : 1 ≤ e) (h13 : M.1 (tb i) 13 = nI k) (hk : k < 24) (h3 : M.1 (tb i + 18) 3 = nI r9) (hr : r9 ≤ 40) (hpl : ∀ k, k < r9 → M.1 (tb i + 15) k = nI (nn (M.1 (tb i + 15) k)) ∧ nn (M.1 (tb i + 15) k) < 200) (h4 : M.1 (tb i + 18) 4 = nI nw) (hw : nw ≤ 40) (hpw : ∀ k, k < nw → M.1 (tb i + 16) k = nI (nn (M.1 (tb i + 16) k)) ∧ nn (M.1 (tb i + 16) k) < 200) (hne2 : M.1 (tb i) 8 ≠ 2) (hst : ∀ j, j < n → M.1 (tb j) 8 = 2 → ∃ r k : Nat, M.1 (tb j + 18) 3 = nI r ∧ r ≤ 40 ∧ M.1 (tb j) 13 = nI k ∧ k < 24)  : Ct l D Y zz yX7_commit cX7_commit 4 none 4 125 [.ref (ad (0)), .ref (ad (tb i))] (wK Y n s cp cq ad M) 0 0 (fun r w => r = none ∧ w = wK Y n s cp cq ad (gCommit M n (tb i) e k nw)) := by
  refine v_entry (by decide +kernel) (Nat.le_of_ble_eq_true rfl) ?_
  intro K X R hR hnm hl hD hY hz
  subst hl hD hY hz
  refine v_sub (lv' := [(0, .ref (ad (0))), (1, .ref (ad (tb i)))]) [0, 1] rfl ?_
  refine v_aload_n (pc' := 1) (i := 1) (j := 1) X dX7_commit_0 rfl rfl rfl ?_
  refine fk_X7_100 (pc' := 4) X hi h16 dX7_commit_1 rfl ?_
  refine v_astore_n (pc' := 5) (i := 2) (lv' := [(2, .ref (ad (tb i + 18))), (0, .ref (ad (0))), (1, .ref (ad (tb i)))]) X dX7_commit_4 rfl (by decide) rfl rfl ?_
  refine v_aload_n (pc' := 6) (i := 2) (j := 0) X dX7_commit_5 rfl rfl rfl ?_
  refine v_aload_n (pc' := 7) (i := 0) (j := 1) X dX7_commit_6 rfl rfl rfl ?_
  refine fk_X7_26 (pc' := 10) X dX7_commit_7 rfl ?_
  refine v_callVN (pc' := 13) X (st := []) (c_X3_isValid (M := M) hi h16 (r9 := r9) h3 hr hpl) k_X3_isValid n_ml_X7_334 w_im_X3_isValid w_se_X3_X3_isValid (rw_X3 hi h16) (by rw [hR]; exact ⟨Nat.le_of_ble_eq_true rfl, Nat.le_of_ble_eq_true rfl⟩) rfl rfl (Nat.le_of_ble_eq_true rfl) dX7_commit_10 rfl (⟨Nat.zero_le _, Nat.zero_le _⟩) ?_
  rintro _ _ ⟨rfl, rfl⟩
  have hVV : (∀ k, k < r9 → ¬ (M.1 (tb i + 18) 5).toInt64 < M.2 16 (nn (M.1 (tb i + 15) k))) ↔ gValid M (tb i) := by unfold gValid; rw [h3, nn_nI (by omega)]
  rw [propext hVV]
  refine v_ifB_ne (pc' := 16) (tgt := 22) X dX7_commit_13 (by decide) rfl (fun hc_13 => ?_) (fun hc_13 => ?_)
  -- taken 13
  · refine v_aload_n (pc' := 23) (i := 1) (j := 2) X dX7_commit_22 rfl rfl rfl ?_
    refine v_aload_n (pc' := 24) (i := 1) (j := 2) X dX7_commit_23 rfl rfl rfl ?_
    refine fk_X7_97 (pc' := 27) X hi h16 (v := nI e) h12 dX7_commit_24 rfl ?_
    refine v_iconst (pc' := 28) (v := 1) X dX7_commit_27 (by decide) rfl ?_
    refine v_isubV (pc' := 29) (v := nI (e - 1)) X (pk_sub (a := e) (b := 1) (by omega)) dX7_commit_28 rfl ?_
    refine v_callVN (pc' := 32) X (st := []) (c_X6_dropNestsTo (M := M) hi h16 (k := nI (e - 1))) k_X6_dropNestsTo n_ml_X7_300 w_im_X6_dropNestsTo w_se_X6_X6_dropNestsTo (rw_X6 hi h16) (by rw [hR]; exact ⟨Nat.le_of_ble_eq_true rfl, Nat.le_of_ble_eq_true rfl⟩) rfl rfl (Nat.le_of_ble_eq_true rfl) dX7_commit_29 rfl (⟨Nat.zero_le _, Nat.zero_le _⟩) ?_
    rintro _ _ ⟨rfl, rfl⟩
    refine v_aload_n (pc' := 33) (i := 2) (j := 0) X dX7_commit_32 rfl rfl rfl ?_
    refine fk_X7_109 (pc' := 36) X hi h16 (v := nI nw) ((congrFun (gDrop_n (by omega)) _).trans h4) dX7_commit_33 rfl ?_
    refine v_if_le (pc' := 39) (tgt := 93) X dX7_commit_36 (by decide) rfl (fun hc_36 => ?_) (fun hc_36 => ?_)
    -- taken 36
    · refine v_aload_n (pc' := 94) (i := 2) (j := 0) X dX7_commit_93 rfl rfl rfl ?_
      refine v_callVN (pc' := 97) X (st := []) (c_X3_clear (M := (gDrop M (tb i) (nI (e - 1)))) hi h16) k_X3_clear n_ml_X7_349 w_im_X3_clear w_se_X3_X3_clear (rw_X3 hi h16) (by rw [hR]; exact ⟨Nat.le_of_ble_eq_true rfl, Nat.le_of_ble_eq_true rfl⟩) rfl rfl (Nat.le_of_ble_eq_true rfl) dX7_commit_94 rfl (⟨Nat.zero_le _, Nat.zero_le _⟩) ?_
      rintro _ _ ⟨rfl, rfl⟩
      refine v_return X R (Nat.zero_le _) (Nat.zero_le _) dX7_commit_97 ?_
      have hw0 : nw = 0 := by
        rcases Nat.eq_zero_or_pos nw with q9 | q9
        · exact q9
        · exact absurd hc_36 (fun z9 => absurd (le_of_nI (b := 0) z9 (by omega) (by omega)) (by omega))
      rw [gCommit, if_pos hc_13, if_pos hw0]
      exact ⟨rfl, rfl⟩
    -- not taken 36
    · refine v_aload_n (pc' := 40) (i := 0) (j := 1) X dX7_commit_39 rfl rfl rfl ?_
      refine v_dup (pc' := 41) X dX7_commit_40 rfl rfl ?_
      refine fk_X7_37 (pc' := 44) X (v := M.1 0 5) (congrFun (gDrop_n (by unfold tb; omega)) _) dX7_commit_41 rfl ?_
      refine v_iconst (pc' := 45) (v := 1) X dX7_commit_44 (by decide) rfl ?_
      refine v_iadd (pc' := 46) X dX7_commit_45 rfl ?_
      refine fq_X7_37 (pc' := 49) X dX7_commit_46 rfl ?_
      refine v_iconst (pc' := 50) (v := 0) X dX7_commit_49 (by decide) rfl ?_
      refine v_istore_n (pc' := 51) (i := 3) (lv' := [(3, .int 0), (2, .ref (ad (tb i + 18))), (0, .ref (ad (0))), (1, .ref (ad (tb i)))]) X dX7_commit_50 rfl (by decide) rfl rfl ?_
      have hloop : ∀ (dd_hloop : Nat) (q : Nat), nw - q < dd_hloop → (q ≤ nw) → V K 4 (wK (kY K) n s cp cq ad (gWr (M.1 (tb i + 16)) (M.2 (tb i + 17)) (M.1 0 5 + 1) q (mI (gDrop M (tb i) (nI (e - 1))) 0 5 (M.1 0 5 + 1)))) 0 0 51 [(3, .int (nI q)), (2, .ref (ad (tb i + 18))), (1, .ref (ad (tb i))), (0, .ref (ad (0)))] [] := by
        intro dd_hloop
        induction dd_hloop with
        | zero => intro q hlt_hloop; exact absurd hlt_hloop (Nat.not_lt_zero _)
        | succ dd_hloop ih_hloop =>
          intro q hlt_hloop hqw
          refine v_iload_n (pc' := 52) (i := 3) (j := 0) X dX7_commit_51 rfl rfl rfl ?_
          refine v_aload_n (pc' := 53) (i := 2) (j := 1) X dX7_commit_52 rfl rfl rfl ?_
          refine fk_X7_109 (pc' := 56) X hi h16 (v := nI nw) ((congrFun (gDrop_w _ (by omega) (by unfold tb; omega)) _).trans h4) dX7_commit_53 rfl ?_
          refine v_icmp_ge (pc' := 59) (tgt := 88) X dX7_commit_56 (by decide) rfl (fun hc_56 => ?_) (fun hc_56 => ?_)
          -- taken 56
          · obtain rfl : q = nw := by have hh := le_of_nI hc_56 (by omega) (by omega); omega
            have hst9 : ∀ j, j < n → (gWr (M.1 (tb i + 16)) (M.2 (tb i + 17)) (M.1 0 5 + 1) q (mI (gDrop M (tb i) (nI (e - 1))) 0 5 (M.1 0 5 + 1))).1 (tb j) 8 = 2 → ∃ r k : Nat, (gWr (M.1 (tb i + 16)) (M.2 (tb i + 17)) (M.1 0 5 + 1) q (mI (gDrop M (tb i) (nI (e - 1))) 0 5 (M.1 0 5 + 1))).1 (tb j + 18) 3 = nI r ∧ r ≤ 40 ∧ (gWr (M.1 (tb i + 16)) (M.2 (tb i + 17)) (M.1 0 5 + 1) q (mI (gDrop M (tb i) (nI (e - 1))) 0 5 (M.1 0 5 + 1))).1 (tb j) 13 = nI k ∧ k < 24 := by
              intro j hj h8
              have hji : j ≠ i := by
                intro z9
                rw [z9, gWr_1, mI_n _ _ _ _ (by unfold tb; omega), gDrop_o (by decide) (by decide)] at h8
                exact hne2 h8
              rw [gDrop_w _ (by unfold tb; omega) (by unfold tb; omega)] at h8
              rw [gDrop_w _ (by unfold tb; omega) (by unfold tb; omega), gDrop_w _ (by unfold tb; omega) (by unfold tb; omega)]
              exact hst j hj h8
            refine v_aload_n (pc' := 89) (i := 0) (j := 3) X dX7_commit_88 rfl rfl rfl ?_
            refine v_aload_n (pc' := 90) (i := 2) (j := 1) X dX7_commit_89 rfl rfl rfl ?_
            refine v_callV (pc' := 93) X (st := []) (c_X7_wakeReadersOf (M := (gWr (M.1 (tb i + 16)) (M.2 (tb i + 17)) (M.1 0 5 + 1) q (mI (gDrop M (tb i) (nI (e - 1))) 0 5 (M.1 0 5 + 1)))) hi h16 (nw := q) ((congrFun (gDrop_w _ (by unfold tb; omega) (by decide)) _).trans h52) hn16 hq hq2 ((congrFun (gDrop_w _ (by omega) (by unfold tb; omega)) _).trans h4) hw (by rw [gWr_1, mI_n _ _ _ _ (by unfold tb; omega), gDrop_o (by decide) (by decide)]; exact hne2) hst9) k_X7_wakeReadersOf w_ml_X7_345 w_im_X7_wakeReadersOf w_se_X7_X7_wakeReadersOf rw_X7 (by rw [hR]; exact ⟨Nat.le_of_ble_eq_true rfl, Nat.le_of_ble_eq_true rfl⟩) rfl rfl (Nat.le_of_ble_eq_true rfl) dX7_commit_90 rfl (⟨Nat.zero_le _, Nat.zero_le _⟩) ?_
            rintro _ _ ⟨rfl, rfl⟩
            refine v_aload_n (pc' := 94) (i := 2) (j := 1) X dX7_commit_93 rfl rfl rfl ?_
            refine v_callVN (pc' := 97) X (st := []) (c_X3_clear (M := (gWakes (gWr (M.1 (tb i + 16)) (M.2 (tb i + 17)) (M.1 0 5 + 1) q (mI (gDrop M (tb i) (nI (e - 1))) 0 5 (M.1 0 5 + 1))) (tb i) q n)) hi h16) k_X3_clear n_ml_X7_349 w_im_X3_clear w_se_X3_X3_clear (rw_X3 hi h16) (by rw [hR]; exact ⟨Nat.le_of_ble_eq_true rfl, Nat.le_of_ble_eq_true rfl⟩) rfl rfl (Nat.le_of_ble_eq_true rfl) dX7_commit_94 rfl (⟨Nat.zero_le _, Nat.zero_le _⟩) ?_
            rintro _ _ ⟨rfl, rfl⟩
            refine v_return X R (Nat.zero_le _) (Nat.zero_le _) dX7_commit_97 ?_
            have hw0 : ¬ q = 0 := fun z9 => hc_36 (by rw [z9]; decide)
            rw [gCommit, if_pos hc_13, if_neg hw0]
            exact ⟨rfl, rfl⟩
          -- not taken 56
          · have hq9 : q < nw := by
              rcases Nat.lt_or_ge q nw with q9 | q9
              · exact q9
              · exact absurd (nI_le q9 (by omega)) hc_56
            refine v_aload_n (pc' := 60) (i := 0) (j := 3) X dX7_commit_59 rfl rfl rfl ?_
            refine fk_X7_26 (pc' := 63) X dX7_commit_60 rfl ?_
            refine v_aload_n (pc' := 64) (i := 2) (j := 1) X dX7_commit_63 rfl rfl rfl ?_
            refine fk_X7_338 (pc' := 67) X hi h16 dX7_commit_64 rfl ?_
            refine v_iload_n (pc' := 68) (i := 3) (j := 0) X dX7_commit_67 rfl rfl rfl ?_
            refine ak_G16 (pc' := 69) X hi h16 (v := nI (nn (M.1 (tb i + 16) q))) (q) rfl (by omega) ((congrFun (gDrop_w _ (by omega) (by unfold tb; omega)) _).trans (hpw q hq9).1) dX7_commit_68 rfl ?_
            refine v_aload_n (pc' := 70) (i := 2) (j := 1) X dX7_commit_69 rfl rfl rfl ?_
            refine fk_X7_314 (pc' := 73) X hi h16 dX7_commit_70 rfl ?_
            refine v_iload_n (pc' := 74) (i := 3) (j := 0) X dX7_commit_73 rfl rfl rfl ?_
            refine ak_G17 (pc' := 75) X hi h16 (v := M.2 (tb i + 17) q) (q) rfl (by omega) (congrFun ((gWr_2 (by unfold tb; omega) (by unfold tb; omega)).trans (by rw [mI_2, gDrop_2])) _) dX7_commit_74 rfl ?_
            refine v_aload_n (pc' := 76) (i := 0) (j := 3) X dX7_commit_75 rfl rfl rfl ?_
            refine fk_X7_37 (pc' := 79) X (v := M.1 0 5 + 1) ((congrFun (congrFun gWr_1 _) _).trans (mI_s _ _ _ _)) dX7_commit_76 rfl ?_
            refine v_callVN (pc' := 82) X (st := []) (c_X1_assign (M := (gWr (M.1 (tb i + 16)) (M.2 (tb i + 17)) (M.1 0 5 + 1) q (mI (gDrop M (tb i) (nI (e - 1))) 0 5 (M.1 0 5 + 1)))) (p := nn (M.1 (tb i + 16) q)) (hpw q hq9).2 (v := M.2 (tb i + 17) q) (c := M.1 0 5 + 1)) k_X1_assign n_ml_X7_341 w_im_X1_assign w_se_X1_X1_assign rw_X1 (by rw [hR]; exact ⟨Nat.le_of_ble_eq_true rfl, Nat.le_of_ble_eq_true rfl⟩) rfl rfl (Nat.le_of_ble_eq_true rfl) dX7_commit_79 rfl (⟨Nat.zero_le _, Nat.zero_le _⟩) ?_
            rintro _ _ ⟨rfl, rfl⟩
            refine v_iinc (pc' := 85) (j := 0) (v := nI (q + 1)) (lv' := [(3, .int (nI (q + 1))), (2, .ref (ad (tb i + 18))), (1, .ref (ad (tb i))), (0, .ref (ad (0)))]) X dX7_commit_82 rfl (nI_add (q) 1) (by decide) rfl rfl ?_
            refine v_goto (pc' := 51) X dX7_commit_85 (by decide) ?_
            refine v_eqw (ws' := wK (kY K) n s cp cq ad (gWr (M.1 (tb i + 16)) (M.2 (tb i + 17)) (M.1 0 5 + 1) (q + 1) (mI (gDrop M (tb i) (nI (e - 1))) 0 5 (M.1 0 5 + 1)))) rfl ?_
            exact ih_hloop (q + 1) (by omega) (by omega)
      refine v_eqw (ws' := wK (kY K) n s cp cq ad (gWr (M.1 (tb i + 16)) (M.2 (tb i + 17)) (M.1 0 5 + 1) 0 (mI (gDrop M (tb i) (nI (e - 1))) 0 5 (M.1 0 5 + 1)))) rfl ?_
      refine v_sub (lv' := [(3, .int 0), (2, .ref (ad (tb i + 18))), (1, .ref (ad (tb i))), (0, .ref (ad (0)))]) [0, 1, 3, 2] rfl ?_
      exact hloop _ 0 (Nat.lt_succ_self _) (Nat.zero_le _)
  -- not taken 13
  · refine v_aload_n (pc' := 17) (i := 0) (j := 1) X dX7_commit_16 rfl rfl rfl ?_
    refine v_aload_n (pc' := 18) (i := 1) (j := 2) X dX7_commit_17 rfl rfl rfl ?_
    refine v_callV (pc' := 21) X (st := []) (c_X7_abort (M := M) hi h16 (k := k) h13 hk) k_X7_abort w_ml_X7_317 w_im_X7_abort w_se_X7_X7_abort rw_X7 (by rw [hR]; exact ⟨Nat.le_of_ble_eq_true rfl, Nat.le_of_ble_eq_true rfl⟩) rfl rfl (Nat.le_of_ble_eq_true rfl) dX7_commit_18 rfl (⟨Nat.zero_le _, Nat.zero_le _⟩) ?_
    rintro _ _ ⟨rfl, rfl⟩
    refine v_return X R (Nat.zero_le _) (Nat.zero_le _) dX7_commit_21 ?_
    rw [gCommit, if_neg hc_13]
    exact ⟨rfl, rfl⟩
