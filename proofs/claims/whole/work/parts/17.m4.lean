/-! MARKING AND MOVING (reference) -/
def ok1 (v : Int64) : Prop := isI v ∨ plOk v
def row01 (f : Nat → Int32) : Prop := ∀ p, p < 200 → f p = 0 ∨ f p = 1
noncomputable def mk1 (f : Nat → Int32) (v : Int64) : Nat → Int32 := @ite _ (isI v) (Classical.propDecidable _) f (upd f (pl v) 1)
noncomputable def mkR (f : Nat → Int32) (row : Nat → Int64) : Nat → Nat → Int32
  | 0 => f
  | k + 1 => mk1 (mkR f row k) (row k)
theorem mk1_01 {f : Nat → Int32} (h : row01 f) (v : Int64) : row01 (mk1 f v) := by
  unfold mk1
  split
  · exact h
  · intro p hp
    by_cases hq : p = pl v
    · subst hq; exact Or.inr pk_us
    · rw [pk_un hq]; exact h p hp
theorem mkR_01 {f : Nat → Int32} (h : row01 f) (row : Nat → Int64) : ∀ k, row01 (mkR f row k)
  | 0 => h
  | k + 1 => mk1_01 (mkR_01 h row k) _
theorem mk1_i {f : Nat → Int32} {v : Int64} (h : isI v) : mk1 f v = f := if_pos h
theorem mk1_k {f : Nat → Int32} {v : Int64} (h : f (pl v) = 1) : mk1 f v = f := by
  unfold mk1
  split
  · rfl
  · funext p
    by_cases hq : p = pl v
    · subst hq; rw [pk_us, h]
    · rw [pk_un hq]
theorem mk1_n {f : Nat → Int32} {v : Int64} (h : ¬ isI v) : mk1 f v = upd f (pl v) 1 := if_neg h
noncomputable def mv (to : Nat → Int32) (v : Int64) : Int64 := @ite _ (isI v) (Classical.propDecidable _) v ((@ite _ (isP v) (Classical.propDecidable _) 8589934592 17179869184) + (to (pl v)).toInt64)
noncomputable def mvR (to : Nat → Int32) (row : Nat → Int64) (e : Nat) : Nat → Int64 := fun k => if k < e then mv to (row k) else row k
theorem mRI_mRI (M : vM) (c : Nat) (f g : Nat → Int32) : mRI (mRI M c f) c g = mRI M c g := by
  show (va_up (va_up M.1 c f) c g, M.2) = _
  rw [bx_uu]; rfl
theorem mRL_mRL (M : vM) (c : Nat) (f g : Nat → Int64) : mRL (mRL M c f) c g = mRL M c g := by
  show (M.1, va_up (va_up M.2 c f) c g) = _
  rw [bx_uu]; rfl
set_option maxHeartbeats 4000000 in
set_option maxRecDepth 100000 in
/-- reach(v) -/
theorem c_X9_reach {l : Launch} {D : va_G} {Y : Nat → ClassId} {z : Nat → Nat} {n : Nat} {ad : Nat → Nat} {M : vM} {v : Int64} (hv : ok1 v) (h01 : row01 (M.1 18)) : Ct l D Y z yX9_reach cX9_reach 3 (some FieldType.boolean) 1 21 [.ref (ad (0)), .long v] (wM Y n ad M) 0 0 (fun r w => r = some (.int (bP (¬ isI v ∧ M.1 18 (pl v) = 0))) ∧ w = wM Y n ad (mRI M 18 (mk1 (M.1 18) v))) := by
  refine v_entry (by decide +kernel) (Nat.le_of_ble_eq_true rfl) ?_
  intro K X R hR hnm hl hD hY hz
  subst hl hD hY hz
  refine v_sub (lv' := [(0, .ref (ad (0))), (1, .long v)]) [0, 1] rfl ?_
  refine v_lload_n (pc' := 1) (i := 1) (j := 1) X dX9_reach_0 rfl rfl rfl ?_
  refine v_callS (pc' := 4) X (st := []) (c_X9_isInt (n := n) (ad := ad) (M := M) (v := v)) k_X9_isInt w_ml_X9_108 w_st_X9_isInt (by rw [hR]; exact ⟨Nat.le_of_ble_eq_true rfl, Nat.le_of_ble_eq_true rfl⟩) rfl rfl (Nat.le_of_ble_eq_true rfl) dX9_reach_1 rfl (⟨Nat.zero_le _, Nat.zero_le _⟩) ?_
  rintro _ _ ⟨rfl, rfl⟩
  refine v_ifB_ne (pc' := 7) (tgt := 19) X dX9_reach_4 (by decide) rfl (fun hc_4 => ?_) (fun hc_4 => ?_)
  -- taken 4
  · refine v_iconst (pc' := 20) (v := 0) X dX9_reach_19 (by decide) rfl ?_
    refine v_zreturn X R (by decide) (Nat.zero_le _) (Nat.zero_le _) dX9_reach_20 ?_
    exact ⟨by rw [bP_f (fun z9 => z9.1 hc_4)], by rw [mk1_i hc_4, mRI_self]⟩
  -- not taken 4
  · obtain ⟨hp1, hp2⟩ := hv.resolve_left hc_4
    refine v_aload_n (pc' := 8) (i := 0) (j := 0) X dX9_reach_7 rfl rfl rfl ?_
    refine fg_X9_46 (pc' := 11) X dX9_reach_8 rfl ?_
    refine v_lload_n (pc' := 12) (i := 1) (j := 1) X dX9_reach_11 rfl rfl rfl ?_
    refine v_callS (pc' := 15) X (st := [.ref (ad (18))]) (c_X9_place (n := n) (ad := ad) (M := M) (v := v)) k_X9_place w_ml_X9_137 w_st_X9_place (by rw [hR]; exact ⟨Nat.le_of_ble_eq_true rfl, Nat.le_of_ble_eq_true rfl⟩) rfl rfl (Nat.le_of_ble_eq_true rfl) dX9_reach_12 rfl (⟨Nat.zero_le _, Nat.zero_le _⟩) ?_
    rintro _ _ ⟨rfl, rfl⟩
    refine ag_M18 (pc' := 16) X (v := M.1 18 (pl v)) (pl v) hp2 (by omega) rfl dX9_reach_15 rfl ?_
    refine v_if_eq (pc' := 19) (tgt := 21) X dX9_reach_16 (by decide) rfl (fun hc_16 => ?_) (fun hc_16 => ?_)
    -- taken 16
    · refine v_aload_n (pc' := 22) (i := 0) (j := 0) X dX9_reach_21 rfl rfl rfl ?_
      refine fg_X9_46 (pc' := 25) X dX9_reach_22 rfl ?_
      refine v_lload_n (pc' := 26) (i := 1) (j := 1) X dX9_reach_25 rfl rfl rfl ?_
      refine v_callS (pc' := 29) X (st := [.ref (ad (18))]) (c_X9_place (n := n) (ad := ad) (M := M) (v := v)) k_X9_place w_ml_X9_137 w_st_X9_place (by rw [hR]; exact ⟨Nat.le_of_ble_eq_true rfl, Nat.le_of_ble_eq_true rfl⟩) rfl rfl (Nat.le_of_ble_eq_true rfl) dX9_reach_26 rfl (⟨Nat.zero_le _, Nat.zero_le _⟩) ?_
      rintro _ _ ⟨rfl, rfl⟩
      refine v_iconst (pc' := 30) (v := 1) X dX9_reach_29 (by decide) rfl ?_
      refine as_M18 (pc' := 31) X (y := 1) (by decide) (pl v) hp2 (by omega) dX9_reach_30 rfl ?_
      refine v_iconst (pc' := 32) (v := 1) X dX9_reach_31 (by decide) rfl ?_
      refine v_zreturn X R (by decide) (Nat.zero_le _) (Nat.zero_le _) dX9_reach_32 ?_
      exact ⟨by rw [bP_t ⟨hc_4, hc_16⟩], by rw [mk1_n hc_4]; rfl⟩
    -- not taken 16
    · refine v_iconst (pc' := 20) (v := 0) X dX9_reach_19 (by decide) rfl ?_
      refine v_zreturn X R (by decide) (Nat.zero_le _) (Nat.zero_le _) dX9_reach_20 ?_
      exact ⟨by rw [bP_f (fun z9 => hc_16 z9.2)], by rw [mk1_k ((h01 _ hp1).resolve_left hc_16), mRI_self]⟩
set_option maxHeartbeats 4000000 in
set_option maxRecDepth 100000 in
/-- reachRow(row, e) -/
theorem c_X9_reachRow {l : Launch} {D : va_G} {Y : Nat → ClassId} {z : Nat → Nat} {n : Nat} {ad : Nat → Nat} {M : vM} {c len : Nat} (hc : c ∈ csM n) (hcell : ∀ f g, cM n ad Y c f g = .inl (Y 1, len, .inr (.inl g))) (hlen : len < 2 ^ 31) {e : Nat} (he : e ≤ len) (hrow : ∀ k, k < e → ok1 (M.2 c k)) (h01 : row01 (M.1 18)) : Ct l D Y z yX9_reachRow cX9_reachRow 5 (some FieldType.boolean) 2 43 [.ref (ad (0)), .ref (ad (c)), .int (nI e)] (wM Y n ad M) 0 0 (fun r w => ∃ x : Int32, r = some (.int x) ∧ w = wM Y n ad (mRI M 18 (mkR (M.1 18) (M.2 c) e))) := by
  refine v_entry (by decide +kernel) (Nat.le_of_ble_eq_true rfl) ?_
  intro K X R hR hnm hl hD hY hz
  subst hl hD hY hz
  refine v_sub (lv' := [(0, .ref (ad (0))), (1, .ref (ad (c))), (2, .int (nI e))]) [0, 1, 2] rfl ?_
  refine v_iconst (pc' := 1) (v := 0) X dX9_reachRow_0 (by decide) rfl ?_
  refine v_istore_n (pc' := 2) (i := 3) (lv' := [(3, .int 0), (0, .ref (ad (0))), (1, .ref (ad (c))), (2, .int (nI e))]) X dX9_reachRow_1 rfl (by decide) rfl rfl ?_
  refine v_iconst (pc' := 3) (v := 0) X dX9_reachRow_2 (by decide) rfl ?_
  refine v_istore (pc' := 5) (lv' := [(4, .int 0), (3, .int 0), (0, .ref (ad (0))), (1, .ref (ad (c))), (2, .int (nI e))]) X dX9_reachRow_3 (by decide) rfl rfl ?_
  have hloop : ∀ (dd_hloop : Nat) (k : Nat) (x3 : Int32), e - k < dd_hloop → (k ≤ e) → (∃ p : Prop, x3 = bP p) → V K 5 (wM (kY K) n ad (mRI M 18 (mkR (M.1 18) (M.2 c) k))) 0 0 5 [(4, .int (nI k)), (3, .int x3), (2, .int (nI e)), (1, .ref (ad (c))), (0, .ref (ad (0)))] [] := by
    intro dd_hloop
    induction dd_hloop with
    | zero => intro k x3 hlt_hloop; exact absurd hlt_hloop (Nat.not_lt_zero _)
    | succ dd_hloop ih_hloop =>
      intro k x3 hlt_hloop hk hx3
      refine v_iload (pc' := 7) (j := 0) X dX9_reachRow_5 rfl rfl ?_
      refine v_iload_n (pc' := 8) (i := 2) (j := 2) X dX9_reachRow_7 rfl rfl rfl ?_
      refine v_icmp_ge (pc' := 11) (tgt := 28) X dX9_reachRow_8 (by decide) rfl (fun hc_8 => ?_) (fun hc_8 => ?_)
      -- taken 8
      · refine v_iload_n (pc' := 29) (i := 3) (j := 1) X dX9_reachRow_28 rfl rfl rfl ?_
        refine v_zreturn X R (by obtain ⟨p9, hp9⟩ := hx3; rw [hp9]; exact bP_nar p9) (Nat.zero_le _) (Nat.zero_le _) dX9_reachRow_29 ?_
        obtain rfl : k = e := by have hh := le_of_nI hc_8 (by omega) (by omega); omega
        exact ⟨_, rfl, rfl⟩
      -- not taken 8
      · have hke : k < e := by
          rcases Nat.lt_or_ge k e with q9 | q9
          · exact q9
          · exact absurd (nI_le q9 (by omega)) hc_8
        refine v_iload_n (pc' := 12) (i := 3) (j := 1) X dX9_reachRow_11 rfl rfl rfl ?_
        refine v_aload_n (pc' := 13) (i := 0) (j := 4) X dX9_reachRow_12 rfl rfl rfl ?_
        refine v_aload_n (pc' := 14) (i := 1) (j := 3) X dX9_reachRow_13 rfl rfl rfl ?_
        refine v_iload (pc' := 16) (j := 0) X dX9_reachRow_14 rfl rfl ?_
        refine p_lald X hc hcell (v := M.2 c k) (k) rfl (by omega) hlen rfl dX9_reachRow_16 rfl ?_
        refine v_callV (pc' := 20) X (st := [.int x3]) (c_X9_reach (M := (mRI M 18 (mkR (M.1 18) (M.2 c) k))) (v := M.2 c k) (hrow k hke) (by rw [mRI_r]; exact mkR_01 h01 _ _)) k_X9_reach w_ml_X9_219 w_im_X9_reach w_se_X9_X9_reach (rv_M) (by rw [hR]; exact ⟨Nat.le_of_ble_eq_true rfl, Nat.le_of_ble_eq_true rfl⟩) rfl rfl (Nat.le_of_ble_eq_true rfl) dX9_reachRow_17 rfl (⟨Nat.zero_le _, Nat.zero_le _⟩) ?_
        rintro _ _ ⟨rfl, rfl⟩
        refine v_eqw (ws' := wM (kY K) n ad (mRI M 18 (mkR (M.1 18) (M.2 c) (k + 1)))) (by rw [mRI_mRI, mRI_r]; rfl) ?_
        refine v_ior (pc' := 21) X dX9_reachRow_20 rfl ?_
        refine v_istore_n (pc' := 22) (i := 3) (lv' := [(3, .int (x3 ||| (bP (¬ isI (M.2 c k) ∧ (mRI M 18 (mkR (M.1 18) (M.2 c) k)).1 18 (pl (M.2 c k)) = 0)))), (4, .int (nI k)), (2, .int (nI e)), (1, .ref (ad (c))), (0, .ref (ad (0)))]) X dX9_reachRow_21 rfl (by decide) rfl rfl ?_
        refine v_iinc (pc' := 25) (j := 1) (v := nI (k + 1)) (lv' := [(4, .int (nI (k + 1))), (3, .int (x3 ||| (bP (¬ isI (M.2 c k) ∧ (mRI M 18 (mkR (M.1 18) (M.2 c) k)).1 18 (pl (M.2 c k)) = 0)))), (2, .int (nI e)), (1, .ref (ad (c))), (0, .ref (ad (0)))]) X dX9_reachRow_22 rfl (nI_add (k) 1) (by decide) rfl rfl ?_
        refine v_goto (pc' := 5) X dX9_reachRow_25 (by decide) ?_
        exact ih_hloop (k + 1) _ (by omega) (by omega) (by obtain ⟨p9, hp9⟩ := hx3; exact ⟨_, by rw [hp9, bP_or]⟩)
  refine v_eqw (ws' := wM (kY K) n ad (mRI M 18 (mkR (M.1 18) (M.2 c) 0))) (by rw [show mkR (M.1 18) (M.2 c) 0 = M.1 18 from rfl, mRI_self]) ?_
  refine v_sub (lv' := [(4, .int 0), (3, .int 0), (2, .int (nI e)), (1, .ref (ad (c))), (0, .ref (ad (0)))]) [0, 1, 4, 3, 2] rfl ?_
  exact hloop _ 0 0 (Nat.lt_succ_self _) (Nat.zero_le _) ⟨False, (bP_f id).symm⟩
set_option maxHeartbeats 4000000 in
set_option maxRecDepth 100000 in
/-- moved(v) -/
theorem c_X9_moved {l : Launch} {D : va_G} {Y : Nat → ClassId} {z : Nat → Nat} {n : Nat} {ad : Nat → Nat} {M : vM} {v : Int64} (hv : ok1 v) : Ct l D Y z yX9_moved cX9_moved 3 (some FieldType.long) 1 21 [.ref (ad (0)), .long v] (wM Y n ad M) 0 0 (fun r w => r = some (.long (mv (M.1 20) v)) ∧ w = wM Y n ad M) := by
  refine v_entry (by decide +kernel) (Nat.le_of_ble_eq_true rfl) ?_
  intro K X R hR hnm hl hD hY hz
  subst hl hD hY hz
  refine v_sub (lv' := [(0, .ref (ad (0))), (1, .long v)]) [0, 1] rfl ?_
  refine v_lload_n (pc' := 1) (i := 1) (j := 1) X dX9_moved_0 rfl rfl rfl ?_
  refine v_callS (pc' := 4) X (st := []) (c_X9_isInt (n := n) (ad := ad) (M := M) (v := v)) k_X9_isInt w_ml_X9_108 w_st_X9_isInt (by rw [hR]; exact ⟨Nat.le_of_ble_eq_true rfl, Nat.le_of_ble_eq_true rfl⟩) rfl rfl (Nat.le_of_ble_eq_true rfl) dX9_moved_1 rfl (⟨Nat.zero_le _, Nat.zero_le _⟩) ?_
  rintro _ _ ⟨rfl, rfl⟩
  refine v_ifB_eq (pc' := 7) (tgt := 11) X dX9_moved_4 (by decide) rfl (fun hc_4 => ?_) (fun hc_4 => ?_)
  -- taken 4
  · obtain ⟨hp1, hp2⟩ := hv.resolve_left hc_4
    refine v_lload_n (pc' := 12) (i := 1) (j := 1) X dX9_moved_11 rfl rfl rfl ?_
    refine v_callS (pc' := 15) X (st := []) (c_X9_isPair (n := n) (ad := ad) (M := M) (v := v)) k_X9_isPair w_ml_X9_112 w_st_X9_isPair (by rw [hR]; exact ⟨Nat.le_of_ble_eq_true rfl, Nat.le_of_ble_eq_true rfl⟩) rfl rfl (Nat.le_of_ble_eq_true rfl) dX9_moved_12 rfl (⟨Nat.zero_le _, Nat.zero_le _⟩) ?_
    rintro _ _ ⟨rfl, rfl⟩
    refine v_ifB_eq (pc' := 18) (tgt := 24) X dX9_moved_15 (by decide) rfl (fun hc_15 => ?_) (fun hc_15 => ?_)
    -- taken 15
    · refine v_ldc2 (pc' := 27) (v := 17179869184) X dX9_moved_24 w_kl_X9_64 rfl ?_
      refine v_aload_n (pc' := 28) (i := 0) (j := 0) X dX9_moved_27 rfl rfl rfl ?_
      refine fg_X9_52 (pc' := 31) X dX9_moved_28 rfl ?_
      refine v_lload_n (pc' := 32) (i := 1) (j := 1) X dX9_moved_31 rfl rfl rfl ?_
      refine v_callS (pc' := 35) X (st := [.ref (ad (20)), .long 17179869184]) (c_X9_place (n := n) (ad := ad) (M := M) (v := v)) k_X9_place w_ml_X9_137 w_st_X9_place (by rw [hR]; exact ⟨Nat.le_of_ble_eq_true rfl, Nat.le_of_ble_eq_true rfl⟩) rfl rfl (Nat.le_of_ble_eq_true rfl) dX9_moved_32 rfl (⟨Nat.zero_le _, Nat.zero_le _⟩) ?_
      rintro _ _ ⟨rfl, rfl⟩
      refine ag_M20 (pc' := 36) X (v := M.1 20 (pl v)) (pl v) hp2 (by omega) rfl dX9_moved_35 rfl ?_
      refine v_i2l (pc' := 37) X dX9_moved_36 rfl rfl ?_
      refine v_ladd (pc' := 38) X dX9_moved_37 rfl ?_
      refine v_lreturn X R (Nat.zero_le _) (Nat.zero_le _) dX9_moved_38 ?_
      exact ⟨by unfold mv; rw [if_neg hc_4, if_neg hc_15], rfl⟩
    -- not taken 15
    · refine v_ldc2 (pc' := 21) (v := 8589934592) X dX9_moved_18 w_kl_X9_62 rfl ?_
      refine v_goto (pc' := 27) X dX9_moved_21 (by decide) ?_
      refine v_aload_n (pc' := 28) (i := 0) (j := 0) X dX9_moved_27 rfl rfl rfl ?_
      refine fg_X9_52 (pc' := 31) X dX9_moved_28 rfl ?_
      refine v_lload_n (pc' := 32) (i := 1) (j := 1) X dX9_moved_31 rfl rfl rfl ?_
      refine v_callS (pc' := 35) X (st := [.ref (ad (20)), .long 8589934592]) (c_X9_place (n := n) (ad := ad) (M := M) (v := v)) k_X9_place w_ml_X9_137 w_st_X9_place (by rw [hR]; exact ⟨Nat.le_of_ble_eq_true rfl, Nat.le_of_ble_eq_true rfl⟩) rfl rfl (Nat.le_of_ble_eq_true rfl) dX9_moved_32 rfl (⟨Nat.zero_le _, Nat.zero_le _⟩) ?_
      rintro _ _ ⟨rfl, rfl⟩
      refine ag_M20 (pc' := 36) X (v := M.1 20 (pl v)) (pl v) hp2 (by omega) rfl dX9_moved_35 rfl ?_
      refine v_i2l (pc' := 37) X dX9_moved_36 rfl rfl ?_
      refine v_ladd (pc' := 38) X dX9_moved_37 rfl ?_
      refine v_lreturn X R (Nat.zero_le _) (Nat.zero_le _) dX9_moved_38 ?_
      exact ⟨by unfold mv; rw [if_neg hc_4, if_pos hc_15], rfl⟩
  -- not taken 4
  · refine v_lload_n (pc' := 8) (i := 1) (j := 1) X dX9_moved_7 rfl rfl rfl ?_
    refine v_goto (pc' := 38) X dX9_moved_8 (by decide) ?_
    refine v_lreturn X R (Nat.zero_le _) (Nat.zero_le _) dX9_moved_38 ?_
    exact ⟨by unfold mv; rw [if_pos hc_4], rfl⟩
theorem mvR_0 {to : Nat → Int32} {row : Nat → Int64} : mvR to row 0 = row := by
  funext k; exact if_neg (Nat.not_lt_zero k)
theorem mvR_s {to : Nat → Int32} {row : Nat → Int64} {k : Nat} : vp_updL (mvR to row k) k (mv to (row k)) = mvR to row (k + 1) := by
  funext q
  show (if q = k then mv to (row k) else mvR to row k q) = _
  unfold mvR
  by_cases h1 : q = k
  · subst h1; rw [if_pos rfl, if_pos (by omega)]
  · rw [if_neg h1]
    by_cases h2 : q < k
    · rw [if_pos h2, if_pos (by omega)]
    · rw [if_neg h2, if_neg (by omega)]
set_option maxHeartbeats 4000000 in
set_option maxRecDepth 100000 in
/-- moveRow(row, e) -/
theorem c_X9_moveRow {l : Launch} {D : va_G} {Y : Nat → ClassId} {z : Nat → Nat} {n : Nat} {ad : Nat → Nat} {M : vM} {c len : Nat} (hc : c ∈ csM n) (hcell : ∀ f g, cM n ad Y c f g = .inl (Y 1, len, .inr (.inl g))) (hlen : len < 2 ^ 31) {e : Nat} (he : e ≤ len) (hrow : ∀ k, k < e → ok1 (M.2 c k)) : Ct l D Y z yX9_moveRow cX9_moveRow 4 none 2 43 [.ref (ad (0)), .ref (ad (c)), .int (nI e)] (wM Y n ad M) 0 0 (fun r w => r = none ∧ w = wM Y n ad (mRL M c (mvR (M.1 20) (M.2 c) e))) := by
  refine v_entry (by decide +kernel) (Nat.le_of_ble_eq_true rfl) ?_
  intro K X R hR hnm hl hD hY hz
  subst hl hD hY hz
  refine v_sub (lv' := [(0, .ref (ad (0))), (1, .ref (ad (c))), (2, .int (nI e))]) [0, 1, 2] rfl ?_
  refine v_iconst (pc' := 1) (v := 0) X dX9_moveRow_0 (by decide) rfl ?_
  refine v_istore_n (pc' := 2) (i := 3) (lv' := [(3, .int 0), (0, .ref (ad (0))), (1, .ref (ad (c))), (2, .int (nI e))]) X dX9_moveRow_1 rfl (by decide) rfl rfl ?_
  have hloop : ∀ (dd_hloop : Nat) (k : Nat), e - k < dd_hloop → (k ≤ e) → V K 4 (wM (kY K) n ad (mRL M c (mvR (M.1 20) (M.2 c) k))) 0 0 2 [(3, .int (nI k)), (2, .int (nI e)), (1, .ref (ad (c))), (0, .ref (ad (0)))] [] := by
    intro dd_hloop
    induction dd_hloop with
    | zero => intro k hlt_hloop; exact absurd hlt_hloop (Nat.not_lt_zero _)
    | succ dd_hloop ih_hloop =>
      intro k hlt_hloop hk
      refine v_iload_n (pc' := 3) (i := 3) (j := 0) X dX9_moveRow_2 rfl rfl rfl ?_
      refine v_iload_n (pc' := 4) (i := 2) (j := 1) X dX9_moveRow_3 rfl rfl rfl ?_
      refine v_icmp_ge (pc' := 7) (tgt := 23) X dX9_moveRow_4 (by decide) rfl (fun hc_4 => ?_) (fun hc_4 => ?_)
      -- taken 4
      · refine v_return X R (Nat.zero_le _) (Nat.zero_le _) dX9_moveRow_23 ?_
        obtain rfl : k = e := by have hh := le_of_nI hc_4 (by omega) (by omega); omega
        exact ⟨rfl, rfl⟩
      -- not taken 4
      · have hke : k < e := by
          rcases Nat.lt_or_ge k e with q9 | q9
          · exact q9
          · exact absurd (nI_le q9 (by omega)) hc_4
        refine v_aload_n (pc' := 8) (i := 1) (j := 2) X dX9_moveRow_7 rfl rfl rfl ?_
        refine v_iload_n (pc' := 9) (i := 3) (j := 0) X dX9_moveRow_8 rfl rfl rfl ?_
        refine v_aload_n (pc' := 10) (i := 0) (j := 3) X dX9_moveRow_9 rfl rfl rfl ?_
        refine v_aload_n (pc' := 11) (i := 1) (j := 2) X dX9_moveRow_10 rfl rfl rfl ?_
        refine v_iload_n (pc' := 12) (i := 3) (j := 0) X dX9_moveRow_11 rfl rfl rfl ?_
        refine p_lald X hc hcell (v := M.2 c k) (k) rfl (by omega) hlen (by rw [mRL_r]; exact if_neg (Nat.lt_irrefl k)) dX9_moveRow_12 rfl ?_
        refine v_callV (pc' := 16) X (st := [.int (nI k), .ref (ad (c))]) (c_X9_moved (M := (mRL M c (mvR (M.1 20) (M.2 c) k))) (v := M.2 c k) (hrow k hke)) k_X9_moved w_ml_X9_222 w_im_X9_moved w_se_X9_X9_moved (rv_M) (by rw [hR]; exact ⟨Nat.le_of_ble_eq_true rfl, Nat.le_of_ble_eq_true rfl⟩) rfl rfl (Nat.le_of_ble_eq_true rfl) dX9_moveRow_13 rfl (⟨Nat.zero_le _, Nat.zero_le _⟩) ?_
        rintro _ _ ⟨rfl, rfl⟩
        refine p_last X hc hcell (k) rfl (by omega) hlen dX9_moveRow_16 rfl ?_
        refine v_iinc (pc' := 20) (j := 0) (v := nI (k + 1)) (lv' := [(3, .int (nI (k + 1))), (2, .int (nI e)), (1, .ref (ad (c))), (0, .ref (ad (0)))]) X dX9_moveRow_17 rfl (nI_add (k) 1) (by decide) rfl rfl ?_
        refine v_goto (pc' := 2) X dX9_moveRow_20 (by decide) ?_
        refine v_eqw (ws' := wM (kY K) n ad (mRL M c (mvR (M.1 20) (M.2 c) (k + 1)))) (by rw [mL_mRL, mRL_1, mvR_s]) ?_
        exact ih_hloop (k + 1) (by omega) (by omega)
  refine v_eqw (ws' := wM (kY K) n ad (mRL M c (mvR (M.1 20) (M.2 c) 0))) (by rw [mvR_0, mRL_self]) ?_
  refine v_sub (lv' := [(3, .int 0), (2, .int (nI e)), (1, .ref (ad (c))), (0, .ref (ad (0)))]) [0, 3, 2, 1] rfl ?_
  exact hloop _ 0 (Nat.lt_succ_self _) (Nat.zero_le _)
