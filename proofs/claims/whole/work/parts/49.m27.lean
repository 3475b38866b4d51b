/-! THE CLASS'S COLLECTION: FILLING, THE START OF MARKING -/
theorem p_alen {K : vKt} {cc : ByteArray} {own : String} {nL n1 n2 pc pc' : Nat} {lv : List (Nat × Value)} {st : List Value} {cell : vCell} {cs : List Nat} {ad : Nat → Nat} {M : vM} {c : Nat} (X : vOk K cc own nL) (hm : c ∈ cs) (t0 : Nat) {cA : ClassId} {x : vp_A} {ty : FieldType} (he : cell c (M.1 c) (M.2 c) = .inl (cA, x)) (ht : (vTy (kY K))[t0]? = some (cA, ty)) {v : Int32} (hv : Int32.ofNat x.1 = v) (d : decode cc pc = .ok (.arraylength, 1)) (e : pc + 1 = pc') (kk : V K nL (pM cell cs ad M) n1 n2 pc' lv (.int v :: st)) : V K nL (pM cell cs ad M) n1 n2 pc lv (.ref (ad c) :: st) := by
  obtain ⟨q0, -, h2⟩ := pM_at (ad := ad) hm he
  exact v_alen X q0 t0 h2 ht hv d e kk
def flR (v : Int32) (row : Nat → Int32) (e : Nat) : Nat → Int32 := fun k => if k < e then v else row k
theorem flR_0 {v : Int32} {row : Nat → Int32} : flR v row 0 = row := by
  funext k; exact if_neg (Nat.not_lt_zero k)
theorem flR_s {v : Int32} {row : Nat → Int32} {k : Nat} : upd (flR v row k) k v = flR v row (k + 1) := by
  funext q
  show (if q = k then v else flR v row k q) = _
  unfold flR
  by_cases h1 : q = k
  · subst h1; rw [if_pos rfl, if_pos (by omega)]
  · rw [if_neg h1]
    by_cases h2 : q < k
    · rw [if_pos h2, if_pos (by omega)]
    · rw [if_neg h2, if_neg (by omega)]
set_option maxHeartbeats 4000000 in
set_option maxRecDepth 100000 in
theorem c_J7_fill_53178 {l : Launch} {D : va_G} {Y : Nat → ClassId} {zz : Nat → Nat} {n s cp cq : Nat} {ad : Nat → Nat} {M : vM} {c len : Nat} (hc : c ∈ csK n s cp) (hcell : ∀ f g, cK n s cp cq ad Y c f g = .inl (Y 0, len, .inl f)) (hlen : len < 2 ^ 31) {v : Int32} : Ct l D Y zz yJ7_fill_53178 cJ7_fill_53178 4 none 0 0 [.ref (ad (c)), .int v] (wK Y n s cp cq ad M) 0 0 (fun r w => r = none ∧ w = wK Y n s cp cq ad (mRI M c (flR v (M.1 c) len))) := by
  refine v_entry (by decide +kernel) (Nat.le_of_ble_eq_true rfl) ?_
  intro K X R hR hnm hl hD hY hz
  subst hl hD hY hz
  refine v_sub (lv' := [(0, .ref (ad (c))), (1, .int v)]) [0, 1] rfl ?_
  refine v_iconst (pc' := 1) (v := 0) X dJ7_fill_53178_0 (by decide) rfl ?_
  refine v_istore_n (pc' := 2) (i := 2) (lv' := [(2, .int 0), (0, .ref (ad (c))), (1, .int v)]) X dJ7_fill_53178_1 rfl (by decide) rfl rfl ?_
  refine v_aload_n (pc' := 3) (i := 0) (j := 1) X dJ7_fill_53178_2 rfl rfl rfl ?_
  refine p_alen (pc' := 4) X hc 0 (hcell _ _) rfl (v := nI len) rfl dJ7_fill_53178_3 rfl ?_
  refine v_istore_n (pc' := 5) (i := 3) (lv' := [(3, .int (nI len)), (2, .int 0), (0, .ref (ad (c))), (1, .int v)]) X dJ7_fill_53178_4 rfl (by decide) rfl rfl ?_
  have hloop : ∀ (dd_hloop : Nat) (k : Nat), len - k < dd_hloop → (k ≤ len) → V K 4 (wK (kY K) n s cp cq ad (mRI M c (flR v (M.1 c) k))) 0 0 5 [(3, .int (nI len)), (2, .int (nI k)), (1, .int v), (0, .ref (ad (c)))] [] := by
    intro dd_hloop
    induction dd_hloop with
    | zero => intro k hlt_hloop; exact absurd hlt_hloop (Nat.not_lt_zero _)
    | succ dd_hloop ih_hloop =>
      intro k hlt_hloop hk
      refine v_iload_n (pc' := 6) (i := 2) (j := 1) X dJ7_fill_53178_5 rfl rfl rfl ?_
      refine v_iload_n (pc' := 7) (i := 3) (j := 0) X dJ7_fill_53178_6 rfl rfl rfl ?_
      refine v_icmp_ge (pc' := 10) (tgt := 20) X dJ7_fill_53178_7 (by decide) rfl (fun hc_7 => ?_) (fun hc_7 => ?_)
      -- taken 7
      · refine v_return X R (Nat.zero_le _) (Nat.zero_le _) dJ7_fill_53178_20 ?_
        obtain rfl : k = len := by have hh := le_of_nI hc_7 (by omega) (by omega); omega
        exact ⟨rfl, rfl⟩
      -- not taken 7
      · have hke : k < len := by
          rcases Nat.lt_or_ge k len with q9 | q9
          · exact q9
          · exact absurd (nI_le q9 (by omega)) hc_7
        refine v_aload_n (pc' := 11) (i := 0) (j := 3) X dJ7_fill_53178_10 rfl rfl rfl ?_
        refine v_iload_n (pc' := 12) (i := 2) (j := 1) X dJ7_fill_53178_11 rfl rfl rfl ?_
        refine v_iload_n (pc' := 13) (i := 1) (j := 2) X dJ7_fill_53178_12 rfl rfl rfl ?_
        refine p_iast X hc hcell (k) rfl (by omega) hlen dJ7_fill_53178_13 rfl ?_
        refine v_iinc (pc' := 17) (j := 1) (v := nI (k + 1)) (lv' := [(2, .int (nI (k + 1))), (3, .int (nI len)), (1, .int v), (0, .ref (ad (c)))]) X dJ7_fill_53178_14 rfl (nI_add (k) 1) (by decide) rfl rfl ?_
        refine v_goto (pc' := 5) X dJ7_fill_53178_17 (by decide) ?_
        refine v_eqw (ws' := wK (kY K) n s cp cq ad (mRI M c (flR v (M.1 c) (k + 1)))) (by rw [mI_mRI, flR_s]) ?_
        refine v_sub (lv' := [(3, .int (nI len)), (2, .int (nI (k + 1))), (1, .int v), (0, .ref (ad (c)))]) [1, 0, 2, 3] rfl ?_
        exact ih_hloop (k + 1) (by omega) (by omega)
  refine v_eqw (ws' := wK (kY K) n s cp cq ad (mRI M c (flR v (M.1 c) 0))) (by rw [flR_0, mRI_self]) ?_
  refine v_sub (lv' := [(3, .int (nI len)), (2, .int 0), (1, .int v), (0, .ref (ad (c)))]) [0, 1, 3, 2] rfl ?_
  exact hloop _ 0 (Nat.lt_succ_self _) (Nat.zero_le _)
set_option maxHeartbeats 4000000 in
set_option maxRecDepth 100000 in
theorem c_X1_beginMarking {l : Launch} {D : va_G} {Y : Nat → ClassId} {zz : Nat → Nat} {n s cp cq : Nat} {ad : Nat → Nat} {M : vM}  : Ct l D Y zz yX1_beginMarking cX1_beginMarking 1 none 1 23 [.ref (ad (1))] (wK Y n s cp cq ad M) 0 0 (fun r w => r = none ∧ w = wK Y n s cp cq ad (mI (mRI M 20 (flR (-1) (M.1 20) 200)) 1 6 0)) := by
  refine v_entry (by decide +kernel) (Nat.le_of_ble_eq_true rfl) ?_
  intro K X R hR hnm hl hD hY hz
  subst hl hD hY hz
  refine v_sub (lv' := [(0, .ref (ad (1)))]) [0] rfl ?_
  refine v_aload_n (pc' := 1) (i := 0) (j := 0) X dX1_beginMarking_0 rfl rfl rfl ?_
  refine fk_X1_25 (pc' := 4) X dX1_beginMarking_1 rfl ?_
  refine v_iconst (pc' := 5) (v := (-1)) X dX1_beginMarking_4 (by decide) rfl ?_
  refine v_callS (pc' := 8) X (st := []) (c_J7_fill_53178 (M := M) (c := 20) mK_20 hK_20 (by decide) (v := -1)) k_J7_fill_53178 w_ml_X1_43 w_st_J7_fill_53178 (by rw [hR]; exact ⟨Nat.le_of_ble_eq_true rfl, Nat.le_of_ble_eq_true rfl⟩) rfl rfl (Nat.le_of_ble_eq_true rfl) dX1_beginMarking_5 rfl (⟨Nat.zero_le _, Nat.zero_le _⟩) ?_
  rintro _ _ ⟨rfl, rfl⟩
  refine v_aload_n (pc' := 9) (i := 0) (j := 0) X dX1_beginMarking_8 rfl rfl rfl ?_
  refine v_iconst (pc' := 10) (v := 0) X dX1_beginMarking_9 (by decide) rfl ?_
  refine fq_X1_32 (pc' := 13) X dX1_beginMarking_10 rfl ?_
  refine v_return X R (Nat.zero_le _) (Nat.zero_le _) dX1_beginMarking_13 ?_
  exact ⟨rfl, rfl⟩
