/-! THE CLASS'S COLLECTION -/
theorem zcnt_le {f : Nat → Int32} : ∀ k, zcnt f k ≤ k
  | 0 => Nat.le_refl 0
  | k + 1 => by
    have hh := zcnt_le (f := f) k
    rw [zcnt]
    split <;> omega
theorem ok_var {p : Nat} (h : p < 200) : ok1 (17179869184 + (nI p).toInt64) := by
  rw [nI_l (by omega)]
  exact Or.inr ⟨by rw [pl_var h]; exact h, by rw [pl_var h]; exact toI_var h⟩
def kpN (M : vM) (b : Nat) : Nat := if M.1 b 8 = 3 then 1 else if M.1 b 8 = 4 then 0 else 16
theorem kpN_i {M : vM} {b : Nat} : (if M.1 b 8 = 3 then (1 : Int32) else if M.1 b 8 = 4 then 0 else 16) = nI (kpN M b) := by
  unfold kpN
  by_cases h : M.1 b 8 = 3
  · rw [if_pos h, if_pos h]; rfl
  · rw [if_neg h, if_neg h]
    by_cases h4 : M.1 b 8 = 4
    · rw [if_pos h4, if_pos h4]; rfl
    · rw [if_neg h4, if_neg h4]; rfl
theorem kpN_le {M : vM} {b : Nat} : kpN M b ≤ 16 := by
  unfold kpN
  split
  · decide
  · split <;> decide
/-- what a collection must know of a strand -/
def cOK (M : vM) (b : Nat) : Prop := ∃ e r w : Nat, M.1 b 12 = nI e ∧ e ≤ 24 ∧ M.1 (b + 18) 3 = nI r ∧ r ≤ 40 ∧ M.1 (b + 18) 4 = nI w ∧ w ≤ 40 ∧ (∀ k, k < 16 → ok1 (M.2 (b + 8) k)) ∧ (∀ k, k < 16 * e → ok1 (M.2 (b + 9) k)) ∧ (∀ k, k < r → M.1 (b + 15) k = nI (nn (M.1 (b + 15) k)) ∧ nn (M.1 (b + 15) k) < 200) ∧ (∀ k, k < w → M.1 (b + 16) k = nI (nn (M.1 (b + 16) k)) ∧ nn (M.1 (b + 16) k) < 200) ∧ (∀ k, k < w → ok1 (M.2 (b + 17) k))
def gBeg (M : vM) : vM := mI (mRI (mI M 0 7 (M.1 0 7 + 1)) 20 (flR (-1) ((mI M 0 7 (M.1 0 7 + 1)).1 20) 200)) 1 6 0
theorem gBeg_1 {M : vM} {c : Nat} (h0 : c ≠ 0) (h1 : c ≠ 1) (h20 : c ≠ 20) : (gBeg M).1 c = M.1 c := by
  unfold gBeg; rw [mI_n _ _ _ _ h1, mRI_n _ _ _ h20, mI_n _ _ _ _ h0]
theorem gBeg_15 {M : vM} {k : Nat} (h : k ≠ 6) : (gBeg M).1 1 k = M.1 1 k := by
  unfold gBeg; rw [mI_o _ _ _ _ h, mRI_n _ _ _ (by decide), mI_n _ _ _ _ (by decide)]
theorem gBeg_0 {M : vM} : (gBeg M).1 0 = upd (M.1 0) 7 (M.1 0 7 + 1) := by
  unfold gBeg; rw [mI_n _ _ _ _ (by decide), mRI_n _ _ _ (by decide), mI_r]
theorem gBeg_20 {M : vM} {p : Nat} (h : p < 200) : (gBeg M).1 20 p = -1 := by
  unfold gBeg; rw [mI_n _ _ _ _ (by decide), mRI_r]; exact if_pos h
theorem gBeg_6 {M : vM} : (gBeg M).1 1 6 = 0 := mI_s _ _ _ _
theorem gBeg_RI {M : vM} : RI (gBeg M) := by
  unfold RI
  rw [gBeg_6]
  refine ⟨rfl, ?_, fun j hj => absurd hj (Nat.not_lt_zero _), fun p hp => Or.inl (gBeg_20 hp)⟩
  have hh := zcnt_le (f := unm ((gBeg M).1 20)) 200
  show 0 + _ ≤ 200
  omega
theorem gRt5_RI {M : vM} {b kp e r9 nw : Nat} (hb : ∀ k, b + k ≠ 1 ∧ b + k ≠ 18 ∧ b + k ≠ 20) (hR : RI M) (q8 : ∀ k, k < kp → ok1 (M.2 (b + 8) k)) (q9 : ∀ k, k < 16 * e → ok1 (M.2 (b + 9) k)) (q15 : ∀ k, k < r9 → ok1 (17179869184 + (M.1 (b + 15) k).toInt64)) (q16 : ∀ k, k < nw → ok1 (17179869184 + (M.1 (b + 16) k).toInt64)) (q17 : ∀ k, k < nw → ok1 (M.2 (b + 17) k)) : RI (gRt5 M b kp e r9 nw) :=
  gReachR_RI (gReachR_RI (gReachR_RI (gReachR_RI (gReachR_RI hR _ q8) _ (by show ∀ k, k < 16 * e → ok1 ((gRt1 M b kp).2 (b + 9) k); rw [gRt1_2]; exact q9)) _ (by show ∀ k, k < r9 → ok1 (17179869184 + ((gRt2 M b kp e).1 (b + 15) k).toInt64); rw [gRt2_1 (hb 15)]; exact q15)) _ (by show ∀ k, k < nw → ok1 (17179869184 + ((gRt3 M b kp e r9).1 (b + 16) k).toInt64); rw [gRt3_1 (hb 16)]; exact q16)) _ (by show ∀ k, k < nw → ok1 ((gRt4 M b kp e r9 nw).2 (b + 17) k); rw [gRt4_2]; exact q17)
theorem gRt5_15 {M : vM} {b kp e r9 nw q : Nat} (h : q ≠ 6) : (gRt5 M b kp e r9 nw).1 1 q = M.1 1 q :=
  (gReachR_15 h _).trans ((gReachR_15 h _).trans ((gReachR_15 h _).trans ((gReachR_15 h _).trans (gReachR_15 h _))))
/-- the roots: the globals, then the strands below j -/
def gRoots (M : vM) : Nat → vM
  | 0 => gReachR (M.2 14) 8 (gBeg M)
  | j + 1 => gRt5 (gRoots M j) (tb j) (kpN M (tb j)) (nn (M.1 (tb j) 12)) (nn (M.1 (tb j + 18) 3)) (nn (M.1 (tb j + 18) 4))
theorem gRoots_2 {M : vM} : ∀ {j : Nat}, (gRoots M j).2 = M.2
  | 0 => (gReachR_2 _).trans rfl
  | j + 1 => gRt5_2.trans (gRoots_2 (j := j))
theorem gRoots_1 {M : vM} {c : Nat} (h0 : c ≠ 0) (h : c ≠ 1 ∧ c ≠ 18 ∧ c ≠ 20) : ∀ {j : Nat}, (gRoots M j).1 c = M.1 c
  | 0 => (gReachR_1 h _).trans (gBeg_1 h0 h.1 h.2.2)
  | j + 1 => (gRt5_1 h).trans (gRoots_1 h0 h (j := j))
theorem gRoots_0 {M : vM} : ∀ {j : Nat}, (gRoots M j).1 0 = upd (M.1 0) 7 (M.1 0 7 + 1)
  | 0 => (gReachR_1 (by decide) _).trans gBeg_0
  | j + 1 => (gRt5_1 (by decide)).trans (gRoots_0 (j := j))
theorem gRoots_15 {M : vM} {q : Nat} (h : q ≠ 6) : ∀ {j : Nat}, (gRoots M j).1 1 q = M.1 1 q
  | 0 => (gReachR_15 h _).trans (gBeg_15 h)
  | j + 1 => (gRt5_15 h).trans (gRoots_15 h (j := j))
theorem gRoots_b {M : vM} {i k j : Nat} : (gRoots M j).1 (tb i + k) = M.1 (tb i + k) := gRoots_1 (by unfold tb; omega) tb3
theorem gRoots_RI {M : vM} (hgl : ∀ k, k < 8 → ok1 (M.2 14 k)) : ∀ {j : Nat}, (∀ i, i < j → cOK M (tb i)) → RI (gRoots M j)
  | 0, _ => gReachR_RI gBeg_RI _ hgl
  | j + 1, h => by
    obtain ⟨e, r, w, h12, he, h3, hr, h4, hw, q8, q9, q15, q16, q17⟩ := h j (Nat.lt_succ_self j)
    have ih := gRoots_RI hgl (j := j) (fun i hi => h i (Nat.lt_succ_of_lt hi))
    rw [gRoots, h12, h3, h4, nn_nI (by omega), nn_nI (by omega), nn_nI (by omega)]
    refine gRt5_RI (fun k => tb3) ih ?_ ?_ ?_ ?_ ?_
    · rw [gRoots_2]; exact fun k hk => q8 k (Nat.lt_of_lt_of_le hk kpN_le)
    · rw [gRoots_2]; exact q9
    · rw [gRoots_b]; exact fun k hk => by rw [(q15 k hk).1]; exact ok_var (q15 k hk).2
    · rw [gRoots_b]; exact fun k hk => by rw [(q16 k hk).1]; exact ok_var (q16 k hk).2
    · rw [gRoots_2]; exact q17
theorem gOnw_2 : ∀ {d i : Nat} {M : vM}, (gOnw d i M).2 = M.2
  | 0, _, _ => rfl
  | d + 1, i, M => by
    rw [gOnw]
    split
    · rw [gOnw_2, gReach_2, gReach_2]
    · rfl
theorem gOnw_1 {c : Nat} (h : c ≠ 1 ∧ c ≠ 18 ∧ c ≠ 20) : ∀ {d i : Nat} {M : vM}, (gOnw d i M).1 c = M.1 c
  | 0, _, _ => rfl
  | d + 1, i, M => by
    rw [gOnw]
    split
    · rw [gOnw_1 h, gReach_1 h, gReach_1 h]
    · rfl
theorem gOnw_15 {q : Nat} (h : q ≠ 6) : ∀ {d i : Nat} {M : vM}, (gOnw d i M).1 1 q = M.1 1 q
  | 0, _, _ => rfl
  | d + 1, i, M => by
    rw [gOnw]
    split
    · rw [gOnw_15 h, gReach_15 h, gReach_15 h]
    · rfl
def gMarked (M : vM) (n : Nat) : vM := gOnw 201 0 (gRoots M n)
theorem gMarked_2 {M : vM} {n : Nat} : (gMarked M n).2 = M.2 := gOnw_2.trans gRoots_2
theorem gMarked_1 {M : vM} {n c : Nat} (h0 : c ≠ 0) (h : c ≠ 1 ∧ c ≠ 18 ∧ c ≠ 20) : (gMarked M n).1 c = M.1 c := (gOnw_1 h).trans (gRoots_1 h0 h)
theorem gMarked_15 {M : vM} {n q : Nat} (h : q ≠ 6) : (gMarked M n).1 1 q = M.1 1 q := (gOnw_15 h).trans (gRoots_15 h)
theorem gMarked_0 {M : vM} {n : Nat} : (gMarked M n).1 0 = upd (M.1 0) 7 (M.1 0 7 + 1) := (gOnw_1 (by decide)).trans gRoots_0
theorem gSlide_1 {M : vM} {us c : Nat} (h1 : c ≠ 1) (h17 : c ≠ 17) (h20 : c ≠ 20) : (gSlide M us).1 c = M.1 c := by
  show (mI (gS5 M us) 1 5 _).1 c = _
  rw [mI_n _ _ _ _ h1]; exact S5_1 h17 h20
theorem gSlide_2 {M : vM} {us c : Nat} (h15 : c ≠ 15) (h16 : c ≠ 16) : (gSlide M us).2 c = M.2 c := by
  unfold gSlide
  dsimp only
  rw [mRL_n _ _ _ h16, mRL_n _ _ _ h15, mI_2]; exact S5_2 h15 h16
theorem gF5_1 {M : vM} {b kp e r9 nw c : Nat} (h : c ≠ b + 15) (h2 : c ≠ b + 16) : (gF5 M b kp e r9 nw).1 c = M.1 c := gF4_1 h h2
theorem gF5_2 {M : vM} {b kp e r9 nw c : Nat} (h8 : c ≠ b + 8) (h9 : c ≠ b + 9) (h17 : c ≠ b + 17) : (gF5 M b kp e r9 nw).2 c = M.2 c := by
  unfold gF5 gF4 gF3 gF2 gF1 gF0
  rw [mRL_n _ _ _ h17, mRI_2, mRI_2, mRL_n _ _ _ h9, mRL_n _ _ _ h8, mRL_n _ _ _ h8]
/-- the strands below j follow -/
def gFolls (M N : vM) : Nat → vM
  | 0 => N
  | j + 1 => gF5 (gFolls M N j) (tb j) (kpN M (tb j)) (nn (M.1 (tb j) 12)) (nn (M.1 (tb j + 18) 3)) (nn (M.1 (tb j + 18) 4))
theorem gFolls_1 {M N : vM} {c : Nat} : ∀ {j : Nat}, (∀ q, q < j → c ≠ tb q + 15 ∧ c ≠ tb q + 16) → (gFolls M N j).1 c = N.1 c
  | 0, _ => rfl
  | j + 1, h => (gF5_1 (h j (Nat.lt_succ_self j)).1 (h j (Nat.lt_succ_self j)).2).trans (gFolls_1 (fun q hq => h q (Nat.lt_succ_of_lt hq)))
theorem gFolls_2 {M N : vM} {c : Nat} : ∀ {j : Nat}, (∀ q, q < j → c ≠ tb q + 8 ∧ c ≠ tb q + 9 ∧ c ≠ tb q + 17) → (gFolls M N j).2 c = N.2 c
  | 0, _ => rfl
  | j + 1, h => (gF5_2 (h j (Nat.lt_succ_self j)).1 (h j (Nat.lt_succ_self j)).2.1 (h j (Nat.lt_succ_self j)).2.2).trans (gFolls_2 (fun q hq => h q (Nat.lt_succ_of_lt hq)))
theorem gFolls_b {M N : vM} {i k j : Nat} (h : j ≤ i ∨ (k ≠ 15 ∧ k ≠ 16)) (hk : k < 20) : (gFolls M N j).1 (tb i + k) = N.1 (tb i + k) := gFolls_1 (fun q hq => by unfold tb; omega)
theorem gFolls_b2 {M N : vM} {i k j : Nat} (h : j ≤ i) (hk : k < 20) : (gFolls M N j).2 (tb i + k) = N.2 (tb i + k) := gFolls_2 (fun q hq => by unfold tb; omega)
def gSlid (M : vM) (n us : Nat) : vM := mRL (gSlide (gMarked M n) us) 14 (kvR ((gSlide (gMarked M n) us).1 20) ((gSlide (gMarked M n) us).2 14) 8)
theorem gSlid_b {M : vM} {n us i k : Nat} : (gSlid M n us).1 (tb i + k) = M.1 (tb i + k) := by
  show (gSlide (gMarked M n) us).1 (tb i + k) = _
  rw [gSlide_1 (by unfold tb; omega) (by unfold tb; omega) (by unfold tb; omega), gMarked_1 (by unfold tb; omega) tb3]
theorem gSlid_b2 {M : vM} {n us i k : Nat} : (gSlid M n us).2 (tb i + k) = M.2 (tb i + k) := by
  unfold gSlid
  rw [mRL_n _ _ _ (by unfold tb; omega), gSlide_2 (by unfold tb; omega) (by unfold tb; omega), gMarked_2]
/-- a collection -/
def gColl (M : vM) (n us : Nat) : vM := gFolls M (gSlid M n us) n
set_option maxHeartbeats 4000000 in
set_option maxRecDepth 100000 in
theorem c_X7_markAndSlide {l : Launch} {D : va_G} {Y : Nat → ClassId} {zz : Nat → Nat} {n s cp cq : Nat} {ad : Nat → Nat} {M : vM} {us : Nat} (h52 : M.1 5 2 = nI n) (hn16 : n ≤ 16) (hq : n ≤ cq) (hq2 : cq < 2 ^ 31) (h5 : M.1 1 5 = nI us) (hu : us ≤ 200) (hcl : ∀ p, p < 200 → ok1 (M.2 15 p) ∧ ok1 (M.2 16 p)) (hgl : ∀ k, k < 8 → ok1 (M.2 14 k)) (hts : ∀ i, i < n → cOK M (tb i)) : Ct l D Y zz yX7_markAndSlide cX7_markAndSlide 2 none 4 88 [.ref (ad (0))] (wK Y n s cp cq ad M) 0 0 (fun r w => r = none ∧ w = wK Y n s cp cq ad (gColl M n us)) := by
  refine v_entry (by decide +kernel) (Nat.le_of_ble_eq_true rfl) ?_
  intro K X R hR hnm hl hD hY hz
  subst hl hD hY hz
  refine v_sub (lv' := [(0, .ref (ad (0)))]) [0] rfl ?_
  refine v_aload_n (pc' := 1) (i := 0) (j := 0) X dX7_markAndSlide_0 rfl rfl rfl ?_
  refine v_dup (pc' := 2) X dX7_markAndSlide_1 rfl rfl ?_
  refine fk_X7_44 (pc' := 5) X (v := M.1 0 7) rfl dX7_markAndSlide_2 rfl ?_
  refine v_iconst (pc' := 6) (v := 1) X dX7_markAndSlide_5 (by decide) rfl ?_
  refine v_iadd (pc' := 7) X dX7_markAndSlide_6 rfl ?_
  refine fq_X7_44 (pc' := 10) X dX7_markAndSlide_7 rfl ?_
  refine v_aload_n (pc' := 11) (i := 0) (j := 0) X dX7_markAndSlide_10 rfl rfl rfl ?_
  refine fk_X7_26 (pc' := 14) X dX7_markAndSlide_11 rfl ?_
  refine v_callVN (pc' := 17) X (st := []) (c_X1_beginMarking (M := (mI M 0 7 ((M.1 0 7) + 1)))) k_X1_beginMarking n_ml_X7_362 w_im_X1_beginMarking w_se_X1_X1_beginMarking rw_X1 (by rw [hR]; exact ⟨Nat.le_of_ble_eq_true rfl, Nat.le_of_ble_eq_true rfl⟩) rfl rfl (Nat.le_of_ble_eq_true rfl) dX7_markAndSlide_14 rfl (⟨Nat.zero_le _, Nat.zero_le _⟩) ?_
  rintro _ _ ⟨rfl, rfl⟩
  refine v_aload_n (pc' := 18) (i := 0) (j := 0) X dX7_markAndSlide_17 rfl rfl rfl ?_
  refine fk_X7_26 (pc' := 21) X dX7_markAndSlide_18 rfl ?_
  refine v_aload_n (pc' := 22) (i := 0) (j := 0) X dX7_markAndSlide_21 rfl rfl rfl ?_
  refine fk_X7_19 (pc' := 25) X dX7_markAndSlide_22 rfl ?_
  refine v_bipush (pc' := 27) (v := 8) X dX7_markAndSlide_25 (by decide) rfl ?_
  refine v_callVN (pc' := 30) X (st := []) (c_X1_reachRow (M := gBeg M) (c := 14) mK_14 hK_14 (by decide) (e := 8) (by omega) gBeg_RI hgl) k_X1_reachRow n_ml_X7_365 w_im_X1_reachRow w_se_X1_X1_reachRow rw_X1 (by rw [hR]; exact ⟨Nat.le_of_ble_eq_true rfl, Nat.le_of_ble_eq_true rfl⟩) rfl rfl (Nat.le_of_ble_eq_true rfl) dX7_markAndSlide_27 rfl (⟨Nat.zero_le _, Nat.zero_le _⟩) ?_
  rintro _ _ ⟨rfl, rfl⟩
  refine v_iconst (pc' := 31) (v := 0) X dX7_markAndSlide_30 (by decide) rfl ?_
  refine v_istore_n (pc' := 32) (i := 1) (lv' := [(1, .int 0), (0, .ref (ad (0)))]) X dX7_markAndSlide_31 rfl (by decide) rfl rfl ?_
  have hloop : ∀ (dd_hloop : Nat) (j : Nat), n - j < dd_hloop → (j ≤ n) → V K 2 (wK (kY K) n s cp cq ad (gRoots M j)) 0 0 32 [(1, .int (nI j)), (0, .ref (ad (0)))] [] := by
    intro dd_hloop
    induction dd_hloop with
    | zero => intro j hlt_hloop; exact absurd hlt_hloop (Nat.not_lt_zero _)
    | succ dd_hloop ih_hloop =>
      intro j hlt_hloop hj
      refine v_iload_n (pc' := 33) (i := 1) (j := 0) X dX7_markAndSlide_32 rfl rfl rfl ?_
      refine v_aload_n (pc' := 34) (i := 0) (j := 1) X dX7_markAndSlide_33 rfl rfl rfl ?_
      refine fk_X7_16 (pc' := 37) X dX7_markAndSlide_34 rfl ?_
      refine v_callV (pc' := 40) X (st := [.int (nI j)]) (c_size5 (M := (gRoots M j))) k_Jx4a65c_size_8abf5 w_ml_X7_59 w_im_Jx4a65c_size_8abf5 w_se_Jx4a65c_Jx4a65c_size_8abf5 rw_L5 (by rw [hR]; exact ⟨Nat.le_of_ble_eq_true rfl, Nat.le_of_ble_eq_true rfl⟩) rfl rfl (Nat.le_of_ble_eq_true rfl) dX7_markAndSlide_37 rfl (⟨Nat.zero_le _, Nat.zero_le _⟩) ?_
      rintro _ _ ⟨rfl, rfl⟩
      rw [show (gRoots M j).1 5 2 = nI n from ((congrFun (gRoots_1 (by decide) (by decide)) _).trans h52)]
      refine v_icmp_ge (pc' := 43) (tgt := 64) X dX7_markAndSlide_40 (by decide) rfl (fun hc_40 => ?_) (fun hc_40 => ?_)
      -- taken 40
      · obtain rfl : j = n := by have hh := le_of_nI hc_40 (by omega) (by omega); omega
        refine v_aload_n (pc' := 65) (i := 0) (j := 1) X dX7_markAndSlide_64 rfl rfl rfl ?_
        refine fk_X7_26 (pc' := 68) X dX7_markAndSlide_65 rfl ?_
        refine v_callVN (pc' := 71) X (st := []) (c_X1_reachOnward (M := gRoots M j) (gRoots_RI hgl hts) (by rw [gRoots_2]; exact hcl)) k_X1_reachOnward n_ml_X7_372 w_im_X1_reachOnward w_se_X1_X1_reachOnward rw_X1 (by rw [hR]; exact ⟨Nat.le_of_ble_eq_true rfl, Nat.le_of_ble_eq_true rfl⟩) rfl rfl (Nat.le_of_ble_eq_true rfl) dX7_markAndSlide_68 rfl (⟨Nat.zero_le _, Nat.zero_le _⟩) ?_
        rintro _ _ ⟨rfl, rfl⟩
        refine v_aload_n (pc' := 72) (i := 0) (j := 1) X dX7_markAndSlide_71 rfl rfl rfl ?_
        refine fk_X7_26 (pc' := 75) X dX7_markAndSlide_72 rfl ?_
        refine v_callVN (pc' := 78) X (st := []) (c_X1_slide (M := gMarked M j) (us := us) ((gMarked_15 (by decide)).trans h5) hu (by rw [gMarked_2]; exact hcl)) k_X1_slide n_ml_X7_375 w_im_X1_slide w_se_X1_X1_slide rw_X1 (by rw [hR]; exact ⟨Nat.le_of_ble_eq_true rfl, Nat.le_of_ble_eq_true rfl⟩) rfl rfl (Nat.le_of_ble_eq_true rfl) dX7_markAndSlide_75 rfl (⟨Nat.zero_le _, Nat.zero_le _⟩) ?_
        rintro _ _ ⟨rfl, rfl⟩
        refine v_aload_n (pc' := 79) (i := 0) (j := 1) X dX7_markAndSlide_78 rfl rfl rfl ?_
        refine fk_X7_26 (pc' := 82) X dX7_markAndSlide_79 rfl ?_
        refine v_aload_n (pc' := 83) (i := 0) (j := 1) X dX7_markAndSlide_82 rfl rfl rfl ?_
        refine fk_X7_19 (pc' := 86) X dX7_markAndSlide_83 rfl ?_
        refine v_bipush (pc' := 88) (v := 8) X dX7_markAndSlide_86 (by decide) rfl ?_
        refine v_callVN (pc' := 91) X (st := []) (c_X1_followRow (M := gSlide (gMarked M j) us) (c := 14) mK_14 hK_14 (by decide) (e := 8) (by omega) (by rw [gSlide_2 (by decide) (by decide), gMarked_2]; exact hgl)) k_X1_followRow n_ml_X7_378 w_im_X1_followRow w_se_X1_X1_followRow rw_X1 (by rw [hR]; exact ⟨Nat.le_of_ble_eq_true rfl, Nat.le_of_ble_eq_true rfl⟩) rfl rfl (Nat.le_of_ble_eq_true rfl) dX7_markAndSlide_88 rfl (⟨Nat.zero_le _, Nat.zero_le _⟩) ?_
        rintro _ _ ⟨rfl, rfl⟩
        refine v_iconst (pc' := 92) (v := 0) X dX7_markAndSlide_91 (by decide) rfl ?_
        refine v_istore_n (pc' := 93) (i := 1) (lv' := [(1, .int 0), (0, .ref (ad (0)))]) X dX7_markAndSlide_92 rfl (by decide) rfl rfl ?_
        have hloop2 : ∀ (dd_hloop2 : Nat) (p : Nat), j - p < dd_hloop2 → (p ≤ j) → V K 2 (wK (kY K) j s cp cq ad (gFolls M (gSlid M j us) p)) 0 0 93 [(1, .int (nI p)), (0, .ref (ad (0)))] [] := by
          intro dd_hloop2
          induction dd_hloop2 with
          | zero => intro p hlt_hloop2; exact absurd hlt_hloop2 (Nat.not_lt_zero _)
          | succ dd_hloop2 ih_hloop2 =>
            intro p hlt_hloop2 hp
            refine v_iload_n (pc' := 94) (i := 1) (j := 0) X dX7_markAndSlide_93 rfl rfl rfl ?_
            refine v_aload_n (pc' := 95) (i := 0) (j := 1) X dX7_markAndSlide_94 rfl rfl rfl ?_
            refine fk_X7_16 (pc' := 98) X dX7_markAndSlide_95 rfl ?_
            refine v_callV (pc' := 101) X (st := [.int (nI p)]) (c_size5 (M := (gFolls M (gSlid M j us) p))) k_Jx4a65c_size_8abf5 w_ml_X7_59 w_im_Jx4a65c_size_8abf5 w_se_Jx4a65c_Jx4a65c_size_8abf5 rw_L5 (by rw [hR]; exact ⟨Nat.le_of_ble_eq_true rfl, Nat.le_of_ble_eq_true rfl⟩) rfl rfl (Nat.le_of_ble_eq_true rfl) dX7_markAndSlide_98 rfl (⟨Nat.zero_le _, Nat.zero_le _⟩) ?_
            rintro _ _ ⟨rfl, rfl⟩
            rw [show (gFolls M (gSlid M j us) p).1 5 2 = nI j from ((congrFun (gFolls_1 (fun q hq => by unfold tb; omega)) _).trans ((congrFun ((gSlide_1 (us := us) (by decide) (by decide) (by decide)).trans (gMarked_1 (by decide) (by decide))) _).trans h52))]
            refine v_icmp_ge (pc' := 104) (tgt := 125) X dX7_markAndSlide_101 (by decide) rfl (fun hc_101 => ?_) (fun hc_101 => ?_)
            -- taken 101
            · refine v_return X R (Nat.zero_le _) (Nat.zero_le _) dX7_markAndSlide_125 ?_
              obtain rfl : p = j := by have hh := le_of_nI hc_101 (by omega) (by omega); omega
              exact ⟨rfl, rfl⟩
            -- not taken 101
            · have hpn : p < j := by
                rcases Nat.lt_or_ge p j with q9 | q9
                · exact q9
                · exact absurd (nI_le q9 (by omega)) hc_101
              have hp16 : p < 16 := by omega
              obtain ⟨e, r9, nw, h12, he, h3, hr, h4, hw, q8, q9, q15, q16, q17⟩ := hts p hpn
              refine v_aload_n (pc' := 105) (i := 0) (j := 1) X dX7_markAndSlide_104 rfl rfl rfl ?_
              refine v_aload_n (pc' := 106) (i := 0) (j := 1) X dX7_markAndSlide_105 rfl rfl rfl ?_
              refine fk_X7_16 (pc' := 109) X dX7_markAndSlide_106 rfl ?_
              refine v_iload_n (pc' := 110) (i := 1) (j := 0) X dX7_markAndSlide_109 rfl rfl rfl ?_
              refine v_callV (pc' := 113) X (st := [.ref (ad (0))]) (c_get5 (M := (gFolls M (gSlid M j us) p)) (k := p) hpn hq hq2 ((congrFun (gFolls_1 (fun q hq => by unfold tb; omega)) _).trans ((congrFun ((gSlide_1 (us := us) (by decide) (by decide) (by decide)).trans (gMarked_1 (by decide) (by decide))) _).trans h52))) k_Jx4a65c_get_915e3 w_ml_X7_77 w_im_Jx4a65c_get_915e3 w_se_Jx4a65c_Jx4a65c_get_915e3 rw_L5 (by rw [hR]; exact ⟨Nat.le_of_ble_eq_true rfl, Nat.le_of_ble_eq_true rfl⟩) rfl rfl (Nat.le_of_ble_eq_true rfl) dX7_markAndSlide_110 rfl (⟨Nat.zero_le _, Nat.zero_le _⟩) ?_
              rintro _ _ ⟨rfl, rfl⟩
              refine v_castS (pc' := 116) X w_is_X6 w_cl_X7_50 (rw_X6 hpn hp16) dX7_markAndSlide_113 rfl ?_
              refine v_callV (pc' := 119) X (st := []) (c_X7_followIn (M := (gFolls M (gSlid M j us) p)) hpn hp16 (e := e) (r9 := r9) (nw := nw) (kp := kpN M (tb p)) ((congrFun ((gFolls_b (k := 0) (Or.inl (Nat.le_refl p)) (by decide)).trans gSlid_b) _).trans h12) he ((congrFun ((gFolls_b (k := 18) (Or.inl (Nat.le_refl p)) (by decide)).trans gSlid_b) _).trans h3) hr ((congrFun ((gFolls_b (k := 18) (Or.inl (Nat.le_refl p)) (by decide)).trans gSlid_b) _).trans h4) hw (by rw [show (gFolls M (gSlid M j us) p).1 (tb p) = M.1 (tb p) from (gFolls_b (k := 0) (Or.inl (Nat.le_refl p)) (by decide)).trans gSlid_b]; exact kpN_i) kpN_le (by rw [show (gFolls M (gSlid M j us) p).2 (tb p + 8) = M.2 (tb p + 8) from (gFolls_b2 (k := 8) (Nat.le_refl p) (by decide)).trans gSlid_b2]; exact fun k hk => q8 k (Nat.lt_of_lt_of_le hk kpN_le)) (by rw [show (gFolls M (gSlid M j us) p).2 (tb p + 9) = M.2 (tb p + 9) from (gFolls_b2 (k := 9) (Nat.le_refl p) (by decide)).trans gSlid_b2]; exact q9) (by rw [show (gFolls M (gSlid M j us) p).1 (tb p + 15) = M.1 (tb p + 15) from (gFolls_b (k := 15) (Or.inl (Nat.le_refl p)) (by decide)).trans gSlid_b]; exact q15) (by rw [show (gFolls M (gSlid M j us) p).1 (tb p + 16) = M.1 (tb p + 16) from (gFolls_b (k := 16) (Or.inl (Nat.le_refl p)) (by decide)).trans gSlid_b]; exact q16) (by rw [show (gFolls M (gSlid M j us) p).2 (tb p + 17) = M.2 (tb p + 17) from (gFolls_b2 (k := 17) (Nat.le_refl p) (by decide)).trans gSlid_b2]; exact q17)) k_X7_followIn w_ml_X7_381 w_im_X7_followIn w_se_X7_X7_followIn rw_X7 (by rw [hR]; exact ⟨Nat.le_of_ble_eq_true rfl, Nat.le_of_ble_eq_true rfl⟩) rfl rfl (Nat.le_of_ble_eq_true rfl) dX7_markAndSlide_116 rfl (⟨Nat.zero_le _, Nat.zero_le _⟩) ?_
              rintro _ _ ⟨rfl, rfl⟩
              refine v_iinc (pc' := 122) (j := 0) (v := nI (p + 1)) (lv' := [(1, .int (nI (p + 1))), (0, .ref (ad (0)))]) X dX7_markAndSlide_119 rfl (nI_add (p) 1) (by decide) rfl rfl ?_
              refine v_goto (pc' := 93) X dX7_markAndSlide_122 (by decide) ?_
              refine v_eqw (ws' := wK (kY K) j s cp cq ad (gFolls M (gSlid M j us) (p + 1))) (by rw [gFolls, h12, h3, h4, nn_nI (by omega), nn_nI (by omega), nn_nI (by omega)]) ?_
              exact ih_hloop2 (p + 1) (by omega) (by omega)
        exact hloop2 _ 0 (Nat.lt_succ_self _) (Nat.zero_le _)
      -- not taken 40
      · have hjn : j < n := by
          rcases Nat.lt_or_ge j n with q9 | q9
          · exact q9
          · exact absurd (nI_le q9 (by omega)) hc_40
        have hj16 : j < 16 := by omega
        obtain ⟨e, r9, nw, h12, he, h3, hr, h4, hw, q8, q9, q15, q16, q17⟩ := hts j hjn
        refine v_aload_n (pc' := 44) (i := 0) (j := 1) X dX7_markAndSlide_43 rfl rfl rfl ?_
        refine v_aload_n (pc' := 45) (i := 0) (j := 1) X dX7_markAndSlide_44 rfl rfl rfl ?_
        refine fk_X7_16 (pc' := 48) X dX7_markAndSlide_45 rfl ?_
        refine v_iload_n (pc' := 49) (i := 1) (j := 0) X dX7_markAndSlide_48 rfl rfl rfl ?_
        refine v_callV (pc' := 52) X (st := [.ref (ad (0))]) (c_get5 (M := (gRoots M j)) (k := j) hjn hq hq2 ((congrFun (gRoots_1 (by decide) (by decide)) _).trans h52)) k_Jx4a65c_get_915e3 w_ml_X7_77 w_im_Jx4a65c_get_915e3 w_se_Jx4a65c_Jx4a65c_get_915e3 rw_L5 (by rw [hR]; exact ⟨Nat.le_of_ble_eq_true rfl, Nat.le_of_ble_eq_true rfl⟩) rfl rfl (Nat.le_of_ble_eq_true rfl) dX7_markAndSlide_49 rfl (⟨Nat.zero_le _, Nat.zero_le _⟩) ?_
        rintro _ _ ⟨rfl, rfl⟩
        refine v_castS (pc' := 55) X w_is_X6 w_cl_X7_50 (rw_X6 hjn hj16) dX7_markAndSlide_52 rfl ?_
        refine v_callV (pc' := 58) X (st := []) (c_X7_reachFrom (M := gRoots M j) hjn hj16 (e := e) (r9 := r9) (nw := nw) (kp := kpN M (tb j)) (gRoots_RI hgl (fun i hi => hts i (Nat.lt_trans hi hjn))) ((congrFun (gRoots_b (k := 0)) _).trans h12) he ((congrFun gRoots_b _).trans h3) hr ((congrFun gRoots_b _).trans h4) hw (by rw [show (gRoots M j).1 (tb j) = M.1 (tb j) from gRoots_b (k := 0)]; exact kpN_i) kpN_le (by rw [gRoots_2]; exact fun k hk => q8 k (Nat.lt_of_lt_of_le hk kpN_le)) (by rw [gRoots_2]; exact q9) (by rw [gRoots_b]; exact fun k hk => by rw [(q15 k hk).1]; exact ok_var (q15 k hk).2) (by rw [gRoots_b]; exact fun k hk => by rw [(q16 k hk).1]; exact ok_var (q16 k hk).2) (by rw [gRoots_2]; exact q17)) k_X7_reachFrom w_ml_X7_369 w_im_X7_reachFrom w_se_X7_X7_reachFrom rw_X7 (by rw [hR]; exact ⟨Nat.le_of_ble_eq_true rfl, Nat.le_of_ble_eq_true rfl⟩) rfl rfl (Nat.le_of_ble_eq_true rfl) dX7_markAndSlide_55 rfl (⟨Nat.zero_le _, Nat.zero_le _⟩) ?_
        rintro _ _ ⟨rfl, rfl⟩
        refine v_iinc (pc' := 61) (j := 0) (v := nI (j + 1)) (lv' := [(1, .int (nI (j + 1))), (0, .ref (ad (0)))]) X dX7_markAndSlide_58 rfl (nI_add (j) 1) (by decide) rfl rfl ?_
        refine v_goto (pc' := 32) X dX7_markAndSlide_61 (by decide) ?_
        refine v_eqw (ws' := wK (kY K) n s cp cq ad (gRoots M (j + 1))) (by rw [gRoots, h12, h3, h4, nn_nI (by omega), nn_nI (by omega), nn_nI (by omega)]) ?_
        exact ih_hloop (j + 1) (by omega) (by omega)
  exact hloop _ 0 (Nat.lt_succ_self _) (Nat.zero_le _)
