/-! THE CLASS'S FORK -/
section GACC2
variable {K : vKt} {cc : ByteArray} {nL n1 n2 pc pc' : Nat} {lv : List (Nat × Value)} {st : List Value} {na n s cp cq : Nat} {ad : Nat → Nat} {M : vM} {i k9 : Nat}
theorem fk_X7_16N (X : vOk K cc RX7 nL) (d : decode cc pc = .ok (.getfield 16, 3)) (e : pc + 3 = pc') (kk : V K nL (wK2 (kY K) na n s cp cq ad M) n1 n2 pc' lv (.ref (ad (5)) :: st)) : V K nL (wK2 (kY K) na n s cp cq ad M) n1 n2 pc lv (.ref (ad (0)) :: st) := p_get X inX7 mK_0 (hK_0 _ _) rfl 1 (by decide) w_fl_X7_16 rfl rfl d e kk
theorem fk_X7_119N (X : vOk K cc RX7 nL) (hi : i < n) (h16 : i < 16) (d : decode cc pc = .ok (.getfield 119, 3)) (e : pc + 3 = pc') (kk : V K nL (wK2 (kY K) na n s cp cq ad M) n1 n2 pc' lv (.ref (ad (tb i + 8)) :: st)) : V K nL (wK2 (kY K) na n s cp cq ad M) n1 n2 pc lv (.ref (ad (tb i)) :: st) := p_getN X inX6 (mG_0 hi) ((hG_0 h16) _ _) rfl 0 (by decide) n_fl_X7_119 rfl rfl d e kk
end GACC2
def gAdd5 (M : vM) (n : Nat) : vM := mI (mI M 5 0 (M.1 5 0 + 1)) 5 2 (nI (n + 1))
theorem gAdd5_n {M : vM} {n c : Nat} (h : c ≠ 5) : (gAdd5 M n).1 c = M.1 c := by
  unfold gAdd5; rw [mI_n _ _ _ _ h, mI_n _ _ _ _ h]
theorem ca_X6 : (RX6, "java/lang/Object") ∈ vNC := List.mem_of_getElem? (i := 10) rfl
theorem ca_X2 : (RX2, "java/lang/Object") ∈ vNC := List.mem_of_getElem? (i := 14) rfl
theorem mTk_s {n : Nat} {ad : Nat → Nat} : va_up (mTk n ad) n (some (ad (tb n))) = mTk (n + 1) ad := by
  funext j
  show (if j = n then some (ad (tb n)) else mTk n ad j) = _
  unfold mTk
  by_cases hjn : j = n
  · subst hjn; rw [if_pos rfl, if_pos (by omega)]
  · rw [if_neg hjn]
    by_cases hj2 : j < n
    · rw [if_pos hj2, if_pos (by omega)]
    · rw [if_neg hj2, if_neg (by omega)]
theorem mTk_cpy {n : Nat} {ad : Nat → Nat} : va_cpy (mTk n ad) (fun _ => none) 0 0 n = mTk n ad := by
  funext j
  unfold va_cpy
  by_cases hj : j < n
  · rw [if_pos ⟨Nat.zero_le _, by omega⟩]; congr 1; omega
  · rw [if_neg (by omega)]; unfold mTk; rw [if_neg hj]
section FORKL
variable {Y : Nat → ClassId} {ad : Nat → Nat} {M : vM} {n s cp cq : Nat}
theorem add5_c {cq' : Nat} {ad' : Nat → Nat} {X : Nat → va_E} {c : Nat} (hc : c ∈ csK (n + 1) s cp) (hn : n < 16) (h5 : X 5 = .inr (0, GL ad' 5 ((gAdd5 M n).1 5))) (h6 : X 6 = aQ (Y 4) cq' (mTk (n + 1) ad')) (hX : ∀ c, c ≠ 5 → c ≠ 6 → X c = cK n s cp cq ad Y c (M.1 c) (M.2 c)) (had : ∀ x, x ≠ 6 → ad' x = ad x) : X c = cK (n + 1) s cp cq' ad' Y c ((gAdd5 M n).1 c) ((gAdd5 M n).2 c) := by
  by_cases e5 : c = 5
  · subst e5; rw [h5, hK_5]
  · by_cases e6 : c = 6
    · subst e6; rw [h6, hK_6]
    · rw [hX c e5 e6, gAdd5_n e5]
      show _ = cK (n + 1) s cp cq' ad' Y c (M.1 c) (M.2 c)
      by_cases e4 : c = 4
      · subst e4
        rw [hK_4, hK_4]
        have hI : mIk s ad' = mIk s ad := by
          funext j
          unfold mIk
          split
          · rw [had _ (by unfold ib; omega)]
          · rfl
        rw [hI]
      · exact (cK_cong hc (by omega) e4 e6 (fun _ => had _ (by decide)) (fun z9 => absurd z9 e5) (fun x _ h9 _ => had x h9)).symm
theorem eOK5 {k : Nat} (hn : n < 16) : eOK (wK2 Y n (n + 1) s cp cq ad M) (mTk n ad) k := fun i _ y hy => by
  unfold mTk at hy
  by_cases hi : i < n
  · rw [if_pos hi] at hy
    cases hy
    obtain ⟨q, -, h2⟩ := pM_at (cell := cK n s cp cq ad Y) (cs := csK (n + 1) s cp) (ad := ad) (M := M) (mG_0 (Nat.lt_succ_of_lt hi)) (hG_0 (by omega) _ _)
    exact ⟨q, 5, _, (RX6, TX6, 14), h2, rfl, ca_X6⟩
  · rw [if_neg hi] at hy; cases hy
variable {A : Nat → Prop} {q0 q1 b9 : Nat}
theorem w5F (hD : va_D A (wK2 Y n (n + 1) s cp cq ad M)) (hn : n < 16) (h5 : (csK (n + 1) s cp)[q0]? = some 5) (h6 : (csK (n + 1) s cp)[q1]? = some 6) : ((wK2 Y n (n + 1) s cp cq ad M).set q1 (ad 6, aQ (Y 4) cq (va_up (mTk n ad) n (some (ad (tb n)))))).set q0 (ad 5, lQ (M.1 5 0 + 1) (ad 6) (nI (n + 1))) = wK Y (n + 1) s cp cq ad (gAdd5 M n) := by
  obtain ⟨q9, g1, g2⟩ := pM_at (cell := cK n s cp cq ad Y) (cs := csK (n + 1) s cp) (ad := ad) (M := M) mK_6 (hK_6 _ _)
  have hq : q9 = q1 := pw_inj hD g1 h6
  subst hq
  have hD2 := hD.set (e := aQ (Y 4) cq (va_up (mTk n ad) n (some (ad (tb n))))) g2
  unfold wK2 pM at hD hD2 ⊢
  rw [pw_set hD h6] at hD2 ⊢
  rw [pw_set hD2 h5]
  refine pw_congr (fun _ _ => rfl) (fun c hc => add5_c (cq := cq) (ad := ad) hc hn ?_ ?_ (fun c e5 e6 => ?_) (fun _ _ => rfl))
  · rw [va_up_self]; unfold GL gAdd5; rw [mI_s, mI_o _ _ _ _ (by decide), mI_s]
  · rw [va_up_ne _ _ (by decide), va_up_self, mTk_s]
  · rw [va_up_ne _ _ e5, va_up_ne _ _ e6]
theorem w5G (hD : va_D A (wK2 Y n (n + 1) s cp cq ad M)) (hn : n < 16) (h5 : (csK (n + 1) s cp)[q0]? = some 5) (h6 : (csK (n + 1) s cp)[q1]? = some 6) : ((wK2 Y n (n + 1) s cp cq ad M).set q0 (ad 5, lQ (M.1 5 0 + 1) b9 (nI (n + 1)))).set q1 (b9, aQ (Y 4) (ncap n) (va_up (va_cpy (mTk n ad) (fun _ => none) 0 0 n) n (some (ad (tb n))))) = wK Y (n + 1) s cp (ncap n) (fun c => if c = 6 then b9 else ad c) (gAdd5 M n) := by
  obtain ⟨q9, g1, g2⟩ := pM_at (cell := cK n s cp cq ad Y) (cs := csK (n + 1) s cp) (ad := ad) (M := M) mK_5 (hK_5 _ _)
  have hq : q9 = q0 := pw_inj hD g1 h5
  subst hq
  have hD2 := hD.set (e := lQ (M.1 5 0 + 1) b9 (nI (n + 1))) g2
  unfold wK2 pM at hD hD2 ⊢
  rw [pw_set hD h5] at hD2 ⊢
  rw [pw_rep hD2 h6]
  have hm : mTk (n + 1) (fun c => if c = 6 then b9 else ad c) = mTk (n + 1) ad := by
    funext j
    unfold mTk
    split
    · exact congrArg some (if_neg (by unfold tb; omega))
    · rfl
  refine pw_congr (fun _ _ => rfl) (fun c hc => add5_c (cq := cq) (ad := ad) hc hn ?_ ?_ (fun c e5 e6 => ?_) (fun x hx => if_neg hx))
  · rw [va_up_ne _ _ (by decide), va_up_self]; unfold GL gAdd5; rw [mI_s, mI_o _ _ _ _ (by decide), mI_s]; rfl
  · rw [va_up_self, hm, mTk_cpy, mTk_s]
  · rw [va_up_ne _ _ e6, va_up_ne _ _ e5]
end FORKL
def gFork (M : vM) (n b : Nat) (x y : Int32) : vM :=
  if n = 16 then mL M (b + 8) (nn x) (-1) else
    let N := gNewS (mL M (b + 8) (nn x) (nI n).toInt64) (tb n) y
    gAdd5 (mRL N (tb n + 8) (vcp (N.2 (b + 8)) 0 0 16 (N.2 (tb n + 8)))) n
set_option maxHeartbeats 4000000 in
set_option maxRecDepth 100000 in
theorem c_X7_fork {l : Launch} {D : va_G} {Y : Nat → ClassId} {zz : Nat → Nat} {n s cp cq : Nat} {ad : Nat → Nat} {M : vM} {i : Nat} (hi : i < n) (h16 : i < 16) (h52 : M.1 5 2 = nI n) (hn16 : n ≤ 16) (hn1 : 0 < n) (hq : n ≤ cq ∧ cq ≤ 2 * n + 10) {x y : Int32} (hx1 : x = nI (nn x)) (hx2 : nn x < 16) : Ct l D Y zz yX7_fork cX7_fork 6 none 7 211 [.ref (ad (0)), .ref (ad (tb i)), .int x, .int y] (wK Y n s cp cq ad M) ((if n = 16 then 0 else 13)) ((if n = 16 then 0 else 800)) (fun r w => r = none ∧ ∃ (ad9 : Nat → Nat) (cq9 : Nat), w = wK Y (if n = 16 then n else n + 1) s cp cq9 ad9 (gFork M n (tb i) x y) ∧ ((if n = 16 then n else n + 1) ≤ cq9 ∧ cq9 ≤ 2 * (if n = 16 then n else n + 1) + 10) ∧ ∀ c, c ≠ 6 → (c < tb n ∨ 400 ≤ c) → ad9 c = ad c) := by
  refine v_entry (by decide +kernel) (Nat.le_of_ble_eq_true rfl) ?_
  intro K X R hR hnm hl hD hY hz
  subst hl hD hY hz
  refine v_sub (lv' := [(0, .ref (ad (0))), (1, .ref (ad (tb i))), (2, .int x), (3, .int y)]) [0, 1, 2, 3] rfl ?_
  refine v_aload_n (pc' := 1) (i := 0) (j := 0) X dX7_fork_0 rfl rfl rfl ?_
  refine fk_X7_16 (pc' := 4) X dX7_fork_1 rfl ?_
  refine v_callV (pc' := 7) X (st := []) (c_size5 (M := M)) k_Jx4a65c_size_8abf5 w_ml_X7_59 w_im_Jx4a65c_size_8abf5 w_se_Jx4a65c_Jx4a65c_size_8abf5 rw_L5 (by rw [hR]; exact ⟨Nat.le_of_ble_eq_true rfl, Nat.le_of_ble_eq_true rfl⟩) rfl rfl (Nat.le_of_ble_eq_true rfl) dX7_fork_4 rfl (⟨Nat.zero_le _, Nat.zero_le _⟩) ?_
  rintro _ _ ⟨rfl, rfl⟩
  rw [h52]
  refine v_istore (pc' := 9) (lv' := [(4, .int (nI n)), (0, .ref (ad (0))), (1, .ref (ad (tb i))), (2, .int x), (3, .int y)]) X dX7_fork_7 (by decide) rfl rfl ?_
  refine v_iload (pc' := 11) (j := 0) X dX7_fork_9 rfl rfl ?_
  refine v_bipush (pc' := 13) (v := 16) X dX7_fork_11 (by decide) rfl ?_
  refine v_icmp_lt (pc' := 16) (tgt := 26) X dX7_fork_13 (by decide) rfl (fun hc_13 => ?_) (fun hc_13 => ?_)
  -- taken 13
  · refine v_aload_n (pc' := 27) (i := 1) (j := 2) X dX7_fork_26 rfl rfl rfl ?_
    refine fk_X7_119 (pc' := 30) X hi h16 dX7_fork_27 rfl ?_
    refine v_iload_n (pc' := 31) (i := 2) (j := 3) X dX7_fork_30 rfl rfl rfl ?_
    refine v_iload (pc' := 33) (j := 0) X dX7_fork_31 rfl rfl ?_
    refine v_i2l (pc' := 34) X dX7_fork_33 rfl rfl ?_
    refine aq_G8 (pc' := 35) X hi h16 (nn x) hx1 (by omega) dX7_fork_34 rfl ?_
    have hn9 : ¬ n = 16 := by
      have hh := lt_of_nI (b := 16) hc_13 (by omega) (by decide); omega
    have hn15 : n < 16 := by omega
    refine v_new (pc' := 38) X inX6 tyX6 tyX6_ok w_cl_X7_50 w_is_X6 w_in_X6 (ci := 5) (fs := [.null, .null, .null, .null, .null, .null, .null, .null, .int 0, .int 0, .int 0, .int 0, .int 0, .int 0]) rfl (fun j hj => by rcases (show j = 0 ∨ j = 1 ∨ j = 2 ∨ j = 3 ∨ j = 4 ∨ j = 5 ∨ j = 6 ∨ j = 7 ∨ j = 8 ∨ j = 9 ∨ j = 10 ∨ j = 11 ∨ j = 12 ∨ j = 13 by omega) with rfl | rfl | rfl | rfl | rfl | rfl | rfl | rfl | rfl | rfl | rfl | rfl | rfl | rfl <;> rfl) (by rw [hR]; show 0 + 0 + 1 ≤ (if n = 16 then 0 else 13); rw [if_neg hn9]; decide) (by rw [hR]; show 0 + 0 + 14 ≤ (if n = 16 then 0 else 800); rw [if_neg hn9]; decide) dX7_fork_35 rfl (fun q0 => ?_)
    refine v_widen (m1 := 1) (m2 := 14) (Nat.le_of_ble_eq_true rfl) (Nat.le_of_ble_eq_true rfl) ?_
    refine v_dup (pc' := 39) X dX7_fork_38 rfl rfl ?_
    refine v_iload_n (pc' := 40) (i := 3) (j := 4) X dX7_fork_39 rfl rfl rfl ?_
    refine v_callIN (pc' := 43) X (st := [.ref q0]) (c_X6_init (ws0 := wK (kY K) n s cp cq ad (mL M (tb i + 8) (nn x) ((nI n).toInt64))) (h0 := q0) (t9 := y)) k_X6_init n_ml_X7_52 w_im_X6_init rfl (by rw [hR]; exact ⟨Nat.le_of_ble_eq_true rfl, Nat.le_of_ble_eq_true rfl⟩) rfl rfl (Nat.le_of_ble_eq_true rfl) dX7_fork_40 rfl (by rw [hR]; show 1 + 11 ≤ (if n = 16 then 0 else 13) ∧ 14 + 662 ≤ (if n = 16 then 0 else 800); rw [if_neg hn9, if_neg hn9]; decide) ?_
    rintro _ _ ⟨rfl, a8, a10, a11, a12, a13, a14, a9, a18, a15, a16, a17, rfl⟩
    refine v_widen (m1 := 12) (m2 := 676) (Nat.le_of_ble_eq_true rfl) (Nat.le_of_ble_eq_true rfl) ?_
    refine (v_newS hn15 ?_)
    obtain ⟨ad9, had9⟩ : ∃ ad9, ad9 = adG ad n q0 a8 a9 a10 a11 a12 a13 a14 a15 a16 a17 a18 := ⟨_, rfl⟩
    have hAn : ad9 (tb n) = q0 := by rw [had9]; exact adG_0
    have hA : ∀ c, c < tb n ∨ tb n + 18 < c → ad9 c = ad c := fun c hc => by rw [had9]; exact adG_o hc
    rw [← had9]
    show V K 6 _ 12 676 43 [(4, .int (nI n)), (0, .ref (ad (0))), (1, .ref (ad (tb i))), (2, .int x), (3, .int y)] [.ref q0]
    rw [← hAn, ← hA (tb i) (Or.inl (by unfold tb; omega)), ← hA 0 (Or.inl (by unfold tb; omega))]
    refine v_astore (pc' := 45) (lv' := [(5, .ref (ad9 (tb n))), (4, .int (nI n)), (0, .ref (ad9 (0))), (1, .ref (ad9 (tb i))), (2, .int x), (3, .int y)]) X dX7_fork_43 (by decide) rfl rfl ?_
    refine v_aload_n (pc' := 46) (i := 1) (j := 3) X dX7_fork_45 rfl rfl rfl ?_
    refine fk_X7_119N (pc' := 49) X (Nat.lt_succ_of_lt hi) h16 dX7_fork_46 rfl ?_
    refine v_iconst (pc' := 50) (v := 0) X dX7_fork_49 (by decide) rfl ?_
    refine v_aload (pc' := 52) (j := 0) X dX7_fork_50 rfl rfl ?_
    refine fk_X7_119N (pc' := 55) X (Nat.lt_succ_self n) hn15 dX7_fork_52 rfl ?_
    refine v_iconst (pc' := 56) (v := 0) X dX7_fork_55 (by decide) rfl ?_
    refine v_bipush (pc' := 58) (v := 16) X dX7_fork_56 (by decide) rfl ?_
    refine p_copyl (pc' := 61) X w_ml_X7_305 (mG_8 (Nat.lt_succ_of_lt hi)) (mG_8 (Nat.lt_succ_self n)) 1 (hG_8 h16) (hG_8 hn15) rfl (0) (0) (16) rfl rfl rfl (by omega) (by omega) (by decide) (by decide) (by rw [hR]; exact Nat.le_of_ble_eq_true rfl) (by rw [hR]; exact Nat.le_of_ble_eq_true rfl) dX7_fork_58 rfl ?_
    refine v_aload_n (pc' := 62) (i := 0) (j := 2) X dX7_fork_61 rfl rfl rfl ?_
    refine fk_X7_16N (pc' := 65) X dX7_fork_62 rfl ?_
    refine v_aload (pc' := 67) (j := 0) X dX7_fork_65 rfl rfl ?_
    refine v_atD (fun hD0 => ?_)
    have hM52 : (mRL (gNewS (mL M (tb i + 8) (nn x) (nI n).toInt64) (tb n) y) (tb n + 8) (vcp ((gNewS (mL M (tb i + 8) (nn x) (nI n).toInt64) (tb n) y).2 (tb i + 8)) 0 0 16 ((gNewS (mL M (tb i + 8) (nn x) (nI n).toInt64) (tb n) y).2 (tb n + 8)))).1 5 2 = nI n := by
      rw [mRL_1, (gNewS_o (Or.inl (by unfold tb; omega))).1]; exact h52
    obtain ⟨q0, g0, e0⟩ := pM_at (cell := cK n s cp cq ad9 (kY K)) (cs := csK (n + 1) s cp) (ad := ad9) (M := (mRL (gNewS (mL M (tb i + 8) (nn x) (nI n).toInt64) (tb n) y) (tb n + 8) (vcp ((gNewS (mL M (tb i + 8) (nn x) (nI n).toInt64) (tb n) y).2 (tb i + 8)) 0 0 16 ((gNewS (mL M (tb i + 8) (nn x) (nI n).toInt64) (tb n) y).2 (tb n + 8))))) mK_5 (hK_5 _ _)
    obtain ⟨q1, g1, e1⟩ := pM_at (cell := cK n s cp cq ad9 (kY K)) (cs := csK (n + 1) s cp) (ad := ad9) (M := (mRL (gNewS (mL M (tb i + 8) (nn x) (nI n).toInt64) (tb n) y) (tb n + 8) (vcp ((gNewS (mL M (tb i + 8) (nn x) (nI n).toInt64) (tb n) y).2 (tb i + 8)) 0 0 16 ((gNewS (mL M (tb i + 8) (nn x) (nI n).toInt64) (tb n) y).2 (tb n + 8))))) mK_6 (hK_6 _ _)
    obtain ⟨qx, gx, ex⟩ := pM_at (cell := cK n s cp cq ad9 (kY K)) (cs := csK (n + 1) s cp) (ad := ad9) (M := (mRL (gNewS (mL M (tb i + 8) (nn x) (nI n).toInt64) (tb n) y) (tb n + 8) (vcp ((gNewS (mL M (tb i + 8) (nn x) (nI n).toInt64) (tb n) y).2 (tb i + 8)) 0 0 16 ((gNewS (mL M (tb i + 8) (nn x) (nI n).toInt64) (tb n) y).2 (tb n + 8))))) (mG_0 (Nat.lt_succ_self n)) (hG_0 hn15 _ _)
    have e0L : (wK2 (kY K) n (n + 1) s cp cq ad9 (mRL (gNewS (mL M (tb i + 8) (nn x) (nI n).toInt64) (tb n) y) (tb n + 8) (vcp ((gNewS (mL M (tb i + 8) (nn x) (nI n).toInt64) (tb n) y).2 (tb i + 8)) 0 0 16 ((gNewS (mL M (tb i + 8) (nn x) (nI n).toInt64) (tb n) y).2 (tb n + 8)))))[q0]? = some (ad9 5, lQ ((mRL (gNewS (mL M (tb i + 8) (nn x) (nI n).toInt64) (tb n) y) (tb n + 8) (vcp ((gNewS (mL M (tb i + 8) (nn x) (nI n).toInt64) (tb n) y).2 (tb i + 8)) 0 0 16 ((gNewS (mL M (tb i + 8) (nn x) (nI n).toInt64) (tb n) y).2 (tb n + 8)))).1 5 0) (ad9 6) (nI n)) := by rw [e0]; unfold GL; rw [hM52]
    have hxq : qx ≠ q0 := fun z9 => by
      rw [z9] at gx
      have h9 := Option.some.inj (gx.symm.trans g0); unfold tb at h9; omega
    rcases Nat.lt_or_ge n cq with hnq | hnq
    · refine v_callV (pc' := 70) X (st := []) (c_addF e0L e1 hnq (by omega) hxq ex rfl ca_X6) k_Jx4a65c_add_9ea2d w_ml_X7_55 w_im_Jx4a65c_add_9ea2d w_se_Jx4a65c_Jx4a65c_add_9ea2d ⟨q0, 0, _, _, e0, rfl, rfl⟩ (by rw [hR]; exact ⟨Nat.le_of_ble_eq_true rfl, Nat.le_of_ble_eq_true rfl⟩) rfl rfl (Nat.le_of_ble_eq_true rfl) dX7_fork_67 rfl (by rw [hR]; show 12 + 0 ≤ (if n = 16 then 0 else 13) ∧ 676 + 0 ≤ (if n = 16 then 0 else 800); rw [if_neg hn9, if_neg hn9]; decide) ?_
      rintro _ _ ⟨rfl, rfl⟩
      refine v_eqw (w5F hD0 hn15 g0 g1) ?_
      refine v_pop (pc' := 71) X dX7_fork_70 rfl rfl ?_
      refine v_return X R (by rw [if_neg hn9]; decide) (by rw [if_neg hn9]; decide) dX7_fork_71 ?_
      refine ⟨rfl, ad9, cq, ?_, by rw [if_neg hn9]; omega, ?_⟩
      · rw [if_neg hn9, gFork, if_neg hn9]
      · exact fun c _ h9 => hA c (h9.imp id (fun q9 => by unfold tb; omega))
    · have hnc : n = cq := by omega
      subst hnc
      have hnl := ncap_le n
      refine v_callV (pc' := 70) X (st := []) (c_addG e0L (Or.inr ⟨hn1, q1, e1⟩) (by omega) (eOK5 hn15) hxq ex rfl ca_X6) k_Jx4a65c_add_9ea2d w_ml_X7_55 w_im_Jx4a65c_add_9ea2d w_se_Jx4a65c_Jx4a65c_add_9ea2d ⟨q0, 0, _, _, e0, rfl, rfl⟩ (by rw [hR]; exact ⟨Nat.le_of_ble_eq_true rfl, Nat.le_of_ble_eq_true rfl⟩) rfl rfl (Nat.le_of_ble_eq_true rfl) dX7_fork_67 rfl (by rw [hR]; show 12 + 1 ≤ (if n = 16 then 0 else 13) ∧ 676 + ncap n ≤ (if n = 16 then 0 else 800); rw [if_neg hn9, if_neg hn9]; exact ⟨by decide, by omega⟩) ?_
      rintro _ _ ⟨rfl, b9, rfl⟩
      refine (v_mv (set_ne (fun z9 => by rw [z9] at g1; exact absurd (Option.some.inj (g1.symm.trans g0)) (by decide)) e1) ?_)
      refine v_eqw (w5G hD0 hn15 g0 g1) ?_
      refine v_pop (pc' := 71) X dX7_fork_70 rfl rfl ?_
      refine v_return X R (by rw [if_neg hn9]; decide) (by rw [if_neg hn9]; show 676 + ncap n ≤ 800; omega) dX7_fork_71 ?_
      refine ⟨rfl, (fun c => if c = 6 then b9 else ad9 c), ncap n, ?_, by rw [if_neg hn9]; omega, ?_⟩
      · rw [if_neg hn9, gFork, if_neg hn9]
      · exact fun c h6 h9 => (if_neg h6).trans (hA c (h9.imp id (fun q9 => by unfold tb; omega)))
  -- not taken 13
  · refine v_aload_n (pc' := 17) (i := 1) (j := 2) X dX7_fork_16 rfl rfl rfl ?_
    refine fk_X7_119 (pc' := 20) X hi h16 dX7_fork_17 rfl ?_
    refine v_iload_n (pc' := 21) (i := 2) (j := 3) X dX7_fork_20 rfl rfl rfl ?_
    refine v_ldc2 (pc' := 24) (v := -1) X dX7_fork_21 w_kl_X7_303 rfl ?_
    refine aq_G8 (pc' := 25) X hi h16 (nn x) hx1 (by omega) dX7_fork_24 rfl ?_
    have hn9 : n = 16 := by
      rcases Nat.lt_or_ge n 16 with q9 | q9
      · exact absurd (nI_lt (b := 16) q9 (by decide)) hc_13
      · omega
    refine v_return X R (Nat.zero_le _) (Nat.zero_le _) dX7_fork_25 ?_
    refine ⟨rfl, ad, cq, ?_, by rw [if_pos hn9]; exact hq, fun _ _ _ => rfl⟩
    rw [if_pos hn9, gFork, if_pos hn9]
