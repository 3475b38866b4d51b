/-! THE FACE (reference) -/
theorem sw_0_7 (x : Int32) : x = 0 ∨ x = 1 ∨ x = 2 ∨ x = 3 ∨ x = 4 ∨ x = 5 ∨ x = 6 ∨ x = 7 ∨ (x.toInt < 0 ∨ 7 < x.toInt) := by
  by_cases h : x.toInt < 0 ∨ 7 < x.toInt
  · exact Or.inr (Or.inr (Or.inr (Or.inr (Or.inr (Or.inr (Or.inr (Or.inr (h))))))))
  · have h2 : x.toInt = 0 ∨ x.toInt = 1 ∨ x.toInt = 2 ∨ x.toInt = 3 ∨ x.toInt = 4 ∨ x.toInt = 5 ∨ x.toInt = 6 ∨ x.toInt = 7 := by omega
    rcases h2 with h3 | h3 | h3 | h3 | h3 | h3 | h3 | h3
    · exact Or.inl (Int32.toInt_inj.mp h3)
    · exact Or.inr (Or.inl (Int32.toInt_inj.mp h3))
    · exact Or.inr (Or.inr (Or.inl (Int32.toInt_inj.mp h3)))
    · exact Or.inr (Or.inr (Or.inr (Or.inl (Int32.toInt_inj.mp h3))))
    · exact Or.inr (Or.inr (Or.inr (Or.inr (Or.inl (Int32.toInt_inj.mp h3)))))
    · exact Or.inr (Or.inr (Or.inr (Or.inr (Or.inr (Or.inl (Int32.toInt_inj.mp h3))))))
    · exact Or.inr (Or.inr (Or.inr (Or.inr (Or.inr (Or.inr (Or.inl (Int32.toInt_inj.mp h3)))))))
    · exact Or.inr (Or.inr (Or.inr (Or.inr (Or.inr (Or.inr (Or.inr (Or.inl (Int32.toInt_inj.mp h3))))))))
theorem sw_0_2 (x : Int32) : x = 0 ∨ x = 1 ∨ x = 2 ∨ (x.toInt < 0 ∨ 2 < x.toInt) := by
  by_cases h : x.toInt < 0 ∨ 2 < x.toInt
  · exact Or.inr (Or.inr (Or.inr (h)))
  · have h2 : x.toInt = 0 ∨ x.toInt = 1 ∨ x.toInt = 2 := by omega
    rcases h2 with h3 | h3 | h3
    · exact Or.inl (Int32.toInt_inj.mp h3)
    · exact Or.inr (Or.inl (Int32.toInt_inj.mp h3))
    · exact Or.inr (Or.inr (Or.inl (Int32.toInt_inj.mp h3)))
theorem sw_0_8 (x : Int32) : x = 0 ∨ x = 1 ∨ x = 2 ∨ x = 3 ∨ x = 4 ∨ x = 5 ∨ x = 6 ∨ x = 7 ∨ x = 8 ∨ (x.toInt < 0 ∨ 8 < x.toInt) := by
  by_cases h : x.toInt < 0 ∨ 8 < x.toInt
  · exact Or.inr (Or.inr (Or.inr (Or.inr (Or.inr (Or.inr (Or.inr (Or.inr (Or.inr (h)))))))))
  · have h2 : x.toInt = 0 ∨ x.toInt = 1 ∨ x.toInt = 2 ∨ x.toInt = 3 ∨ x.toInt = 4 ∨ x.toInt = 5 ∨ x.toInt = 6 ∨ x.toInt = 7 ∨ x.toInt = 8 := by omega
    rcases h2 with h3 | h3 | h3 | h3 | h3 | h3 | h3 | h3 | h3
    · exact Or.inl (Int32.toInt_inj.mp h3)
    · exact Or.inr (Or.inl (Int32.toInt_inj.mp h3))
    · exact Or.inr (Or.inr (Or.inl (Int32.toInt_inj.mp h3)))
    · exact Or.inr (Or.inr (Or.inr (Or.inl (Int32.toInt_inj.mp h3))))
    · exact Or.inr (Or.inr (Or.inr (Or.inr (Or.inl (Int32.toInt_inj.mp h3)))))
    · exact Or.inr (Or.inr (Or.inr (Or.inr (Or.inr (Or.inl (Int32.toInt_inj.mp h3))))))
    · exact Or.inr (Or.inr (Or.inr (Or.inr (Or.inr (Or.inr (Or.inl (Int32.toInt_inj.mp h3)))))))
    · exact Or.inr (Or.inr (Or.inr (Or.inr (Or.inr (Or.inr (Or.inr (Or.inl (Int32.toInt_inj.mp h3))))))))
    · exact Or.inr (Or.inr (Or.inr (Or.inr (Or.inr (Or.inr (Or.inr (Or.inr (Or.inl (Int32.toInt_inj.mp h3)))))))))
theorem mI_mI (M : vM) (c k : Nat) (v w : Int32) : mI (mI M c k v) c k w = mI M c k w := by
  show (va_up (va_up M.1 c (upd (M.1 c) k v)) c (upd (va_up M.1 c (upd (M.1 c) k v) c) k w), M.2) = _
  rw [bx_uu, va_up_self]
  have e1 : upd (upd (M.1 c) k v) k w = upd (M.1 c) k w := by
    funext j
    show (if j = k then w else if j = k then v else M.1 c j) = (if j = k then w else M.1 c j)
    by_cases h : j = k
    · rw [if_pos h, if_pos h]
    · rw [if_neg h, if_neg h, if_neg h]
  rw [e1]; rfl
def fPut (M : vM) (o x y z : Int32) : vM × Int32 :=
  if M.1 0 1 = 1000 then (mI M 0 0 1, 0) else
    let s := nn (M.1 0 1)
    (mI (mI (mI (mI (mI (mI M 0 0 0) 9 s o) 10 s x) 11 s y) 12 s z) 0 1 (M.1 0 1 + 1), M.1 0 1 + 1 - 1)
noncomputable def fThrd (M : vM) (n : Nat) (k what : Int32) : Int32 × Int32 :=
  if k < 0 ∨ nI n ≤ k then (1, 0) else
    let b := tb (nn k)
    if what = 0 then (0, M.1 b 0) else if what = 1 then (0, M.1 b 1) else if what = 2 then (0, M.1 b 2) else if what = 3 then (0, M.1 b 3) else if what = 4 then (0, M.1 b 4) else if what = 5 then (0, M.1 b 5) else if what = 6 then (0, M.1 b 6)
    else if what = 7 then (0, @ite _ (fIn M b) (Classical.propDecidable _) (M.1 b 7) (-1)) else (2, 0)
noncomputable def fReg (M : vM) (n : Nat) (k x : Int32) : Int32 × Int64 := @ite _ ((k < 0 ∨ nI n ≤ k) ∨ nrg x) (Classical.propDecidable _) (1, 0) (0, M.2 (tb (nn k) + 8) (nn x))
noncomputable def fGlob (M : vM) (k : Int32) : Int32 × Int64 := @ite _ (ngl k) (Classical.propDecidable _) (1, 0) (0, M.2 14 (nn k))
def fPlace (M : vM) (p what : Int32) : Int32 × Int64 :=
  if p < 0 ∨ M.1 0 3 ≤ p then (1, 0) else
    if what = 0 then (0, if M.1 17 (nn p) = 0 then 2 else 1) else if what = 1 then (0, M.2 15 (nn p)) else if what = 2 then (0, if M.1 17 (nn p) = 0 then (M.1 19 (nn p)).toInt64 else M.2 16 (nn p)) else (2, 0)
def fOutp (M : vM) (k : Int32) : Int32 × Int32 := if k < 0 ∨ M.1 0 8 ≤ k then (1, 0) else (0, M.1 21 (nn k))
noncomputable def fCount (M : vM) (n : Nat) (what : Int32) : Int32 :=
  if what = 0 then M.1 0 1 else if what = 1 then M.1 0 2 else if what = 2 then M.1 0 3 else if what = 3 then M.1 0 4 else if what = 4 then M.1 0 5 else if what = 5 then M.1 0 6 else if what = 6 then M.1 0 7 else if what = 7 then M.1 0 8
  else if what = 8 then bP ((∀ i, i < n → M.1 (tb i) 0 ≠ 1) ∧ ∃ i, i < n ∧ M.1 (tb i) 0 = 2) else -1
theorem sw_out {x : Int32} {lo hi : Int} {k : Int32} (h : x.toInt < lo ∨ hi < x.toInt) (h1 : lo ≤ k.toInt) (h2 : k.toInt ≤ hi) : ¬ x = k := fun z9 => by rw [z9] at h; omega
theorem ix_of {k : Int32} {n : Nat} (hn : n < 2 ^ 31) (h1 : ¬ k < 0) (h2 : ¬ nI n ≤ k) : k = nI (nn k) ∧ nn k < n := by
  obtain ⟨j, hj, rfl⟩ := nI_of h1
  rw [nn_nI hj]
  refine ⟨rfl, ?_⟩
  rcases Nat.lt_or_ge j n with q9 | q9
  · exact q9
  · exact absurd (nI_le q9 hj) h2
set_option maxHeartbeats 4000000 in
set_option maxRecDepth 100000 in
theorem c_X9_put {l : Launch} {D : va_G} {Y : Nat → ClassId} {zz : Nat → Nat} {n sz us pd : Nat} {ad : Nat → Nat} {M : vM} (hg : gI M n sz us pd) {op x y z : Int32} : Ct l D Y zz yX9_put cX9_put 5 (some FieldType.int) 1 21 [.ref (ad (0)), .int op, .int x, .int y, .int z] (wM Y n ad M) 0 0 (fun r w => r = some (.int (fPut M op x y z).2) ∧ w = wM Y n ad (fPut M op x y z).1) := by
  refine v_entry (by decide +kernel) (Nat.le_of_ble_eq_true rfl) ?_
  intro K X R hR hnm hl hD hY hz
  subst hl hD hY hz
  refine v_sub (lv' := [(0, .ref (ad (0))), (1, .int op), (2, .int x), (3, .int y), (4, .int z)]) [0, 1, 2, 3, 4] rfl ?_
  obtain ⟨hsz, hsz2, hn2, hn1, hn16, hus, hus2, hpd, hpd2, h17, hfs, hvi, hgl⟩ := id hg
  refine v_aload_n (pc' := 1) (i := 0) (j := 0) X dX9_put_0 rfl rfl rfl ?_
  refine v_iconst (pc' := 2) (v := 0) X dX9_put_1 (by decide) rfl ?_
  refine fp_X9_59 (pc' := 5) X dX9_put_2 rfl ?_
  refine v_aload_n (pc' := 6) (i := 0) (j := 0) X dX9_put_5 rfl rfl rfl ?_
  refine fg_X9_72 (pc' := 9) X (v := nI sz) ((mI_o _ _ _ _ (by decide)).trans hsz) dX9_put_6 rfl ?_
  refine v_sipush (pc' := 12) (v := 1000) X dX9_put_9 (by decide) rfl ?_
  refine v_icmp_ne (pc' := 15) (tgt := 21) X dX9_put_12 (by decide) rfl (fun hc_12 => ?_) (fun hc_12 => ?_)
  -- taken 12
  · have hs3 : sz < 1000 := by
      rcases Nat.lt_or_ge sz 1000 with q9 | q9
      · exact q9
      · exact absurd (congrArg nI (show sz = 1000 by omega)) hc_12
    refine v_aload_n (pc' := 22) (i := 0) (j := 0) X dX9_put_21 rfl rfl rfl ?_
    refine fg_X9_13 (pc' := 25) X dX9_put_22 rfl ?_
    refine v_aload_n (pc' := 26) (i := 0) (j := 0) X dX9_put_25 rfl rfl rfl ?_
    refine fg_X9_72 (pc' := 29) X (v := nI sz) ((mI_o _ _ _ _ (by decide)).trans hsz) dX9_put_26 rfl ?_
    refine v_iload_n (pc' := 30) (i := 1) (j := 1) X dX9_put_29 rfl rfl rfl ?_
    refine as_M9 (pc' := 31) X (sz) rfl (by omega) dX9_put_30 rfl ?_
    refine v_aload_n (pc' := 32) (i := 0) (j := 0) X dX9_put_31 rfl rfl rfl ?_
    refine fg_X9_17 (pc' := 35) X dX9_put_32 rfl ?_
    refine v_aload_n (pc' := 36) (i := 0) (j := 0) X dX9_put_35 rfl rfl rfl ?_
    refine fg_X9_72 (pc' := 39) X (v := nI sz) ((congrFun (mI_n _ _ _ _ (by decide)) _).trans ((mI_o _ _ _ _ (by decide)).trans hsz)) dX9_put_36 rfl ?_
    refine v_iload_n (pc' := 40) (i := 2) (j := 2) X dX9_put_39 rfl rfl rfl ?_
    refine as_M10 (pc' := 41) X (sz) rfl (by omega) dX9_put_40 rfl ?_
    refine v_aload_n (pc' := 42) (i := 0) (j := 0) X dX9_put_41 rfl rfl rfl ?_
    refine fg_X9_20 (pc' := 45) X dX9_put_42 rfl ?_
    refine v_aload_n (pc' := 46) (i := 0) (j := 0) X dX9_put_45 rfl rfl rfl ?_
    refine fg_X9_72 (pc' := 49) X (v := nI sz) ((congrFun (mI_n _ _ _ _ (by decide)) _).trans ((congrFun (mI_n _ _ _ _ (by decide)) _).trans ((mI_o _ _ _ _ (by decide)).trans hsz))) dX9_put_46 rfl ?_
    refine v_iload_n (pc' := 50) (i := 3) (j := 3) X dX9_put_49 rfl rfl rfl ?_
    refine as_M11 (pc' := 51) X (sz) rfl (by omega) dX9_put_50 rfl ?_
    refine v_aload_n (pc' := 52) (i := 0) (j := 0) X dX9_put_51 rfl rfl rfl ?_
    refine fg_X9_23 (pc' := 55) X dX9_put_52 rfl ?_
    refine v_aload_n (pc' := 56) (i := 0) (j := 0) X dX9_put_55 rfl rfl rfl ?_
    refine fg_X9_72 (pc' := 59) X (v := nI sz) ((congrFun (mI_n _ _ _ _ (by decide)) _).trans ((congrFun (mI_n _ _ _ _ (by decide)) _).trans ((congrFun (mI_n _ _ _ _ (by decide)) _).trans ((mI_o _ _ _ _ (by decide)).trans hsz)))) dX9_put_56 rfl ?_
    refine v_iload (pc' := 61) (j := 4) X dX9_put_59 rfl rfl ?_
    refine as_M12 (pc' := 62) X (sz) rfl (by omega) dX9_put_61 rfl ?_
    refine v_aload_n (pc' := 63) (i := 0) (j := 0) X dX9_put_62 rfl rfl rfl ?_
    refine v_dup (pc' := 64) X dX9_put_63 rfl rfl ?_
    refine fg_X9_72 (pc' := 67) X (v := nI sz) ((congrFun (mI_n _ _ _ _ (by decide)) _).trans ((congrFun (mI_n _ _ _ _ (by decide)) _).trans ((congrFun (mI_n _ _ _ _ (by decide)) _).trans ((congrFun (mI_n _ _ _ _ (by decide)) _).trans ((mI_o _ _ _ _ (by decide)).trans hsz))))) dX9_put_64 rfl ?_
    refine v_iconst (pc' := 68) (v := 1) X dX9_put_67 (by decide) rfl ?_
    refine v_iaddV (pc' := 69) (v := nI (sz + 1)) X (nI_add (sz) 1) dX9_put_68 rfl ?_
    refine fp_X9_72 (pc' := 72) X dX9_put_69 rfl ?_
    refine v_aload_n (pc' := 73) (i := 0) (j := 0) X dX9_put_72 rfl rfl rfl ?_
    refine fg_X9_72 (pc' := 76) X (v := nI (sz + 1)) (mI_s _ _ _ _) dX9_put_73 rfl ?_
    refine v_iconst (pc' := 77) (v := 1) X dX9_put_76 (by decide) rfl ?_
    refine v_isubV (pc' := 78) (v := nI (sz + 1 - 1)) X (pk_sub (a := sz + 1) (b := 1) (by omega)) dX9_put_77 rfl ?_
    refine v_ireturn X R (Nat.zero_le _) (Nat.zero_le _) dX9_put_78 ?_
    have hF : fPut M op x y z = ((mI (mI (mI (mI (mI (mI M 0 0 0) 9 sz op) 10 sz x) 11 sz y) 12 sz z) 0 1 (nI (sz + 1))), nI (sz + 1 - 1)) := by
      unfold fPut
      rw [hsz]
      rw [if_neg hc_12]
      simp only [nn_nI (show sz < 2 ^ 31 by omega), nI_1]
      rw [show nI (sz + 1) - 1 = nI (sz + 1 - 1) from nI_pred sz]
    rw [hF]
    exact ⟨rfl, rfl⟩
  -- not taken 12
  · refine v_aload_n (pc' := 16) (i := 0) (j := 0) X dX9_put_15 rfl rfl rfl ?_
    refine v_iconst (pc' := 17) (v := 1) X dX9_put_16 (by decide) rfl ?_
    refine v_callV (pc' := 20) X (st := []) (c_X9_fail (M := (mI M 0 0 0))) k_X9_fail w_ml_X9_243 w_im_X9_fail w_se_X9_X9_fail (rv_M) (by rw [hR]; exact ⟨Nat.le_of_ble_eq_true rfl, Nat.le_of_ble_eq_true rfl⟩) rfl rfl (Nat.le_of_ble_eq_true rfl) dX9_put_17 rfl (⟨Nat.zero_le _, Nat.zero_le _⟩) ?_
    rintro _ _ ⟨rfl, rfl⟩
    refine v_ireturn X R (Nat.zero_le _) (Nat.zero_le _) dX9_put_20 ?_
    have hF : fPut M op x y z = (mI M 0 0 1, 0) := by
      unfold fPut
      rw [hsz]
      exact if_pos hc_12
    rw [hF]
    exact ⟨rfl, by rw [mI_mI]⟩
set_option maxHeartbeats 4000000 in
set_option maxRecDepth 100000 in
theorem c_X9_thread {l : Launch} {D : va_G} {Y : Nat → ClassId} {zz : Nat → Nat} {n sz us pd : Nat} {ad : Nat → Nat} {M : vM} (hg : gI M n sz us pd) (hts : ∀ i, i < n → ∃ ca e r w, tI M us (tb i) ca e r w) {k what : Int32} : Ct l D Y zz yX9_thread cX9_thread 4 (some FieldType.int) 1 21 [.ref (ad (0)), .int k, .int what] (wM Y n ad M) 0 0 (fun r w => r = some (.int (fThrd M n k what).2) ∧ w = wM Y n ad (mI M 0 0 (fThrd M n k what).1)) := by
  refine v_entry (by decide +kernel) (Nat.le_of_ble_eq_true rfl) ?_
  intro K X R hR hnm hl hD hY hz
  subst hl hD hY hz
  refine v_sub (lv' := [(0, .ref (ad (0))), (1, .int k), (2, .int what)]) [0, 1, 2] rfl ?_
  obtain ⟨hsz, hsz2, hn2, hn1, hn16, hus, hus2, hpd, hpd2, h17, hfs, hvi, hgl⟩ := id hg
  refine v_aload_n (pc' := 1) (i := 0) (j := 0) X dX9_thread_0 rfl rfl rfl ?_
  refine v_iconst (pc' := 2) (v := 0) X dX9_thread_1 (by decide) rfl ?_
  refine fp_X9_59 (pc' := 5) X dX9_thread_2 rfl ?_
  refine v_aload_n (pc' := 6) (i := 0) (j := 0) X dX9_thread_5 rfl rfl rfl ?_
  refine v_iload_n (pc' := 7) (i := 1) (j := 1) X dX9_thread_6 rfl rfl rfl ?_
  refine v_callV (pc' := 10) X (st := []) (c_X9_noTask (ad := ad) (M := (mI M 0 0 0)) (k := k) ((mI_o _ _ _ _ (by decide)).trans hn2)) k_X9_noTask w_ml_X9_247 w_im_X9_noTask w_se_X9_X9_noTask (rv_M) (by rw [hR]; exact ⟨Nat.le_of_ble_eq_true rfl, Nat.le_of_ble_eq_true rfl⟩) rfl rfl (Nat.le_of_ble_eq_true rfl) dX9_thread_7 rfl (⟨Nat.zero_le _, Nat.zero_le _⟩) ?_
  rintro _ _ ⟨rfl, rfl⟩
  refine v_ifB_eq (pc' := 13) (tgt := 19) X dX9_thread_10 (by decide) rfl (fun hc_10 => ?_) (fun hc_10 => ?_)
  -- taken 10
  · obtain ⟨hk1, hk2⟩ := ix_of (by omega) (fun z9 => hc_10 (Or.inl z9)) (fun z9 => hc_10 (Or.inr z9))
    obtain ⟨ca, e, r, ww, hI⟩ := hts (nn k) hk2
    obtain ⟨h3, hca, h4, he, hrest⟩ := id hI
    refine v_aload_n (pc' := 20) (i := 0) (j := 0) X dX9_thread_19 rfl rfl rfl ?_
    refine fg_X9_28 (pc' := 23) X dX9_thread_20 rfl ?_
    refine v_iload_n (pc' := 24) (i := 1) (j := 1) X dX9_thread_23 rfl rfl rfl ?_
    refine ag_M13 (pc' := 25) X (nn k) hk1 (by omega) (by omega) dX9_thread_24 rfl ?_
    refine v_astore_n (pc' := 26) (i := 3) (lv' := [(3, .ref (ad (tb (nn k)))), (0, .ref (ad (0))), (1, .int k), (2, .int what)]) X dX9_thread_25 rfl (by decide) rfl rfl ?_
    refine v_iload_n (pc' := 27) (i := 2) (j := 3) X dX9_thread_26 rfl rfl rfl ?_
    rcases sw_0_7 what with rfl | rfl | rfl | rfl | rfl | rfl | rfl | rfl | hsw
    · refine v_tableIn (off := 45) (tgt := 72) X dX9_thread_27 (by decide) (by decide) (by decide) (by decide) ?_
      refine v_aload_n (pc' := 73) (i := 3) (j := 0) X dX9_thread_72 rfl rfl rfl ?_
      refine fg_X9_208 (pc' := 76) X (by omega) (v := M.1 (tb (nn k)) 0) (congrFun (mI_n _ _ _ _ (by unfold tb; omega)) _) dX9_thread_73 rfl ?_
      refine v_ireturn X R (Nat.zero_le _) (Nat.zero_le _) dX9_thread_76 ?_
      have hF : fThrd M n k 0 = (0, M.1 (tb (nn k)) 0) := by
        unfold fThrd
        rw [if_neg hc_10]
        simp only []
        rw [if_pos trivial]
      rw [hF]
      exact ⟨rfl, rfl⟩
    · refine v_tableIn (off := 50) (tgt := 77) X dX9_thread_27 (by decide) (by decide) (by decide) (by decide) ?_
      refine v_aload_n (pc' := 78) (i := 3) (j := 0) X dX9_thread_77 rfl rfl rfl ?_
      refine fg_X9_254 (pc' := 81) X (by omega) (v := M.1 (tb (nn k)) 1) (congrFun (mI_n _ _ _ _ (by unfold tb; omega)) _) dX9_thread_78 rfl ?_
      refine v_ireturn X R (Nat.zero_le _) (Nat.zero_le _) dX9_thread_81 ?_
      have hF : fThrd M n k 1 = (0, M.1 (tb (nn k)) 1) := by
        unfold fThrd
        rw [if_neg hc_10]
        simp only []
        rw [if_neg (by decide), if_pos trivial]
      rw [hF]
      exact ⟨rfl, rfl⟩
    · refine v_tableIn (off := 55) (tgt := 82) X dX9_thread_27 (by decide) (by decide) (by decide) (by decide) ?_
      refine v_aload_n (pc' := 83) (i := 3) (j := 0) X dX9_thread_82 rfl rfl rfl ?_
      refine fg_X9_69 (pc' := 86) X (by omega) (v := M.1 (tb (nn k)) 2) (congrFun (mI_n _ _ _ _ (by unfold tb; omega)) _) dX9_thread_83 rfl ?_
      refine v_ireturn X R (Nat.zero_le _) (Nat.zero_le _) dX9_thread_86 ?_
      have hF : fThrd M n k 2 = (0, M.1 (tb (nn k)) 2) := by
        unfold fThrd
        rw [if_neg hc_10]
        simp only []
        rw [if_neg (by decide), if_neg (by decide), if_pos trivial]
      rw [hF]
      exact ⟨rfl, rfl⟩
    · refine v_tableIn (off := 60) (tgt := 87) X dX9_thread_27 (by decide) (by decide) (by decide) (by decide) ?_
      refine v_aload_n (pc' := 88) (i := 3) (j := 0) X dX9_thread_87 rfl rfl rfl ?_
      refine fg_X9_124 (pc' := 91) X (by omega) (v := M.1 (tb (nn k)) 3) (congrFun (mI_n _ _ _ _ (by unfold tb; omega)) _) dX9_thread_88 rfl ?_
      refine v_ireturn X R (Nat.zero_le _) (Nat.zero_le _) dX9_thread_91 ?_
      have hF : fThrd M n k 3 = (0, M.1 (tb (nn k)) 3) := by
        unfold fThrd
        rw [if_neg hc_10]
        simp only []
        rw [if_neg (by decide), if_neg (by decide), if_neg (by decide), if_pos trivial]
      rw [hF]
      exact ⟨rfl, rfl⟩
    · refine v_tableIn (off := 65) (tgt := 92) X dX9_thread_27 (by decide) (by decide) (by decide) (by decide) ?_
      refine v_aload_n (pc' := 93) (i := 3) (j := 0) X dX9_thread_92 rfl rfl rfl ?_
      refine fg_X9_121 (pc' := 96) X (by omega) (v := M.1 (tb (nn k)) 4) (congrFun (mI_n _ _ _ _ (by unfold tb; omega)) _) dX9_thread_93 rfl ?_
      refine v_ireturn X R (Nat.zero_le _) (Nat.zero_le _) dX9_thread_96 ?_
      have hF : fThrd M n k 4 = (0, M.1 (tb (nn k)) 4) := by
        unfold fThrd
        rw [if_neg hc_10]
        simp only []
        rw [if_neg (by decide), if_neg (by decide), if_neg (by decide), if_neg (by decide), if_pos trivial]
      rw [hF]
      exact ⟨rfl, rfl⟩
    · refine v_tableIn (off := 70) (tgt := 97) X dX9_thread_27 (by decide) (by decide) (by decide) (by decide) ?_
      refine v_aload_n (pc' := 98) (i := 3) (j := 0) X dX9_thread_97 rfl rfl rfl ?_
      refine fg_X9_149 (pc' := 101) X (by omega) (v := M.1 (tb (nn k)) 5) (congrFun (mI_n _ _ _ _ (by unfold tb; omega)) _) dX9_thread_98 rfl ?_
      refine v_ireturn X R (Nat.zero_le _) (Nat.zero_le _) dX9_thread_101 ?_
      have hF : fThrd M n k 5 = (0, M.1 (tb (nn k)) 5) := by
        unfold fThrd
        rw [if_neg hc_10]
        simp only []
        rw [if_neg (by decide), if_neg (by decide), if_neg (by decide), if_neg (by decide), if_neg (by decide), if_pos trivial]
      rw [hF]
      exact ⟨rfl, rfl⟩
    · refine v_tableIn (off := 75) (tgt := 102) X dX9_thread_27 (by decide) (by decide) (by decide) (by decide) ?_
      refine v_aload_n (pc' := 103) (i := 3) (j := 0) X dX9_thread_102 rfl rfl rfl ?_
      refine fg_X9_172 (pc' := 106) X (by omega) (v := M.1 (tb (nn k)) 6) (congrFun (mI_n _ _ _ _ (by unfold tb; omega)) _) dX9_thread_103 rfl ?_
      refine v_ireturn X R (Nat.zero_le _) (Nat.zero_le _) dX9_thread_106 ?_
      have hF : fThrd M n k 6 = (0, M.1 (tb (nn k)) 6) := by
        unfold fThrd
        rw [if_neg hc_10]
        simp only []
        rw [if_neg (by decide), if_neg (by decide), if_neg (by decide), if_neg (by decide), if_neg (by decide), if_neg (by decide), if_pos trivial]
      rw [hF]
      exact ⟨rfl, rfl⟩
    · refine v_tableIn (off := 80) (tgt := 107) X dX9_thread_27 (by decide) (by decide) (by decide) (by decide) ?_
      refine v_aload_n (pc' := 108) (i := 3) (j := 0) X dX9_thread_107 rfl rfl rfl ?_
      refine v_callV (pc' := 111) X (st := []) (c_X8_atomic (M := (mI M 0 0 0)) (by omega) (e := e) ((congrFun (mI_n _ _ _ _ (by unfold tb; omega)) _).trans h4) he) k_X8_atomic w_ml_X9_87 w_im_X8_atomic w_se_X8_X8_atomic (rv_T (by omega)) (by rw [hR]; exact ⟨Nat.le_of_ble_eq_true rfl, Nat.le_of_ble_eq_true rfl⟩) rfl rfl (Nat.le_of_ble_eq_true rfl) dX9_thread_108 rfl (⟨Nat.zero_le _, Nat.zero_le _⟩) ?_
      rintro _ _ ⟨rfl, x9, rfl, hx9⟩
      rcases hx9 with ⟨k0, hk0, h0, hf0, rfl⟩ | ⟨hno, rfl⟩
      · have hin : fIn M (tb (nn k)) := ⟨k0, by rw [h4, nn_nI (by omega)]; exact hk0, (congrFun (mI_n _ _ _ _ (by unfold tb; omega)) _).symm.trans h0⟩
        refine v_if_ge (pc' := 114) (tgt := 118) X dX9_thread_111 (by decide) rfl (fun _ => ?_) (fun hc_111 => absurd (nI_pos' (by omega)) hc_111)
        refine v_aload_n (pc' := 119) (i := 3) (j := 0) X dX9_thread_118 rfl rfl rfl ?_
        refine fg_X9_155 (pc' := 122) X (by omega) (v := M.1 (tb (nn k)) 7) (congrFun (mI_n _ _ _ _ (by unfold tb; omega)) _) dX9_thread_119 rfl ?_
        refine v_ireturn X R (Nat.zero_le _) (Nat.zero_le _) dX9_thread_122 ?_
        have hF : fThrd M n k 7 = (0, M.1 (tb (nn k)) 7) := by
          unfold fThrd
          rw [if_neg hc_10]
          simp only []
          rw [if_neg (by decide), if_neg (by decide), if_neg (by decide), if_neg (by decide), if_neg (by decide), if_neg (by decide), if_neg (by decide), if_pos trivial]
          rw [if_pos hin]
        rw [hF]
        exact ⟨rfl, rfl⟩
      · have hnin : ¬ fIn M (tb (nn k)) := fun z9 => by obtain ⟨q9, y9, y8⟩ := z9; rw [h4, nn_nI (by omega)] at y9; exact hno q9 y9 ((congrFun (mI_n _ _ _ _ (by unfold tb; omega)) _).trans y8)
        refine v_if_ge (pc' := 114) (tgt := 118) X dX9_thread_111 (by decide) rfl (fun hc_111 => absurd hc_111 (by decide)) (fun _ => ?_)
        refine v_iconst (pc' := 115) (v := (-1)) X dX9_thread_114 (by decide) rfl ?_
        refine v_goto (pc' := 122) X dX9_thread_115 (by decide) ?_
        refine v_ireturn X R (Nat.zero_le _) (Nat.zero_le _) dX9_thread_122 ?_
        have hF : fThrd M n k 7 = (0, (-1)) := by
          unfold fThrd
          rw [if_neg hc_10]
          simp only []
          rw [if_neg (by decide), if_neg (by decide), if_neg (by decide), if_neg (by decide), if_neg (by decide), if_neg (by decide), if_neg (by decide), if_pos trivial]
          rw [if_neg hnin]
        rw [hF]
        exact ⟨rfl, rfl⟩
    · refine v_tableOut (tgt := 123) X dX9_thread_27 hsw (by decide) ?_
      refine v_aload_n (pc' := 124) (i := 0) (j := 1) X dX9_thread_123 rfl rfl rfl ?_
      refine v_iconst (pc' := 125) (v := 2) X dX9_thread_124 (by decide) rfl ?_
      refine v_callV (pc' := 128) X (st := []) (c_X9_fail (M := (mI M 0 0 0))) k_X9_fail w_ml_X9_243 w_im_X9_fail w_se_X9_X9_fail (rv_M) (by rw [hR]; exact ⟨Nat.le_of_ble_eq_true rfl, Nat.le_of_ble_eq_true rfl⟩) rfl rfl (Nat.le_of_ble_eq_true rfl) dX9_thread_125 rfl (⟨Nat.zero_le _, Nat.zero_le _⟩) ?_
      rintro _ _ ⟨rfl, rfl⟩
      refine v_ireturn X R (Nat.zero_le _) (Nat.zero_le _) dX9_thread_128 ?_
      have hF : fThrd M n k what = (2, 0) := by
        unfold fThrd
        rw [if_neg hc_10]
        simp only []
        rw [if_neg (sw_out (k := 0) hsw (by decide) (by decide)), if_neg (sw_out (k := 1) hsw (by decide) (by decide)), if_neg (sw_out (k := 2) hsw (by decide) (by decide)), if_neg (sw_out (k := 3) hsw (by decide) (by decide)), if_neg (sw_out (k := 4) hsw (by decide) (by decide)), if_neg (sw_out (k := 5) hsw (by decide) (by decide)), if_neg (sw_out (k := 6) hsw (by decide) (by decide)), if_neg (sw_out (k := 7) hsw (by decide) (by decide))]
      rw [hF]
      exact ⟨rfl, by rw [mI_mI]⟩
  -- not taken 10
  · refine v_aload_n (pc' := 14) (i := 0) (j := 0) X dX9_thread_13 rfl rfl rfl ?_
    refine v_iconst (pc' := 15) (v := 1) X dX9_thread_14 (by decide) rfl ?_
    refine v_callV (pc' := 18) X (st := []) (c_X9_fail (M := (mI M 0 0 0))) k_X9_fail w_ml_X9_243 w_im_X9_fail w_se_X9_X9_fail (rv_M) (by rw [hR]; exact ⟨Nat.le_of_ble_eq_true rfl, Nat.le_of_ble_eq_true rfl⟩) rfl rfl (Nat.le_of_ble_eq_true rfl) dX9_thread_15 rfl (⟨Nat.zero_le _, Nat.zero_le _⟩) ?_
    rintro _ _ ⟨rfl, rfl⟩
    refine v_ireturn X R (Nat.zero_le _) (Nat.zero_le _) dX9_thread_18 ?_
    have hF : fThrd M n k what = (1, 0) := by unfold fThrd; exact if_pos hc_10
    rw [hF]
    exact ⟨rfl, by rw [mI_mI]⟩
set_option maxHeartbeats 4000000 in
set_option maxRecDepth 100000 in
theorem c_X9_register {l : Launch} {D : va_G} {Y : Nat → ClassId} {zz : Nat → Nat} {n sz us pd : Nat} {ad : Nat → Nat} {M : vM} (hg : gI M n sz us pd) {k x : Int32} : Ct l D Y zz yX9_register cX9_register 3 (some FieldType.long) 1 21 [.ref (ad (0)), .int k, .int x] (wM Y n ad M) 0 0 (fun r w => r = some (.long (fReg M n k x).2) ∧ w = wM Y n ad (mI M 0 0 (fReg M n k x).1)) := by
  refine v_entry (by decide +kernel) (Nat.le_of_ble_eq_true rfl) ?_
  intro K X R hR hnm hl hD hY hz
  subst hl hD hY hz
  refine v_sub (lv' := [(0, .ref (ad (0))), (1, .int k), (2, .int x)]) [0, 1, 2] rfl ?_
  obtain ⟨hsz, hsz2, hn2, hn1, hn16, hus, hus2, hpd, hpd2, h17, hfs, hvi, hgl⟩ := id hg
  refine v_aload_n (pc' := 1) (i := 0) (j := 0) X dX9_register_0 rfl rfl rfl ?_
  refine v_iconst (pc' := 2) (v := 0) X dX9_register_1 (by decide) rfl ?_
  refine fp_X9_59 (pc' := 5) X dX9_register_2 rfl ?_
  refine v_aload_n (pc' := 6) (i := 0) (j := 0) X dX9_register_5 rfl rfl rfl ?_
  refine v_iload_n (pc' := 7) (i := 1) (j := 1) X dX9_register_6 rfl rfl rfl ?_
  refine v_callV (pc' := 10) X (st := []) (c_X9_noTask (ad := ad) (M := (mI M 0 0 0)) (k := k) ((mI_o _ _ _ _ (by decide)).trans hn2)) k_X9_noTask w_ml_X9_247 w_im_X9_noTask w_se_X9_X9_noTask (rv_M) (by rw [hR]; exact ⟨Nat.le_of_ble_eq_true rfl, Nat.le_of_ble_eq_true rfl⟩) rfl rfl (Nat.le_of_ble_eq_true rfl) dX9_register_7 rfl (⟨Nat.zero_le _, Nat.zero_le _⟩) ?_
  rintro _ _ ⟨rfl, rfl⟩
  refine v_ifB_ne (pc' := 13) (tgt := 20) X dX9_register_10 (by decide) rfl (fun hc_10 => ?_) (fun hc_10 => ?_)
  -- taken 10
  · refine v_aload_n (pc' := 21) (i := 0) (j := 0) X dX9_register_20 rfl rfl rfl ?_
    refine v_iconst (pc' := 22) (v := 1) X dX9_register_21 (by decide) rfl ?_
    refine v_callV (pc' := 25) X (st := []) (c_X9_fail (M := (mI M 0 0 0))) k_X9_fail w_ml_X9_243 w_im_X9_fail w_se_X9_X9_fail (rv_M) (by rw [hR]; exact ⟨Nat.le_of_ble_eq_true rfl, Nat.le_of_ble_eq_true rfl⟩) rfl rfl (Nat.le_of_ble_eq_true rfl) dX9_register_22 rfl (⟨Nat.zero_le _, Nat.zero_le _⟩) ?_
    rintro _ _ ⟨rfl, rfl⟩
    refine v_i2l (pc' := 26) X dX9_register_25 rfl rfl ?_
    refine v_lreturn X R (Nat.zero_le _) (Nat.zero_le _) dX9_register_26 ?_
    have hF : fReg M n k x = (1, 0) := by unfold fReg; exact if_pos (Or.inl hc_10)
    rw [hF]
    exact ⟨rfl, by rw [mI_mI]⟩
  -- not taken 10
  · refine v_iload_n (pc' := 14) (i := 2) (j := 2) X dX9_register_13 rfl rfl rfl ?_
    refine v_callS (pc' := 17) X (st := []) (c_X9_noRegister (n := n) (ad := ad) (M := (mI M 0 0 0)) (k := x)) k_X9_noRegister w_ml_X9_101 w_st_X9_noRegister (by rw [hR]; exact ⟨Nat.le_of_ble_eq_true rfl, Nat.le_of_ble_eq_true rfl⟩) rfl rfl (Nat.le_of_ble_eq_true rfl) dX9_register_14 rfl (⟨Nat.zero_le _, Nat.zero_le _⟩) ?_
    rintro _ _ ⟨rfl, rfl⟩
    refine v_ifB_eq (pc' := 20) (tgt := 27) X dX9_register_17 (by decide) rfl (fun hc_17 => ?_) (fun hc_17 => ?_)
    -- taken 17
    · obtain ⟨hx1, hx2⟩ := nrg_not hc_17
      obtain ⟨hk1, hk2⟩ := ix_of (by omega) (fun z9 => hc_10 (Or.inl z9)) (fun z9 => hc_10 (Or.inr z9))
      refine v_aload_n (pc' := 28) (i := 0) (j := 0) X dX9_register_27 rfl rfl rfl ?_
      refine fg_X9_28 (pc' := 31) X dX9_register_28 rfl ?_
      refine v_iload_n (pc' := 32) (i := 1) (j := 1) X dX9_register_31 rfl rfl rfl ?_
      refine ag_M13 (pc' := 33) X (nn k) hk1 (by omega) (by omega) dX9_register_32 rfl ?_
      refine fg_X9_105 (pc' := 36) X (by omega) dX9_register_33 rfl ?_
      refine v_iload_n (pc' := 37) (i := 2) (j := 2) X dX9_register_36 rfl rfl rfl ?_
      refine ag_T8 (pc' := 38) X (by omega) (v := M.2 (tb (nn k) + 8) (nn x)) (nn x) hx1 (by omega) (congrFun (congrFun (mI_2 _ _ _ _) _) _) dX9_register_37 rfl ?_
      refine v_lreturn X R (Nat.zero_le _) (Nat.zero_le _) dX9_register_38 ?_
      have hF : fReg M n k x = (0, M.2 (tb (nn k) + 8) (nn x)) := by unfold fReg; exact if_neg (fun z9 => z9.elim hc_10 hc_17)
      rw [hF]
      exact ⟨rfl, rfl⟩
    -- not taken 17
    · refine v_aload_n (pc' := 21) (i := 0) (j := 0) X dX9_register_20 rfl rfl rfl ?_
      refine v_iconst (pc' := 22) (v := 1) X dX9_register_21 (by decide) rfl ?_
      refine v_callV (pc' := 25) X (st := []) (c_X9_fail (M := (mI M 0 0 0))) k_X9_fail w_ml_X9_243 w_im_X9_fail w_se_X9_X9_fail (rv_M) (by rw [hR]; exact ⟨Nat.le_of_ble_eq_true rfl, Nat.le_of_ble_eq_true rfl⟩) rfl rfl (Nat.le_of_ble_eq_true rfl) dX9_register_22 rfl (⟨Nat.zero_le _, Nat.zero_le _⟩) ?_
      rintro _ _ ⟨rfl, rfl⟩
      refine v_i2l (pc' := 26) X dX9_register_25 rfl rfl ?_
      refine v_lreturn X R (Nat.zero_le _) (Nat.zero_le _) dX9_register_26 ?_
      have hF : fReg M n k x = (1, 0) := by unfold fReg; exact if_pos (Or.inr hc_17)
      rw [hF]
      exact ⟨rfl, by rw [mI_mI]⟩
set_option maxHeartbeats 4000000 in
set_option maxRecDepth 100000 in
theorem c_X9_global {l : Launch} {D : va_G} {Y : Nat → ClassId} {zz : Nat → Nat} {n : Nat} {ad : Nat → Nat} {M : vM} {k : Int32} : Ct l D Y zz yX9_global cX9_global 2 (some FieldType.long) 1 21 [.ref (ad (0)), .int k] (wM Y n ad M) 0 0 (fun r w => r = some (.long (fGlob M k).2) ∧ w = wM Y n ad (mI M 0 0 (fGlob M k).1)) := by
  refine v_entry (by decide +kernel) (Nat.le_of_ble_eq_true rfl) ?_
  intro K X R hR hnm hl hD hY hz
  subst hl hD hY hz
  refine v_sub (lv' := [(0, .ref (ad (0))), (1, .int k)]) [0, 1] rfl ?_
  refine v_aload_n (pc' := 1) (i := 0) (j := 0) X dX9_global_0 rfl rfl rfl ?_
  refine v_iconst (pc' := 2) (v := 0) X dX9_global_1 (by decide) rfl ?_
  refine fp_X9_59 (pc' := 5) X dX9_global_2 rfl ?_
  refine v_iload_n (pc' := 6) (i := 1) (j := 1) X dX9_global_5 rfl rfl rfl ?_
  refine v_callS (pc' := 9) X (st := []) (c_X9_noGlobal (n := n) (ad := ad) (M := (mI M 0 0 0)) (k := k)) k_X9_noGlobal w_ml_X9_118 w_st_X9_noGlobal (by rw [hR]; exact ⟨Nat.le_of_ble_eq_true rfl, Nat.le_of_ble_eq_true rfl⟩) rfl rfl (Nat.le_of_ble_eq_true rfl) dX9_global_6 rfl (⟨Nat.zero_le _, Nat.zero_le _⟩) ?_
  rintro _ _ ⟨rfl, rfl⟩
  refine v_ifB_eq (pc' := 12) (tgt := 21) X dX9_global_9 (by decide) rfl (fun hc_9 => ?_) (fun hc_9 => ?_)
  -- taken 9
  · obtain ⟨hk1, hk2⟩ := ngl_not hc_9
    refine v_aload_n (pc' := 22) (i := 0) (j := 0) X dX9_global_21 rfl rfl rfl ?_
    refine fg_X9_32 (pc' := 25) X dX9_global_22 rfl ?_
    refine v_iload_n (pc' := 26) (i := 1) (j := 1) X dX9_global_25 rfl rfl rfl ?_
    refine ag_M14 (pc' := 27) X (v := M.2 14 (nn k)) (nn k) hk1 (by omega) (congrFun (congrFun (mI_2 _ _ _ _) _) _) dX9_global_26 rfl ?_
    refine v_lreturn X R (Nat.zero_le _) (Nat.zero_le _) dX9_global_27 ?_
    have hF : fGlob M k = (0, M.2 14 (nn k)) := by unfold fGlob; exact if_neg hc_9
    rw [hF]
    exact ⟨rfl, rfl⟩
  -- not taken 9
  · refine v_aload_n (pc' := 13) (i := 0) (j := 0) X dX9_global_12 rfl rfl rfl ?_
    refine v_iconst (pc' := 14) (v := 1) X dX9_global_13 (by decide) rfl ?_
    refine v_callV (pc' := 17) X (st := []) (c_X9_fail (M := (mI M 0 0 0))) k_X9_fail w_ml_X9_243 w_im_X9_fail w_se_X9_X9_fail (rv_M) (by rw [hR]; exact ⟨Nat.le_of_ble_eq_true rfl, Nat.le_of_ble_eq_true rfl⟩) rfl rfl (Nat.le_of_ble_eq_true rfl) dX9_global_14 rfl (⟨Nat.zero_le _, Nat.zero_le _⟩) ?_
    rintro _ _ ⟨rfl, rfl⟩
    refine v_i2l (pc' := 18) X dX9_global_17 rfl rfl ?_
    refine v_goto (pc' := 27) X dX9_global_18 (by decide) ?_
    refine v_lreturn X R (Nat.zero_le _) (Nat.zero_le _) dX9_global_27 ?_
    have hF : fGlob M k = (1, 0) := by unfold fGlob; exact if_pos hc_9
    rw [hF]
    exact ⟨rfl, by rw [mI_mI]⟩
set_option maxHeartbeats 4000000 in
set_option maxRecDepth 100000 in
theorem c_X9_place_ {l : Launch} {D : va_G} {Y : Nat → ClassId} {zz : Nat → Nat} {n sz us pd : Nat} {ad : Nat → Nat} {M : vM} (hg : gI M n sz us pd) {p what : Int32} : Ct l D Y zz yX9_place_ cX9_place_ 3 (some FieldType.long) 1 21 [.ref (ad (0)), .int p, .int what] (wM Y n ad M) 0 0 (fun r w => r = some (.long (fPlace M p what).2) ∧ w = wM Y n ad (mI M 0 0 (fPlace M p what).1)) := by
  refine v_entry (by decide +kernel) (Nat.le_of_ble_eq_true rfl) ?_
  intro K X R hR hnm hl hD hY hz
  subst hl hD hY hz
  refine v_sub (lv' := [(0, .ref (ad (0))), (1, .int p), (2, .int what)]) [0, 1, 2] rfl ?_
  obtain ⟨hsz, hsz2, hn2, hn1, hn16, hus, hus2, hpd, hpd2, h17, hfs, hvi, hgl⟩ := id hg
  refine v_aload_n (pc' := 1) (i := 0) (j := 0) X dX9_place__0 rfl rfl rfl ?_
  refine v_iconst (pc' := 2) (v := 0) X dX9_place__1 (by decide) rfl ?_
  refine fp_X9_59 (pc' := 5) X dX9_place__2 rfl ?_
  refine v_iload_n (pc' := 6) (i := 1) (j := 1) X dX9_place__5 rfl rfl rfl ?_
  refine v_if_lt (pc' := 9) (tgt := 17) X dX9_place__6 (by decide) rfl (fun hc_6 => ?_) (fun hc_6 => ?_)
  -- taken 6
  · refine v_aload_n (pc' := 18) (i := 0) (j := 0) X dX9_place__17 rfl rfl rfl ?_
    refine v_iconst (pc' := 19) (v := 1) X dX9_place__18 (by decide) rfl ?_
    refine v_callV (pc' := 22) X (st := []) (c_X9_fail (M := (mI M 0 0 0))) k_X9_fail w_ml_X9_243 w_im_X9_fail w_se_X9_X9_fail (rv_M) (by rw [hR]; exact ⟨Nat.le_of_ble_eq_true rfl, Nat.le_of_ble_eq_true rfl⟩) rfl rfl (Nat.le_of_ble_eq_true rfl) dX9_place__19 rfl (⟨Nat.zero_le _, Nat.zero_le _⟩) ?_
    rintro _ _ ⟨rfl, rfl⟩
    refine v_i2l (pc' := 23) X dX9_place__22 rfl rfl ?_
    refine v_lreturn X R (Nat.zero_le _) (Nat.zero_le _) dX9_place__23 ?_
    have hF : fPlace M p what = (1, 0) := by unfold fPlace; rw [hus]; exact if_pos (Or.inl hc_6)
    rw [hF]
    exact ⟨rfl, by rw [mI_mI]⟩
  -- not taken 6
  · refine v_iload_n (pc' := 10) (i := 1) (j := 1) X dX9_place__9 rfl rfl rfl ?_
    refine v_aload_n (pc' := 11) (i := 0) (j := 0) X dX9_place__10 rfl rfl rfl ?_
    refine fg_X9_143 (pc' := 14) X (v := nI us) ((mI_o _ _ _ _ (by decide)).trans hus) dX9_place__11 rfl ?_
    refine v_icmp_lt (pc' := 17) (tgt := 24) X dX9_place__14 (by decide) rfl (fun hc_14 => ?_) (fun hc_14 => ?_)
    -- taken 14
    · obtain ⟨hk1, hk2⟩ := ix_of (n := us) (by omega) hc_6 (Int32.not_le.mpr hc_14)
      refine v_iload_n (pc' := 25) (i := 2) (j := 2) X dX9_place__24 rfl rfl rfl ?_
      rcases sw_0_2 what with rfl | rfl | rfl | hsw
      · refine v_tableIn (off := 27) (tgt := 52) X dX9_place__25 (by decide) (by decide) (by decide) (by decide) ?_
        refine v_aload_n (pc' := 53) (i := 0) (j := 0) X dX9_place__52 rfl rfl rfl ?_
        refine fg_X9_42 (pc' := 56) X dX9_place__53 rfl ?_
        refine v_iload_n (pc' := 57) (i := 1) (j := 1) X dX9_place__56 rfl rfl rfl ?_
        refine ag_M17 (pc' := 58) X (v := M.1 17 (nn p)) (nn p) hk1 (by omega) (congrFun (mI_n _ _ _ _ (by decide)) _) dX9_place__57 rfl ?_
        refine v_if_eq (pc' := 61) (tgt := 65) X dX9_place__58 (by decide) rfl (fun hc_58 => ?_) (fun hc_58 => ?_)
        -- taken 58
        · refine v_ldc2 (pc' := 68) (v := 2) X dX9_place__65 w_kl_X9_141 rfl ?_
          refine v_lreturn X R (Nat.zero_le _) (Nat.zero_le _) dX9_place__68 ?_
          have hF : fPlace M p 0 = (0, 2) := by
            unfold fPlace
            rw [hus, if_neg (fun z9 => z9.elim hc_6 (Int32.not_le.mpr hc_14))]
            rw [if_pos rfl]
            rw [if_pos hc_58]
          rw [hF]
          exact ⟨rfl, rfl⟩
        -- not taken 58
        · refine v_lconst (pc' := 62) (v := 1) X dX9_place__61 (by decide) rfl ?_
          refine v_goto (pc' := 68) X dX9_place__62 (by decide) ?_
          refine v_lreturn X R (Nat.zero_le _) (Nat.zero_le _) dX9_place__68 ?_
          have hF : fPlace M p 0 = (0, 1) := by
            unfold fPlace
            rw [hus, if_neg (fun z9 => z9.elim hc_6 (Int32.not_le.mpr hc_14))]
            rw [if_pos rfl]
            rw [if_neg hc_58]
          rw [hF]
          exact ⟨rfl, rfl⟩
      · refine v_tableIn (off := 44) (tgt := 69) X dX9_place__25 (by decide) (by decide) (by decide) (by decide) ?_
        refine v_aload_n (pc' := 70) (i := 0) (j := 0) X dX9_place__69 rfl rfl rfl ?_
        refine fg_X9_36 (pc' := 73) X dX9_place__70 rfl ?_
        refine v_iload_n (pc' := 74) (i := 1) (j := 1) X dX9_place__73 rfl rfl rfl ?_
        refine ag_M15 (pc' := 75) X (v := M.2 15 (nn p)) (nn p) hk1 (by omega) (congrFun (congrFun (mI_2 _ _ _ _) _) _) dX9_place__74 rfl ?_
        refine v_lreturn X R (Nat.zero_le _) (Nat.zero_le _) dX9_place__75 ?_
        have hF : fPlace M p 1 = (0, M.2 15 (nn p)) := by
          unfold fPlace
          rw [hus, if_neg (fun z9 => z9.elim hc_6 (Int32.not_le.mpr hc_14))]
          rw [if_neg (by decide), if_pos rfl]
        rw [hF]
        exact ⟨rfl, rfl⟩
      · refine v_tableIn (off := 51) (tgt := 76) X dX9_place__25 (by decide) (by decide) (by decide) (by decide) ?_
        refine v_aload_n (pc' := 77) (i := 0) (j := 0) X dX9_place__76 rfl rfl rfl ?_
        refine fg_X9_42 (pc' := 80) X dX9_place__77 rfl ?_
        refine v_iload_n (pc' := 81) (i := 1) (j := 1) X dX9_place__80 rfl rfl rfl ?_
        refine ag_M17 (pc' := 82) X (v := M.1 17 (nn p)) (nn p) hk1 (by omega) (congrFun (mI_n _ _ _ _ (by decide)) _) dX9_place__81 rfl ?_
        refine v_if_eq (pc' := 85) (tgt := 94) X dX9_place__82 (by decide) rfl (fun hc_82 => ?_) (fun hc_82 => ?_)
        -- taken 82
        · refine v_aload_n (pc' := 95) (i := 0) (j := 0) X dX9_place__94 rfl rfl rfl ?_
          refine fg_X9_49 (pc' := 98) X dX9_place__95 rfl ?_
          refine v_iload_n (pc' := 99) (i := 1) (j := 1) X dX9_place__98 rfl rfl rfl ?_
          refine ag_M19 (pc' := 100) X (v := M.1 19 (nn p)) (nn p) hk1 (by omega) (congrFun (mI_n _ _ _ _ (by decide)) _) dX9_place__99 rfl ?_
          refine v_i2l (pc' := 101) X dX9_place__100 rfl rfl ?_
          refine v_lreturn X R (Nat.zero_le _) (Nat.zero_le _) dX9_place__101 ?_
          have hF : fPlace M p 2 = (0, (M.1 19 (nn p)).toInt64) := by
            unfold fPlace
            rw [hus, if_neg (fun z9 => z9.elim hc_6 (Int32.not_le.mpr hc_14))]
            rw [if_neg (by decide), if_neg (by decide), if_pos rfl]
            rw [if_pos hc_82]
          rw [hF]
          exact ⟨rfl, rfl⟩
        -- not taken 82
        · refine v_aload_n (pc' := 86) (i := 0) (j := 0) X dX9_place__85 rfl rfl rfl ?_
          refine fg_X9_39 (pc' := 89) X dX9_place__86 rfl ?_
          refine v_iload_n (pc' := 90) (i := 1) (j := 1) X dX9_place__89 rfl rfl rfl ?_
          refine ag_M16 (pc' := 91) X (v := M.2 16 (nn p)) (nn p) hk1 (by omega) (congrFun (congrFun (mI_2 _ _ _ _) _) _) dX9_place__90 rfl ?_
          refine v_goto (pc' := 101) X dX9_place__91 (by decide) ?_
          refine v_lreturn X R (Nat.zero_le _) (Nat.zero_le _) dX9_place__101 ?_
          have hF : fPlace M p 2 = (0, M.2 16 (nn p)) := by
            unfold fPlace
            rw [hus, if_neg (fun z9 => z9.elim hc_6 (Int32.not_le.mpr hc_14))]
            rw [if_neg (by decide), if_neg (by decide), if_pos rfl]
            rw [if_neg hc_82]
          rw [hF]
          exact ⟨rfl, rfl⟩
      · refine v_tableOut (tgt := 102) X dX9_place__25 hsw (by decide) ?_
        refine v_aload_n (pc' := 103) (i := 0) (j := 0) X dX9_place__102 rfl rfl rfl ?_
        refine v_iconst (pc' := 104) (v := 2) X dX9_place__103 (by decide) rfl ?_
        refine v_callV (pc' := 107) X (st := []) (c_X9_fail (M := (mI M 0 0 0))) k_X9_fail w_ml_X9_243 w_im_X9_fail w_se_X9_X9_fail (rv_M) (by rw [hR]; exact ⟨Nat.le_of_ble_eq_true rfl, Nat.le_of_ble_eq_true rfl⟩) rfl rfl (Nat.le_of_ble_eq_true rfl) dX9_place__104 rfl (⟨Nat.zero_le _, Nat.zero_le _⟩) ?_
        rintro _ _ ⟨rfl, rfl⟩
        refine v_i2l (pc' := 108) X dX9_place__107 rfl rfl ?_
        refine v_lreturn X R (Nat.zero_le _) (Nat.zero_le _) dX9_place__108 ?_
        have hF : fPlace M p what = (2, 0) := by
          unfold fPlace
          rw [hus, if_neg (fun z9 => z9.elim hc_6 (Int32.not_le.mpr hc_14))]
          rw [if_neg (sw_out (k := 0) hsw (by decide) (by decide)), if_neg (sw_out (k := 1) hsw (by decide) (by decide)), if_neg (sw_out (k := 2) hsw (by decide) (by decide))]
        rw [hF]
        exact ⟨rfl, by rw [mI_mI]⟩
    -- not taken 14
    · refine v_aload_n (pc' := 18) (i := 0) (j := 0) X dX9_place__17 rfl rfl rfl ?_
      refine v_iconst (pc' := 19) (v := 1) X dX9_place__18 (by decide) rfl ?_
      refine v_callV (pc' := 22) X (st := []) (c_X9_fail (M := (mI M 0 0 0))) k_X9_fail w_ml_X9_243 w_im_X9_fail w_se_X9_X9_fail (rv_M) (by rw [hR]; exact ⟨Nat.le_of_ble_eq_true rfl, Nat.le_of_ble_eq_true rfl⟩) rfl rfl (Nat.le_of_ble_eq_true rfl) dX9_place__19 rfl (⟨Nat.zero_le _, Nat.zero_le _⟩) ?_
      rintro _ _ ⟨rfl, rfl⟩
      refine v_i2l (pc' := 23) X dX9_place__22 rfl rfl ?_
      refine v_lreturn X R (Nat.zero_le _) (Nat.zero_le _) dX9_place__23 ?_
      have hF : fPlace M p what = (1, 0) := by unfold fPlace; rw [hus]; exact if_pos (Or.inr (Int32.not_lt.mp hc_14))
      rw [hF]
      exact ⟨rfl, by rw [mI_mI]⟩
set_option maxHeartbeats 4000000 in
set_option maxRecDepth 100000 in
theorem c_X9_output {l : Launch} {D : va_G} {Y : Nat → ClassId} {zz : Nat → Nat} {n sz us pd : Nat} {ad : Nat → Nat} {M : vM} (hg : gI M n sz us pd) {k : Int32} : Ct l D Y zz yX9_output cX9_output 2 (some FieldType.int) 1 21 [.ref (ad (0)), .int k] (wM Y n ad M) 0 0 (fun r w => r = some (.int (fOutp M k).2) ∧ w = wM Y n ad (mI M 0 0 (fOutp M k).1)) := by
  refine v_entry (by decide +kernel) (Nat.le_of_ble_eq_true rfl) ?_
  intro K X R hR hnm hl hD hY hz
  subst hl hD hY hz
  refine v_sub (lv' := [(0, .ref (ad (0))), (1, .int k)]) [0, 1] rfl ?_
  obtain ⟨hsz, hsz2, hn2, hn1, hn16, hus, hus2, hpd, hpd2, h17, hfs, hvi, hgl⟩ := id hg
  refine v_aload_n (pc' := 1) (i := 0) (j := 0) X dX9_output_0 rfl rfl rfl ?_
  refine v_iconst (pc' := 2) (v := 0) X dX9_output_1 (by decide) rfl ?_
  refine fp_X9_59 (pc' := 5) X dX9_output_2 rfl ?_
  refine v_iload_n (pc' := 6) (i := 1) (j := 1) X dX9_output_5 rfl rfl rfl ?_
  refine v_if_lt (pc' := 9) (tgt := 17) X dX9_output_6 (by decide) rfl (fun hc_6 => ?_) (fun hc_6 => ?_)
  -- taken 6
  · refine v_aload_n (pc' := 18) (i := 0) (j := 0) X dX9_output_17 rfl rfl rfl ?_
    refine v_iconst (pc' := 19) (v := 1) X dX9_output_18 (by decide) rfl ?_
    refine v_callV (pc' := 22) X (st := []) (c_X9_fail (M := (mI M 0 0 0))) k_X9_fail w_ml_X9_243 w_im_X9_fail w_se_X9_X9_fail (rv_M) (by rw [hR]; exact ⟨Nat.le_of_ble_eq_true rfl, Nat.le_of_ble_eq_true rfl⟩) rfl rfl (Nat.le_of_ble_eq_true rfl) dX9_output_19 rfl (⟨Nat.zero_le _, Nat.zero_le _⟩) ?_
    rintro _ _ ⟨rfl, rfl⟩
    refine v_goto (pc' := 31) X dX9_output_22 (by decide) ?_
    refine v_ireturn X R (Nat.zero_le _) (Nat.zero_le _) dX9_output_31 ?_
    have hF : fOutp M k = (1, 0) := by unfold fOutp; rw [hpd]; exact if_pos (Or.inl hc_6)
    rw [hF]
    exact ⟨rfl, by rw [mI_mI]⟩
  -- not taken 6
  · refine v_iload_n (pc' := 10) (i := 1) (j := 1) X dX9_output_9 rfl rfl rfl ?_
    refine v_aload_n (pc' := 11) (i := 0) (j := 0) X dX9_output_10 rfl rfl rfl ?_
    refine fg_X9_216 (pc' := 14) X (v := nI pd) ((mI_o _ _ _ _ (by decide)).trans hpd) dX9_output_11 rfl ?_
    refine v_icmp_lt (pc' := 17) (tgt := 25) X dX9_output_14 (by decide) rfl (fun hc_14 => ?_) (fun hc_14 => ?_)
    -- taken 14
    · obtain ⟨hk1, hk2⟩ := ix_of (n := pd) (by omega) hc_6 (Int32.not_le.mpr hc_14)
      refine v_aload_n (pc' := 26) (i := 0) (j := 0) X dX9_output_25 rfl rfl rfl ?_
      refine fg_X9_55 (pc' := 29) X dX9_output_26 rfl ?_
      refine v_iload_n (pc' := 30) (i := 1) (j := 1) X dX9_output_29 rfl rfl rfl ?_
      refine ag_M21 (pc' := 31) X (v := M.1 21 (nn k)) (nn k) hk1 (by omega) (congrFun (mI_n _ _ _ _ (by decide)) _) dX9_output_30 rfl ?_
      refine v_ireturn X R (Nat.zero_le _) (Nat.zero_le _) dX9_output_31 ?_
      have hF : fOutp M k = (0, M.1 21 (nn k)) := by unfold fOutp; rw [hpd]; exact if_neg (fun z9 => z9.elim hc_6 (Int32.not_le.mpr hc_14))
      rw [hF]
      exact ⟨rfl, rfl⟩
    -- not taken 14
    · refine v_aload_n (pc' := 18) (i := 0) (j := 0) X dX9_output_17 rfl rfl rfl ?_
      refine v_iconst (pc' := 19) (v := 1) X dX9_output_18 (by decide) rfl ?_
      refine v_callV (pc' := 22) X (st := []) (c_X9_fail (M := (mI M 0 0 0))) k_X9_fail w_ml_X9_243 w_im_X9_fail w_se_X9_X9_fail (rv_M) (by rw [hR]; exact ⟨Nat.le_of_ble_eq_true rfl, Nat.le_of_ble_eq_true rfl⟩) rfl rfl (Nat.le_of_ble_eq_true rfl) dX9_output_19 rfl (⟨Nat.zero_le _, Nat.zero_le _⟩) ?_
      rintro _ _ ⟨rfl, rfl⟩
      refine v_goto (pc' := 31) X dX9_output_22 (by decide) ?_
      refine v_ireturn X R (Nat.zero_le _) (Nat.zero_le _) dX9_output_31 ?_
      have hF : fOutp M k = (1, 0) := by unfold fOutp; rw [hpd]; exact if_pos (Or.inr (Int32.not_lt.mp hc_14))
      rw [hF]
      exact ⟨rfl, by rw [mI_mI]⟩
set_option maxHeartbeats 4000000 in
set_option maxRecDepth 100000 in
theorem c_X9_count {l : Launch} {D : va_G} {Y : Nat → ClassId} {zz : Nat → Nat} {n sz us pd : Nat} {ad : Nat → Nat} {M : vM} (hg : gI M n sz us pd) {what : Int32} : Ct l D Y zz yX9_count cX9_count 5 (some FieldType.int) 0 0 [.ref (ad (0)), .int what] (wM Y n ad M) 0 0 (fun r w => r = some (.int (fCount M n what)) ∧ w = wM Y n ad (mI M 0 0 0)) := by
  refine v_entry (by decide +kernel) (Nat.le_of_ble_eq_true rfl) ?_
  intro K X R hR hnm hl hD hY hz
  subst hl hD hY hz
  refine v_sub (lv' := [(0, .ref (ad (0))), (1, .int what)]) [0, 1] rfl ?_
  obtain ⟨hsz, hsz2, hn2, hn1, hn16, hus, hus2, hpd, hpd2, h17, hfs, hvi, hgl⟩ := id hg
  refine v_aload_n (pc' := 1) (i := 0) (j := 0) X dX9_count_0 rfl rfl rfl ?_
  refine v_iconst (pc' := 2) (v := 0) X dX9_count_1 (by decide) rfl ?_
  refine fp_X9_59 (pc' := 5) X dX9_count_2 rfl ?_
  refine v_iconst (pc' := 6) (v := 0) X dX9_count_5 (by decide) rfl ?_
  refine v_istore_n (pc' := 7) (i := 2) (lv' := [(2, .int 0), (0, .ref (ad (0))), (1, .int what)]) X dX9_count_6 rfl (by decide) rfl rfl ?_
  refine v_iconst (pc' := 8) (v := 0) X dX9_count_7 (by decide) rfl ?_
  refine v_istore_n (pc' := 9) (i := 3) (lv' := [(3, .int 0), (2, .int 0), (0, .ref (ad (0))), (1, .int what)]) X dX9_count_8 rfl (by decide) rfl rfl ?_
  refine v_iconst (pc' := 10) (v := 0) X dX9_count_9 (by decide) rfl ?_
  refine v_istore (pc' := 12) (lv' := [(4, .int 0), (3, .int 0), (2, .int 0), (0, .ref (ad (0))), (1, .int what)]) X dX9_count_10 (by decide) rfl rfl ?_
  have hloop : ∀ (dd_hloop : Nat) (j : Nat) (c2 : Nat) (c3 : Nat), n - j < dd_hloop → (j ≤ n) → (c2 ≤ j) → (c3 ≤ j) → (c2 = 0 ↔ ∀ q, q < j → M.1 (tb q) 0 ≠ 1) → (0 < c3 ↔ ∃ q, q < j ∧ M.1 (tb q) 0 = 2) → V K 5 (wM (kY K) n ad (mI M 0 0 0)) 0 0 12 [(4, .int (nI j)), (3, .int (nI c3)), (2, .int (nI c2)), (1, .int what), (0, .ref (ad (0)))] [] := by
    intro dd_hloop
    induction dd_hloop with
    | zero => intro j c2 c3 hlt_hloop; exact absurd hlt_hloop (Nat.not_lt_zero _)
    | succ dd_hloop ih_hloop =>
      intro j c2 c3 hlt_hloop hj hc2 hc3 hz2 hz3
      refine v_iload (pc' := 14) (j := 0) X dX9_count_12 rfl rfl ?_
      refine v_aload_n (pc' := 15) (i := 0) (j := 4) X dX9_count_14 rfl rfl rfl ?_
      refine fg_X9_7 (pc' := 18) X (v := nI n) ((mI_o _ _ _ _ (by decide)).trans hn2) dX9_count_15 rfl ?_
      refine v_icmp_ge (pc' := 21) (tgt := 61) X dX9_count_18 (by decide) rfl (fun hc_18 => ?_) (fun hc_18 => ?_)
      -- taken 18
      · have hje : j = n := by have hh := le_of_nI hc_18 (by omega) (by omega); omega
        rw [hje] at hz2 hz3
        refine v_iload_n (pc' := 62) (i := 1) (j := 3) X dX9_count_61 rfl rfl rfl ?_
        rcases sw_0_8 what with rfl | rfl | rfl | rfl | rfl | rfl | rfl | rfl | rfl | hsw
        · refine v_tableIn (off := 50) (tgt := 112) X dX9_count_62 (by decide) (by decide) (by decide) (by decide) ?_
          refine v_aload_n (pc' := 113) (i := 0) (j := 4) X dX9_count_112 rfl rfl rfl ?_
          refine fg_X9_72 (pc' := 116) X (v := nI sz) ((mI_o _ _ _ _ (by decide)).trans hsz) dX9_count_113 rfl ?_
          refine v_ireturn X R (Nat.zero_le _) (Nat.zero_le _) dX9_count_116 ?_
          have hF : fCount M n 0 = nI sz := by
            unfold fCount
            rw [if_pos rfl]
            exact hsz
          rw [hF]
          exact ⟨rfl, rfl⟩
        · refine v_tableIn (off := 55) (tgt := 117) X dX9_count_62 (by decide) (by decide) (by decide) (by decide) ?_
          refine v_aload_n (pc' := 118) (i := 0) (j := 4) X dX9_count_117 rfl rfl rfl ?_
          refine fg_X9_7 (pc' := 121) X (v := nI n) ((mI_o _ _ _ _ (by decide)).trans hn2) dX9_count_118 rfl ?_
          refine v_ireturn X R (Nat.zero_le _) (Nat.zero_le _) dX9_count_121 ?_
          have hF : fCount M n 1 = nI n := by
            unfold fCount
            rw [if_neg (by decide), if_pos rfl]
            exact hn2
          rw [hF]
          exact ⟨rfl, rfl⟩
        · refine v_tableIn (off := 60) (tgt := 122) X dX9_count_62 (by decide) (by decide) (by decide) (by decide) ?_
          refine v_aload_n (pc' := 123) (i := 0) (j := 4) X dX9_count_122 rfl rfl rfl ?_
          refine fg_X9_143 (pc' := 126) X (v := nI us) ((mI_o _ _ _ _ (by decide)).trans hus) dX9_count_123 rfl ?_
          refine v_ireturn X R (Nat.zero_le _) (Nat.zero_le _) dX9_count_126 ?_
          have hF : fCount M n 2 = nI us := by
            unfold fCount
            rw [if_neg (by decide), if_neg (by decide), if_pos rfl]
            exact hus
          rw [hF]
          exact ⟨rfl, rfl⟩
        · refine v_tableIn (off := 65) (tgt := 127) X dX9_count_62 (by decide) (by decide) (by decide) (by decide) ?_
          refine v_aload_n (pc' := 128) (i := 0) (j := 4) X dX9_count_127 rfl rfl rfl ?_
          refine fg_X9_161 (pc' := 131) X (v := M.1 0 4) (mI_o _ _ _ _ (by decide)) dX9_count_128 rfl ?_
          refine v_ireturn X R (Nat.zero_le _) (Nat.zero_le _) dX9_count_131 ?_
          have hF : fCount M n 3 = M.1 0 4 := by
            unfold fCount
            rw [if_neg (by decide), if_neg (by decide), if_neg (by decide), if_pos rfl]
          rw [hF]
          exact ⟨rfl, rfl⟩
        · refine v_tableIn (off := 70) (tgt := 132) X dX9_count_62 (by decide) (by decide) (by decide) (by decide) ?_
          refine v_aload_n (pc' := 133) (i := 0) (j := 4) X dX9_count_132 rfl rfl rfl ?_
          refine fg_X9_158 (pc' := 136) X (v := M.1 0 5) (mI_o _ _ _ _ (by decide)) dX9_count_133 rfl ?_
          refine v_ireturn X R (Nat.zero_le _) (Nat.zero_le _) dX9_count_136 ?_
          have hF : fCount M n 4 = M.1 0 5 := by
            unfold fCount
            rw [if_neg (by decide), if_neg (by decide), if_neg (by decide), if_neg (by decide), if_pos rfl]
          rw [hF]
          exact ⟨rfl, rfl⟩
        · refine v_tableIn (off := 75) (tgt := 137) X dX9_count_62 (by decide) (by decide) (by decide) (by decide) ?_
          refine v_aload_n (pc' := 138) (i := 0) (j := 4) X dX9_count_137 rfl rfl rfl ?_
          refine fg_X9_226 (pc' := 141) X (v := M.1 0 6) (mI_o _ _ _ _ (by decide)) dX9_count_138 rfl ?_
          refine v_ireturn X R (Nat.zero_le _) (Nat.zero_le _) dX9_count_141 ?_
          have hF : fCount M n 5 = M.1 0 6 := by
            unfold fCount
            rw [if_neg (by decide), if_neg (by decide), if_neg (by decide), if_neg (by decide), if_neg (by decide), if_pos rfl]
          rw [hF]
          exact ⟨rfl, rfl⟩
        · refine v_tableIn (off := 80) (tgt := 142) X dX9_count_62 (by decide) (by decide) (by decide) (by decide) ?_
          refine v_aload_n (pc' := 143) (i := 0) (j := 4) X dX9_count_142 rfl rfl rfl ?_
          refine fg_X9_66 (pc' := 146) X (v := M.1 0 7) (mI_o _ _ _ _ (by decide)) dX9_count_143 rfl ?_
          refine v_ireturn X R (Nat.zero_le _) (Nat.zero_le _) dX9_count_146 ?_
          have hF : fCount M n 6 = M.1 0 7 := by
            unfold fCount
            rw [if_neg (by decide), if_neg (by decide), if_neg (by decide), if_neg (by decide), if_neg (by decide), if_neg (by decide), if_pos rfl]
          rw [hF]
          exact ⟨rfl, rfl⟩
        · refine v_tableIn (off := 85) (tgt := 147) X dX9_count_62 (by decide) (by decide) (by decide) (by decide) ?_
          refine v_aload_n (pc' := 148) (i := 0) (j := 4) X dX9_count_147 rfl rfl rfl ?_
          refine fg_X9_216 (pc' := 151) X (v := nI pd) ((mI_o _ _ _ _ (by decide)).trans hpd) dX9_count_148 rfl ?_
          refine v_ireturn X R (Nat.zero_le _) (Nat.zero_le _) dX9_count_151 ?_
          have hF : fCount M n 7 = nI pd := by
            unfold fCount
            rw [if_neg (by decide), if_neg (by decide), if_neg (by decide), if_neg (by decide), if_neg (by decide), if_neg (by decide), if_neg (by decide), if_pos rfl]
            exact hpd
          rw [hF]
          exact ⟨rfl, rfl⟩
        · refine v_tableIn (off := 90) (tgt := 152) X dX9_count_62 (by decide) (by decide) (by decide) (by decide) ?_
          refine v_iload_n (pc' := 153) (i := 2) (j := 2) X dX9_count_152 rfl rfl rfl ?_
          refine v_if_ne (pc' := 156) (tgt := 164) X dX9_count_153 (by decide) rfl (fun hc_153 => ?_) (fun hc_153 => ?_)
          -- taken 153
          · refine v_iconst (pc' := 165) (v := 0) X dX9_count_164 (by decide) rfl ?_
            refine v_ireturn X R (Nat.zero_le _) (Nat.zero_le _) dX9_count_165 ?_
            have hF : fCount M n 8 = 0 := by
              unfold fCount
              rw [if_neg (by decide), if_neg (by decide), if_neg (by decide), if_neg (by decide), if_neg (by decide), if_neg (by decide), if_neg (by decide), if_neg (by decide), if_pos rfl]
              exact bP_f (fun z9 => hc_153 (congrArg nI (hz2.mpr z9.1)))
            rw [hF]
            exact ⟨rfl, rfl⟩
          -- not taken 153
          · refine v_iload_n (pc' := 157) (i := 3) (j := 1) X dX9_count_156 rfl rfl rfl ?_
            refine v_if_le (pc' := 160) (tgt := 164) X dX9_count_157 (by decide) rfl (fun hc_157 => ?_) (fun hc_157 => ?_)
            -- taken 157
            · refine v_iconst (pc' := 165) (v := 0) X dX9_count_164 (by decide) rfl ?_
              refine v_ireturn X R (Nat.zero_le _) (Nat.zero_le _) dX9_count_165 ?_
              have hF : fCount M n 8 = 0 := by
                unfold fCount
                rw [if_neg (by decide), if_neg (by decide), if_neg (by decide), if_neg (by decide), if_neg (by decide), if_neg (by decide), if_neg (by decide), if_neg (by decide), if_pos rfl]
                exact bP_f (fun z9 => absurd hc_157 (nI_nle (hz3.mpr z9.2) (by omega)))
              rw [hF]
              exact ⟨rfl, rfl⟩
            -- not taken 157
            · refine v_iconst (pc' := 161) (v := 1) X dX9_count_160 (by decide) rfl ?_
              refine v_goto (pc' := 165) X dX9_count_161 (by decide) ?_
              refine v_ireturn X R (Nat.zero_le _) (Nat.zero_le _) dX9_count_165 ?_
              have hF : fCount M n 8 = 1 := by
                unfold fCount
                rw [if_neg (by decide), if_neg (by decide), if_neg (by decide), if_neg (by decide), if_neg (by decide), if_neg (by decide), if_neg (by decide), if_neg (by decide), if_pos rfl]
                exact bP_t ⟨hz2.mp (eq_of_nI (b := 0) hc_153 (by omega) (by omega)), hz3.mp (by rcases Nat.eq_zero_or_pos c3 with y9 | y9; exact absurd (show nI c3 ≤ 0 by rw [y9]; decide) hc_157; exact y9)⟩
              rw [hF]
              exact ⟨rfl, rfl⟩
        · refine v_tableOut (tgt := 166) X dX9_count_62 hsw (by decide) ?_
          refine v_iconst (pc' := 167) (v := (-1)) X dX9_count_166 (by decide) rfl ?_
          refine v_ireturn X R (Nat.zero_le _) (Nat.zero_le _) dX9_count_167 ?_
          have hF : fCount M n what = -1 := by
            unfold fCount
            rw [if_neg (sw_out (k := 0) hsw (by decide) (by decide)), if_neg (sw_out (k := 1) hsw (by decide) (by decide)), if_neg (sw_out (k := 2) hsw (by decide) (by decide)), if_neg (sw_out (k := 3) hsw (by decide) (by decide)), if_neg (sw_out (k := 4) hsw (by decide) (by decide)), if_neg (sw_out (k := 5) hsw (by decide) (by decide)), if_neg (sw_out (k := 6) hsw (by decide) (by decide)), if_neg (sw_out (k := 7) hsw (by decide) (by decide)), if_neg (sw_out (k := 8) hsw (by decide) (by decide))]
          rw [hF]
          exact ⟨rfl, rfl⟩
      -- not taken 18
      · have hjn : j < n := by
          rcases Nat.lt_or_ge j n with q9 | q9
          · exact q9
          · exact absurd (nI_le q9 (by omega)) hc_18
        refine v_aload_n (pc' := 22) (i := 0) (j := 4) X dX9_count_21 rfl rfl rfl ?_
        refine fg_X9_28 (pc' := 25) X dX9_count_22 rfl ?_
        refine v_iload (pc' := 27) (j := 0) X dX9_count_25 rfl rfl ?_
        refine ag_M13 (pc' := 28) X (j) rfl (by omega) (by omega) dX9_count_27 rfl ?_
        refine fg_X9_208 (pc' := 31) X (by omega) (v := M.1 (tb j) 0) (congrFun (mI_n _ _ _ _ (by unfold tb; omega)) _) dX9_count_28 rfl ?_
        refine v_iconst (pc' := 32) (v := 1) X dX9_count_31 (by decide) rfl ?_
        refine v_icmp_ne (pc' := 35) (tgt := 38) X dX9_count_32 (by decide) rfl (fun hc_32 => ?_) (fun hc_32 => ?_)
        -- taken 32
        · refine v_aload_n (pc' := 39) (i := 0) (j := 4) X dX9_count_38 rfl rfl rfl ?_
          refine fg_X9_28 (pc' := 42) X dX9_count_39 rfl ?_
          refine v_iload (pc' := 44) (j := 0) X dX9_count_42 rfl rfl ?_
          refine ag_M13 (pc' := 45) X (j) rfl (by omega) (by omega) dX9_count_44 rfl ?_
          refine fg_X9_208 (pc' := 48) X (by omega) (v := M.1 (tb j) 0) (congrFun (mI_n _ _ _ _ (by unfold tb; omega)) _) dX9_count_45 rfl ?_
          refine v_iconst (pc' := 49) (v := 2) X dX9_count_48 (by decide) rfl ?_
          refine v_icmp_ne (pc' := 52) (tgt := 55) X dX9_count_49 (by decide) rfl (fun hc_49 => ?_) (fun hc_49 => ?_)
          -- taken 49
          · refine v_iinc (pc' := 58) (j := 0) (v := nI (j + 1)) (lv' := [(4, .int (nI (j + 1))), (3, .int (nI c3)), (2, .int (nI c2)), (1, .int what), (0, .ref (ad (0)))]) X dX9_count_55 rfl (nI_add (j) 1) (by decide) rfl rfl ?_
            refine v_goto (pc' := 12) X dX9_count_58 (by decide) ?_
            exact ih_hloop (j + 1) c2 c3 (by omega) (by omega) (by omega) (by omega) ⟨fun z9 => lt_s (hz2.mp z9) hc_32, fun z9 => hz2.mpr (fun j9 hj9 => z9 j9 (Nat.lt_succ_of_lt hj9))⟩ ⟨fun z9 => by obtain ⟨j9, hj9, y9⟩ := hz3.mp z9; exact ⟨j9, Nat.lt_succ_of_lt hj9, y9⟩, fun z9 => by obtain ⟨j9, hj9, y9⟩ := z9; rcases Nat.lt_succ_iff_lt_or_eq.mp hj9 with z8 | rfl; exact hz3.mpr ⟨j9, z8, y9⟩; exact absurd y9 hc_49⟩
          -- not taken 49
          · refine v_iinc (pc' := 55) (j := 1) (v := nI (c3 + 1)) (lv' := [(3, .int (nI (c3 + 1))), (4, .int (nI j)), (2, .int (nI c2)), (1, .int what), (0, .ref (ad (0)))]) X dX9_count_52 rfl (nI_add (c3) 1) (by decide) rfl rfl ?_
            refine v_iinc (pc' := 58) (j := 1) (v := nI (j + 1)) (lv' := [(4, .int (nI (j + 1))), (3, .int (nI (c3 + 1))), (2, .int (nI c2)), (1, .int what), (0, .ref (ad (0)))]) X dX9_count_55 rfl (nI_add (j) 1) (by decide) rfl rfl ?_
            refine v_goto (pc' := 12) X dX9_count_58 (by decide) ?_
            exact ih_hloop (j + 1) c2 (c3 + 1) (by omega) (by omega) (by omega) (by omega) ⟨fun z9 => lt_s (hz2.mp z9) hc_32, fun z9 => hz2.mpr (fun j9 hj9 => z9 j9 (Nat.lt_succ_of_lt hj9))⟩ ⟨fun _ => ⟨j, Nat.lt_succ_self j, hc_49⟩, fun _ => by omega⟩
        -- not taken 32
        · refine v_iinc (pc' := 38) (j := 2) (v := nI (c2 + 1)) (lv' := [(2, .int (nI (c2 + 1))), (4, .int (nI j)), (3, .int (nI c3)), (1, .int what), (0, .ref (ad (0)))]) X dX9_count_35 rfl (nI_add (c2) 1) (by decide) rfl rfl ?_
          refine v_aload_n (pc' := 39) (i := 0) (j := 4) X dX9_count_38 rfl rfl rfl ?_
          refine fg_X9_28 (pc' := 42) X dX9_count_39 rfl ?_
          refine v_iload (pc' := 44) (j := 1) X dX9_count_42 rfl rfl ?_
          refine ag_M13 (pc' := 45) X (j) rfl (by omega) (by omega) dX9_count_44 rfl ?_
          refine fg_X9_208 (pc' := 48) X (by omega) (v := M.1 (tb j) 0) (congrFun (mI_n _ _ _ _ (by unfold tb; omega)) _) dX9_count_45 rfl ?_
          refine v_iconst (pc' := 49) (v := 2) X dX9_count_48 (by decide) rfl ?_
          refine v_icmp_ne (pc' := 52) (tgt := 55) X dX9_count_49 (by decide) rfl (fun hc_49 => ?_) (fun hc_49 => ?_)
          -- taken 49
          · refine v_iinc (pc' := 58) (j := 1) (v := nI (j + 1)) (lv' := [(4, .int (nI (j + 1))), (2, .int (nI (c2 + 1))), (3, .int (nI c3)), (1, .int what), (0, .ref (ad (0)))]) X dX9_count_55 rfl (nI_add (j) 1) (by decide) rfl rfl ?_
            refine v_goto (pc' := 12) X dX9_count_58 (by decide) ?_
            refine v_sub (lv' := [(4, .int (nI (j + 1))), (3, .int (nI c3)), (2, .int (nI (c2 + 1))), (1, .int what), (0, .ref (ad (0)))]) [0, 2, 1, 3, 4] rfl ?_
            exact ih_hloop (j + 1) (c2 + 1) c3 (by omega) (by omega) (by omega) (by omega) ⟨fun z9 => by omega, fun z9 => absurd hc_32 (z9 j (Nat.lt_succ_self j))⟩ ⟨fun z9 => by obtain ⟨j9, hj9, y9⟩ := hz3.mp z9; exact ⟨j9, Nat.lt_succ_of_lt hj9, y9⟩, fun z9 => by obtain ⟨j9, hj9, y9⟩ := z9; rcases Nat.lt_succ_iff_lt_or_eq.mp hj9 with z8 | rfl; exact hz3.mpr ⟨j9, z8, y9⟩; exact absurd y9 hc_49⟩
          -- not taken 49
          · refine v_iinc (pc' := 55) (j := 2) (v := nI (c3 + 1)) (lv' := [(3, .int (nI (c3 + 1))), (2, .int (nI (c2 + 1))), (4, .int (nI j)), (1, .int what), (0, .ref (ad (0)))]) X dX9_count_52 rfl (nI_add (c3) 1) (by decide) rfl rfl ?_
            refine v_iinc (pc' := 58) (j := 2) (v := nI (j + 1)) (lv' := [(4, .int (nI (j + 1))), (3, .int (nI (c3 + 1))), (2, .int (nI (c2 + 1))), (1, .int what), (0, .ref (ad (0)))]) X dX9_count_55 rfl (nI_add (j) 1) (by decide) rfl rfl ?_
            refine v_goto (pc' := 12) X dX9_count_58 (by decide) ?_
            exact ih_hloop (j + 1) (c2 + 1) (c3 + 1) (by omega) (by omega) (by omega) (by omega) ⟨fun z9 => by omega, fun z9 => absurd hc_32 (z9 j (Nat.lt_succ_self j))⟩ ⟨fun _ => ⟨j, Nat.lt_succ_self j, hc_49⟩, fun _ => by omega⟩
  refine v_sub (lv' := [(4, .int 0), (3, .int 0), (2, .int 0), (1, .int what), (0, .ref (ad (0)))]) [0, 1, 2, 4, 3] rfl ?_
  exact hloop _ 0 0 0 (Nat.lt_succ_self _) (Nat.zero_le _) (Nat.le_refl 0) (Nat.le_refl 0) ⟨fun _ => lt_0, fun _ => rfl⟩ ⟨fun z9 => absurd z9 (by omega), fun z9 => by obtain ⟨j9, hj9, -⟩ := z9; omega⟩
