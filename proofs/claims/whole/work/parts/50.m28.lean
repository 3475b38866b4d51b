/-! THE CLASS'S COLLECTION: SLIDING -/
def S5 (M : vM) (a : Nat → Int32) (b c : Nat → Int64) (d : Nat → Int32) : vM := mRI (mRL (mRL (mRI M 17 a) 15 b) 16 c) 20 d
theorem S5_up (M : vM) (a : Nat → Int32) (b c : Nat → Int64) (d : Nat → Int32) (i j k l : Nat) (x t : Int32) (y z : Int64) : mL (mL (mI (mI (S5 M a b c d) 20 l t) 17 i x) 15 j y) 16 k z = S5 M (upd a i x) (vp_updL b j y) (vp_updL c k z) (upd d l t) := by
  apply Prod.ext
  · funext q
    simp only [S5, mI, mL, mRI, mRL, va_up]
    by_cases h1 : q = 17
    · subst h1; simp
    · by_cases h2 : q = 20
      · subst h2; simp
      · simp [h1, h2]
  · funext q
    simp only [S5, mI, mL, mRI, mRL, va_up]
    by_cases h1 : q = 15
    · subst h1; simp
    · by_cases h2 : q = 16
      · subst h2; simp
      · simp [h1, h2]
theorem S5_self (M : vM) : S5 M (M.1 17) (M.2 15) (M.2 16) (M.1 20) = M := by
  unfold S5
  rw [mRI_self, show mRL M 15 (M.2 15) = M from mRL_self M 15, show mRL M 16 (M.2 16) = M from mRL_self M 16, mRI_self]
theorem S5_1 {M : vM} {a : Nat → Int32} {b c : Nat → Int64} {d : Nat → Int32} {x : Nat} (h1 : x ≠ 17) (h2 : x ≠ 20) : (S5 M a b c d).1 x = M.1 x := (mRI_n _ _ _ h2).trans (mRI_n _ _ _ h1)
theorem S5_2 {M : vM} {a : Nat → Int32} {b c : Nat → Int64} {d : Nat → Int32} {x : Nat} (h1 : x ≠ 15) (h2 : x ≠ 16) : (S5 M a b c d).2 x = M.2 x := (mRL_n _ _ _ h2).trans (mRL_n _ _ _ h1)
theorem S5_17 {M : vM} {a : Nat → Int32} {b c : Nat → Int64} {d : Nat → Int32} : (S5 M a b c d).1 17 = a := by
  show (mRI (mRL (mRL (mRI M 17 a) 15 b) 16 c) 20 d).1 17 = a
  rw [mRI_n _ _ _ (by decide)]
  exact mRI_r M 17 a
theorem S5_20 {M : vM} {a : Nat → Int32} {b c : Nat → Int64} {d : Nat → Int32} : (S5 M a b c d).1 20 = d := mRI_r _ _ _
theorem S5_15 {M : vM} {a : Nat → Int32} {b c : Nat → Int64} {d : Nat → Int32} : (S5 M a b c d).2 15 = b := by
  show (mRL (mRL (mRI M 17 a) 15 b) 16 c).2 15 = b
  rw [mRL_n _ _ _ (by decide)]
  exact mRL_r _ _ _
theorem S5_16 {M : vM} {a : Nat → Int32} {b c : Nat → Int64} {d : Nat → Int32} : (S5 M a b c d).2 16 = c := by
  show (mRL (mRL (mRI M 17 a) 15 b) 16 c).2 16 = c
  exact mRL_r _ _ _
def ktR (f : Nat → Int32) (e : Nat) : Nat → Int32 := fun q => if q < e then (if f q = -1 then -1 else nI (cntK (unm f) q)) else f q
theorem ktR_0 {f : Nat → Int32} : ktR f 0 = f := by
  funext k; exact if_neg (Nat.not_lt_zero k)
theorem ktR_s {f : Nat → Int32} {p : Nat} (h : ¬ f p = -1) : upd (ktR f p) p (nI (cntK (unm f) p)) = ktR f (p + 1) := by
  funext q
  show (if q = p then nI (cntK (unm f) p) else ktR f p q) = _
  unfold ktR
  by_cases h1 : q = p
  · subst h1; rw [if_pos rfl, if_pos (by omega), if_neg h]
  · rw [if_neg h1]
    by_cases h2 : q < p
    · rw [if_pos h2, if_pos (show q < p + 1 by omega)]
    · rw [if_neg h2, if_neg (by omega)]
theorem ktR_z {f : Nat → Int32} {p : Nat} (h : f p = -1) : ktR f p = ktR f (p + 1) := by
  funext q
  unfold ktR
  by_cases h1 : q = p
  · subst h1; rw [if_neg (Nat.lt_irrefl q), if_pos (by omega), if_pos h, h]
  · by_cases h2 : q < p
    · rw [if_pos h2, if_pos (show q < p + 1 by omega)]
    · rw [if_neg h2, if_neg (by omega)]
theorem unm_z {f : Nat → Int32} {p : Nat} (h : f p = -1) : unm f p = 0 := if_pos h
theorem unm_k {f : Nat → Int32} {p : Nat} (h : ¬ f p = -1) : ¬ unm f p = 0 := by
  unfold unm; rw [if_neg h]; decide
theorem cntK_s1 {f : Nat → Int32} {p : Nat} (h : ¬ f p = 0) : cntK f (p + 1) = cntK f p + 1 := by rw [cntK, if_neg h]
theorem cntK_s0 {f : Nat → Int32} {p : Nat} (h : f p = 0) : cntK f (p + 1) = cntK f p := by rw [cntK, if_pos h]; rfl
theorem slR_all {α : Type} {f : Nat → Int32} {row : Nat → α} {P : α → Prop} (h : ∀ p, p < 200 → P (row p)) : ∀ q, q ≤ 200 → ∀ x, x < 200 → P (slR f id row q x)
  | 0, _, x, hx => h x hx
  | q + 1, hq, x, hx => by
    by_cases h0 : f q = 0
    · rw [slR_z h0]; exact slR_all h q (by omega) x hx
    · rw [slR_k h0]
      by_cases hc : x = cntK f q
      · rw [hc, va_up_self]; exact h q (by omega)
      · rw [va_up_ne _ _ hc]; exact slR_all h q (by omega) x hx
def gS5 (M : vM) (p : Nat) : vM := S5 M (slR (unm (M.1 20)) id (M.1 17) p) (slR (unm (M.1 20)) id (M.2 15) p) (slR (unm (M.1 20)) id (M.2 16) p) (ktR (M.1 20) p)
def gSlide (M : vM) (us : Nat) : vM :=
  let k9 := cntK (unm (M.1 20)) us
  let M5 := mI (gS5 M us) 1 5 (nI k9)
  let M6 := mRL M5 15 (kvR (M5.1 20) (M5.2 15) k9)
  mRL M6 16 (kvR (M6.1 20) (M6.2 16) k9)
theorem gS5_0 {M : vM} : gS5 M 0 = M := by
  unfold gS5
  rw [ktR_0]; exact S5_self M
theorem gS5_s {M : vM} {p : Nat} (h : ¬ M.1 20 p = -1) : mL (mL (mI (mI (gS5 M p) 20 p (nI (cntK (unm (M.1 20)) p))) 17 (cntK (unm (M.1 20)) p) (M.1 17 p)) 15 (cntK (unm (M.1 20)) p) (M.2 15 p)) 16 (cntK (unm (M.1 20)) p) (M.2 16 p) = gS5 M (p + 1) := by
  unfold gS5
  rw [S5_up, ktR_s h, slR_k (unm_k h), slR_k (unm_k h), slR_k (unm_k h)]
  rfl
theorem gS5_z {M : vM} {p : Nat} (h : M.1 20 p = -1) : gS5 M p = gS5 M (p + 1) := by
  unfold gS5
  rw [← ktR_z h, slR_z (unm_z h), slR_z (unm_z h), slR_z (unm_z h)]
theorem gS5_5 {M : vM} {p : Nat} : (gS5 M p).1 1 = M.1 1 := S5_1 (by decide) (by decide)
theorem gS5_20 {M : vM} {p : Nat} : (gS5 M p).1 20 p = M.1 20 p := by
  unfold gS5; rw [S5_20]; exact if_neg (Nat.lt_irrefl p)
theorem gS5_17 {M : vM} {p : Nat} : (gS5 M p).1 17 p = M.1 17 p := by
  unfold gS5; rw [S5_17]; exact slR_ge _ _ _ p p (Nat.le_refl p)
theorem gS5_15 {M : vM} {p : Nat} : (gS5 M p).2 15 p = M.2 15 p := by
  unfold gS5; rw [S5_15]; exact slR_ge _ _ _ p p (Nat.le_refl p)
theorem gS5_16 {M : vM} {p : Nat} : (gS5 M p).2 16 p = M.2 16 p := by
  unfold gS5; rw [S5_16]; exact slR_ge _ _ _ p p (Nat.le_refl p)
set_option maxHeartbeats 4000000 in
set_option maxRecDepth 100000 in
theorem c_X1_slide {l : Launch} {D : va_G} {Y : Nat → ClassId} {zz : Nat → Nat} {n s cp cq : Nat} {ad : Nat → Nat} {M : vM} {us : Nat} (h5 : M.1 1 5 = nI us) (hu : us ≤ 200) (hcl : ∀ p, p < 200 → ok1 (M.2 15 p) ∧ ok1 (M.2 16 p)) : Ct l D Y zz yX1_slide cX1_slide 3 none 2 45 [.ref (ad (1))] (wK Y n s cp cq ad M) 0 0 (fun r w => r = none ∧ w = wK Y n s cp cq ad (gSlide M us)) := by
  refine v_entry (by decide +kernel) (Nat.le_of_ble_eq_true rfl) ?_
  intro K X R hR hnm hl hD hY hz
  subst hl hD hY hz
  refine v_sub (lv' := [(0, .ref (ad (1)))]) [0] rfl ?_
  refine v_iconst (pc' := 1) (v := 0) X dX1_slide_0 (by decide) rfl ?_
  refine v_istore_n (pc' := 2) (i := 1) (lv' := [(1, .int 0), (0, .ref (ad (1)))]) X dX1_slide_1 rfl (by decide) rfl rfl ?_
  refine v_iconst (pc' := 3) (v := 0) X dX1_slide_2 (by decide) rfl ?_
  refine v_istore_n (pc' := 4) (i := 2) (lv' := [(2, .int 0), (1, .int 0), (0, .ref (ad (1)))]) X dX1_slide_3 rfl (by decide) rfl rfl ?_
  have hloop : ∀ (dd_hloop : Nat) (p : Nat), us - p < dd_hloop → (p ≤ us) → V K 3 (wK (kY K) n s cp cq ad (gS5 M p)) 0 0 4 [(2, .int (nI p)), (1, .int (nI (cntK (unm (M.1 20)) p))), (0, .ref (ad (1)))] [] := by
    intro dd_hloop
    induction dd_hloop with
    | zero => intro p hlt_hloop; exact absurd hlt_hloop (Nat.not_lt_zero _)
    | succ dd_hloop ih_hloop =>
      intro p hlt_hloop hp
      refine v_iload_n (pc' := 5) (i := 2) (j := 0) X dX1_slide_4 rfl rfl rfl ?_
      refine v_aload_n (pc' := 6) (i := 0) (j := 2) X dX1_slide_5 rfl rfl rfl ?_
      refine fk_X1_28 (pc' := 9) X (v := nI us) ((congrFun gS5_5 _).trans h5) dX1_slide_6 rfl ?_
      refine v_icmp_ge (pc' := 12) (tgt := 74) X dX1_slide_9 (by decide) rfl (fun hc_9 => ?_) (fun hc_9 => ?_)
      -- taken 9
      · obtain rfl : p = us := by have hh := le_of_nI hc_9 (by omega) (by omega); omega
        have hcl9 := cntK_le (unm (M.1 20)) p
        refine v_aload_n (pc' := 75) (i := 0) (j := 2) X dX1_slide_74 rfl rfl rfl ?_
        refine v_iload_n (pc' := 76) (i := 1) (j := 1) X dX1_slide_75 rfl rfl rfl ?_
        refine fq_X1_28 (pc' := 79) X dX1_slide_76 rfl ?_
        refine v_aload_n (pc' := 80) (i := 0) (j := 2) X dX1_slide_79 rfl rfl rfl ?_
        refine v_aload_n (pc' := 81) (i := 0) (j := 2) X dX1_slide_80 rfl rfl rfl ?_
        refine fk_X1_15 (pc' := 84) X dX1_slide_81 rfl ?_
        refine v_aload_n (pc' := 85) (i := 0) (j := 2) X dX1_slide_84 rfl rfl rfl ?_
        refine fk_X1_28 (pc' := 88) X (v := nI (cntK (unm (M.1 20)) p)) (mI_s _ _ _ _) dX1_slide_85 rfl ?_
        refine v_callV (pc' := 91) X (st := []) (c_X1_followRow (M := (mI (gS5 M p) 1 5 (nI (cntK (unm (M.1 20)) p)))) (c := 15) mK_15 hK_15 (by decide) (e := cntK (unm (M.1 20)) p) (by omega) (fun k hk => slR_all (P := ok1) (fun q hq => (hcl q hq).1) p (by omega) k (by omega))) k_X1_followRow w_ml_X1_57 w_im_X1_followRow w_se_X1_X1_followRow rw_X1 (by rw [hR]; exact ⟨Nat.le_of_ble_eq_true rfl, Nat.le_of_ble_eq_true rfl⟩) rfl rfl (Nat.le_of_ble_eq_true rfl) dX1_slide_88 rfl (⟨Nat.zero_le _, Nat.zero_le _⟩) ?_
        rintro _ _ ⟨rfl, rfl⟩
        have hus6 : (mRL (mI (gS5 M p) 1 5 (nI (cntK (unm (M.1 20)) p))) 15 (kvR ((mI (gS5 M p) 1 5 (nI (cntK (unm (M.1 20)) p))).1 20) ((mI (gS5 M p) 1 5 (nI (cntK (unm (M.1 20)) p))).2 15) (cntK (unm (M.1 20)) p))).1 1 5 = nI (cntK (unm (M.1 20)) p) := by rw [mRL_1, mI_s]
        refine v_aload_n (pc' := 92) (i := 0) (j := 2) X dX1_slide_91 rfl rfl rfl ?_
        refine v_aload_n (pc' := 93) (i := 0) (j := 2) X dX1_slide_92 rfl rfl rfl ?_
        refine fk_X1_19 (pc' := 96) X dX1_slide_93 rfl ?_
        refine v_aload_n (pc' := 97) (i := 0) (j := 2) X dX1_slide_96 rfl rfl rfl ?_
        refine fk_X1_28 (pc' := 100) X (v := nI (cntK (unm (M.1 20)) p)) hus6 dX1_slide_97 rfl ?_
        refine v_callV (pc' := 103) X (st := []) (c_X1_followRow (M := (mRL (mI (gS5 M p) 1 5 (nI (cntK (unm (M.1 20)) p))) 15 (kvR ((mI (gS5 M p) 1 5 (nI (cntK (unm (M.1 20)) p))).1 20) ((mI (gS5 M p) 1 5 (nI (cntK (unm (M.1 20)) p))).2 15) (cntK (unm (M.1 20)) p)))) (c := 16) mK_16 hK_16 (by decide) (e := cntK (unm (M.1 20)) p) (by omega) (fun k hk => slR_all (P := ok1) (fun q hq => (hcl q hq).2) p (by omega) k (by omega))) k_X1_followRow w_ml_X1_57 w_im_X1_followRow w_se_X1_X1_followRow rw_X1 (by rw [hR]; exact ⟨Nat.le_of_ble_eq_true rfl, Nat.le_of_ble_eq_true rfl⟩) rfl rfl (Nat.le_of_ble_eq_true rfl) dX1_slide_100 rfl (⟨Nat.zero_le _, Nat.zero_le _⟩) ?_
        rintro _ _ ⟨rfl, rfl⟩
        refine v_return X R (Nat.zero_le _) (Nat.zero_le _) dX1_slide_103 ?_
        exact ⟨rfl, rfl⟩
      -- not taken 9
      · have hpu : p < us := by
          rcases Nat.lt_or_ge p us with q9 | q9
          · exact q9
          · exact absurd (nI_le q9 (by omega)) hc_9
        have hcl9 := cntK_le (unm (M.1 20)) p
        refine v_aload_n (pc' := 13) (i := 0) (j := 2) X dX1_slide_12 rfl rfl rfl ?_
        refine fk_X1_25 (pc' := 16) X dX1_slide_13 rfl ?_
        refine v_iload_n (pc' := 17) (i := 2) (j := 0) X dX1_slide_16 rfl rfl rfl ?_
        refine ak_K20 (pc' := 18) X (v := M.1 20 p) (p) rfl (by omega) gS5_20 dX1_slide_17 rfl ?_
        refine v_iconst (pc' := 19) (v := (-1)) X dX1_slide_18 (by decide) rfl ?_
        refine v_icmp_eq (pc' := 22) (tgt := 68) X dX1_slide_19 (by decide) rfl (fun hc_19 => ?_) (fun hc_19 => ?_)
        -- taken 19
        · refine v_iinc (pc' := 71) (j := 0) (v := nI (p + 1)) (lv' := [(2, .int (nI (p + 1))), (1, .int (nI (cntK (unm (M.1 20)) p))), (0, .ref (ad (1)))]) X dX1_slide_68 rfl (nI_add (p) 1) (by decide) rfl rfl ?_
          refine v_goto (pc' := 4) X dX1_slide_71 (by decide) ?_
          rw [← cntK_s0 (unm_z hc_19)]
          refine v_eqw (ws' := wK (kY K) n s cp cq ad (gS5 M (p + 1))) (by rw [gS5_z hc_19]) ?_
          exact ih_hloop (p + 1) (by omega) (by omega)
        -- not taken 19
        · refine v_aload_n (pc' := 23) (i := 0) (j := 2) X dX1_slide_22 rfl rfl rfl ?_
          refine fk_X1_25 (pc' := 26) X dX1_slide_23 rfl ?_
          refine v_iload_n (pc' := 27) (i := 2) (j := 0) X dX1_slide_26 rfl rfl rfl ?_
          refine v_iload_n (pc' := 28) (i := 1) (j := 1) X dX1_slide_27 rfl rfl rfl ?_
          refine aq_K20 (pc' := 29) X (p) rfl (by omega) dX1_slide_28 rfl ?_
          refine v_aload_n (pc' := 30) (i := 0) (j := 2) X dX1_slide_29 rfl rfl rfl ?_
          refine fk_X1_9 (pc' := 33) X dX1_slide_30 rfl ?_
          refine v_iload_n (pc' := 34) (i := 1) (j := 1) X dX1_slide_33 rfl rfl rfl ?_
          refine v_aload_n (pc' := 35) (i := 0) (j := 2) X dX1_slide_34 rfl rfl rfl ?_
          refine fk_X1_9 (pc' := 38) X dX1_slide_35 rfl ?_
          refine v_iload_n (pc' := 39) (i := 2) (j := 0) X dX1_slide_38 rfl rfl rfl ?_
          refine ak_K17 (pc' := 40) X (v := M.1 17 p) (p) rfl (by omega) ((congrFun (mI_n _ _ _ _ (by decide)) _).trans gS5_17) dX1_slide_39 rfl ?_
          refine aq_K17 (pc' := 41) X (cntK (unm (M.1 20)) p) rfl (by omega) dX1_slide_40 rfl ?_
          refine v_aload_n (pc' := 42) (i := 0) (j := 2) X dX1_slide_41 rfl rfl rfl ?_
          refine fk_X1_15 (pc' := 45) X dX1_slide_42 rfl ?_
          refine v_iload_n (pc' := 46) (i := 1) (j := 1) X dX1_slide_45 rfl rfl rfl ?_
          refine v_aload_n (pc' := 47) (i := 0) (j := 2) X dX1_slide_46 rfl rfl rfl ?_
          refine fk_X1_15 (pc' := 50) X dX1_slide_47 rfl ?_
          refine v_iload_n (pc' := 51) (i := 2) (j := 0) X dX1_slide_50 rfl rfl rfl ?_
          refine ak_K15 (pc' := 52) X (v := M.2 15 p) (p) rfl (by omega) ((congrFun (congrFun (mI_2 _ _ _ _) _) _).trans ((congrFun (congrFun (mI_2 _ _ _ _) _) _).trans gS5_15)) dX1_slide_51 rfl ?_
          refine aq_K15 (pc' := 53) X (cntK (unm (M.1 20)) p) rfl (by omega) dX1_slide_52 rfl ?_
          refine v_aload_n (pc' := 54) (i := 0) (j := 2) X dX1_slide_53 rfl rfl rfl ?_
          refine fk_X1_19 (pc' := 57) X dX1_slide_54 rfl ?_
          refine v_iload_n (pc' := 58) (i := 1) (j := 1) X dX1_slide_57 rfl rfl rfl ?_
          refine v_aload_n (pc' := 59) (i := 0) (j := 2) X dX1_slide_58 rfl rfl rfl ?_
          refine fk_X1_19 (pc' := 62) X dX1_slide_59 rfl ?_
          refine v_iload_n (pc' := 63) (i := 2) (j := 0) X dX1_slide_62 rfl rfl rfl ?_
          refine ak_K16 (pc' := 64) X (v := M.2 16 p) (p) rfl (by omega) ((congrFun (mL_n _ _ _ _ (by decide)) _).trans ((congrFun (congrFun (mI_2 _ _ _ _) _) _).trans ((congrFun (congrFun (mI_2 _ _ _ _) _) _).trans gS5_16))) dX1_slide_63 rfl ?_
          refine aq_K16 (pc' := 65) X (cntK (unm (M.1 20)) p) rfl (by omega) dX1_slide_64 rfl ?_
          refine v_iinc (pc' := 68) (j := 1) (v := nI (cntK (unm (M.1 20)) p + 1)) (lv' := [(1, .int (nI (cntK (unm (M.1 20)) p + 1))), (2, .int (nI p)), (0, .ref (ad (1)))]) X dX1_slide_65 rfl (nI_add (cntK (unm (M.1 20)) p) 1) (by decide) rfl rfl ?_
          refine v_iinc (pc' := 71) (j := 1) (v := nI (p + 1)) (lv' := [(2, .int (nI (p + 1))), (1, .int (nI (cntK (unm (M.1 20)) p + 1))), (0, .ref (ad (1)))]) X dX1_slide_68 rfl (nI_add (p) 1) (by decide) rfl rfl ?_
          refine v_goto (pc' := 4) X dX1_slide_71 (by decide) ?_
          rw [← cntK_s1 (unm_k hc_19)]
          refine v_eqw (ws' := wK (kY K) n s cp cq ad (gS5 M (p + 1))) (by rw [gS5_s hc_19]) ?_
          exact ih_hloop (p + 1) (by omega) (by omega)
  refine v_eqw (ws' := wK (kY K) n s cp cq ad (gS5 M 0)) (by rw [gS5_0]) ?_
  exact hloop _ 0 (Nat.lt_succ_self _) (Nat.zero_le _)
