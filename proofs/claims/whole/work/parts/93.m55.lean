/-! THE CLASS: PUT -/
theorem put_eq {N : vM} {s : Nat} {o x y z : Int32} (hs : N.1 0 1 = nI s) (h : s < 1000) : fPut N o x y z = (mI (mI (mI (mI (mI (mI N 0 0 0) 9 s o) 10 s x) 11 s y) 12 s z) 0 1 (nI (s + 1)), nI s) := by
  unfold fPut
  rw [hs, if_neg (show ¬ nI s = 1000 from fun z9 => absurd (eq_of_nI (b := 1000) z9 (by omega) (by decide)) (by omega)), nn_nI (by omega), nI_1, nI_pred]
theorem z_put2 {G N : vM} {n s : Nat} {o x y z : Int32} (h : Sm G N n s) (hs9 : s < 1000) : Sm (gAdd3 (gIns G s o x y z) s) (fPut N o x y z).1 n (s + 1) := by
  obtain ⟨hc, ⟨us, h3, hu, h5, hH⟩, hok, ⟨pd, od, p1, p2, p3, p4, p5, p6⟩, ⟨s1, s2, s3⟩, hn, hg, hO, hT⟩ := h
  rw [put_eq s2 hs9]
  have g3 : (gAdd3 (gIns G s o x y z) s).1 3 2 = nI (s + 1) := mI_s _ _ _ _
  have gi : (gAdd3 (gIns G s o x y z) s).1 (ib s) = gRow o x y z := by rw [gAdd3_n (by unfold ib; omega)]; exact mRI_r _ _ _
  have gx : ∀ c, c ≠ 3 → c ≠ ib s → (gAdd3 (gIns G s o x y z) s).1 c = G.1 c := fun c q1 q2 => by rw [gAdd3_n q1]; exact mRI_n _ _ _ q2
  have g2 : (gAdd3 (gIns G s o x y z) s).2 = G.2 := rfl
  generalize gAdd3 (gIns G s o x y z) s = G' at *
  have e0 : ∀ k, k ≠ 0 → k ≠ 1 → (mI (mI (mI (mI (mI (mI N 0 0 0) 9 s o) 10 s x) 11 s y) 12 s z) 0 1 (nI (s + 1))).1 0 k = N.1 0 k := fun k q0 q1 => by
    rw [mI_o _ _ _ _ q1, mI_n _ _ _ _ (by decide), mI_n _ _ _ _ (by decide), mI_n _ _ _ _ (by decide), mI_n _ _ _ _ (by decide), mI_o _ _ _ _ q0]
  have e1 : (mI (mI (mI (mI (mI (mI N 0 0 0) 9 s o) 10 s x) 11 s y) 12 s z) 0 1 (nI (s + 1))).1 0 1 = nI (s + 1) := mI_s _ _ _ _
  have ex : ∀ c, c ≠ 0 → c ≠ 9 → c ≠ 10 → c ≠ 11 → c ≠ 12 → (mI (mI (mI (mI (mI (mI N 0 0 0) 9 s o) 10 s x) 11 s y) 12 s z) 0 1 (nI (s + 1))).1 c = N.1 c := fun c q0 q9 q10 q11 q12 => by
    rw [mI_n _ _ _ _ q0, mI_n _ _ _ _ q12, mI_n _ _ _ _ q11, mI_n _ _ _ _ q10, mI_n _ _ _ _ q9, mI_n _ _ _ _ q0]
  have r9 : (mI (mI (mI (mI (mI (mI N 0 0 0) 9 s o) 10 s x) 11 s y) 12 s z) 0 1 (nI (s + 1))).1 9 = upd (N.1 9) s o := by
    rw [mI_n _ _ _ _ (by decide), mI_n _ _ _ _ (by decide), mI_n _ _ _ _ (by decide), mI_n _ _ _ _ (by decide), mI_r, mI_n _ _ _ _ (by decide)]
  have r10 : (mI (mI (mI (mI (mI (mI N 0 0 0) 9 s o) 10 s x) 11 s y) 12 s z) 0 1 (nI (s + 1))).1 10 = upd (N.1 10) s x := by
    rw [mI_n _ _ _ _ (by decide), mI_n _ _ _ _ (by decide), mI_n _ _ _ _ (by decide), mI_r, mI_n _ _ _ _ (by decide), mI_n _ _ _ _ (by decide)]
  have r11 : (mI (mI (mI (mI (mI (mI N 0 0 0) 9 s o) 10 s x) 11 s y) 12 s z) 0 1 (nI (s + 1))).1 11 = upd (N.1 11) s y := by
    rw [mI_n _ _ _ _ (by decide), mI_n _ _ _ _ (by decide), mI_r, mI_n _ _ _ _ (by decide), mI_n _ _ _ _ (by decide), mI_n _ _ _ _ (by decide)]
  have r12 : (mI (mI (mI (mI (mI (mI N 0 0 0) 9 s o) 10 s x) 11 s y) 12 s z) 0 1 (nI (s + 1))).1 12 = upd (N.1 12) s z := by
    rw [mI_n _ _ _ _ (by decide), mI_r, mI_n _ _ _ _ (by decide), mI_n _ _ _ _ (by decide), mI_n _ _ _ _ (by decide), mI_n _ _ _ _ (by decide)]
  have e2 : (mI (mI (mI (mI (mI (mI N 0 0 0) 9 s o) 10 s x) 11 s y) 12 s z) 0 1 (nI (s + 1))).2 = N.2 := rfl
  generalize mI (mI (mI (mI (mI (mI N 0 0 0) 9 s o) 10 s x) 11 s y) 12 s z) 0 1 (nI (s + 1)) = N' at *
  have i9 : ∀ c, c < 400 → c ≠ ib s := fun c hc => by unfold ib; omega
  refine ⟨?_, ⟨us, by rw [e0 3 (by decide) (by decide)]; exact h3, hu, by rw [gx 1 (by decide) (i9 _ (by decide))]; exact h5, fun p hp => ?_⟩, by rw [show sOk G' = sOk G from by unfold sOk; rw [g2]]; exact hok, ⟨pd, od, by rw [gx 2 (by decide) (i9 _ (by decide))]; exact p1, p2, by rw [gx 2 (by decide) (i9 _ (by decide))]; exact p3, p4, by rw [e0 8 (by decide) (by decide)]; exact p5, fun k hk => by rw [gx 21 (by decide) (i9 _ (by decide)), ex 21 (by decide) (by decide) (by decide) (by decide) (by decide)]; exact p6 k hk⟩, ⟨g3, e1, by omega⟩, ?_, by rw [g2, e2]; exact hg, fun k hk => ?_, fun j hj => ?_⟩
  · unfold sC; rw [gx 0 (by decide) (i9 _ (by decide)), e0 4 (by decide) (by decide), e0 5 (by decide) (by decide), e0 6 (by decide) (by decide), e0 7 (by decide) (by decide)]; exact hc
  · rw [gx 17 (by decide) (i9 _ (by decide)), g2, e2, ex 17 (by decide) (by decide) (by decide) (by decide) (by decide), ex 19 (by decide) (by decide) (by decide) (by decide) (by decide)]; exact hH p hp
  · rw [gx 5 (by decide) (i9 _ (by decide)), e0 2 (by decide) (by decide)]; exact hn
  · rw [r9, r10, r11, r12]
    by_cases hks : k = s
    · subst hks; rw [gi, pk_us, pk_us, pk_us, pk_us]; exact ⟨rfl, rfl, rfl, rfl⟩
    · rw [gx (ib k) (by unfold ib; omega) (by unfold ib; omega), pk_un hks, pk_un hks, pk_un hks, pk_un hks]; exact hO k (by omega)
  · have hjt : tb j + 20 ≤ 400 := by unfold tb; omega
    exact sT_cong (hT j hj) (fun k hk => ⟨gx _ (by unfold tb; omega) (i9 _ (by omega)), by rw [g2]⟩) (fun k hk => ⟨ex _ (by unfold tb; omega) (by unfold tb; omega) (by unfold tb; omega) (by unfold tb; omega) (by unfold tb; omega), by rw [e2]⟩)
theorem eOK3 {Y : Nat → ClassId} {n s cp cq k : Nat} {ad : Nat → Nat} {M : vM} : eOK (wK3 Y n s (s + 1) cp cq ad M) (mIk s ad) k := fun i _ y hy => by
  unfold mIk at hy
  by_cases hi : i < s
  · rw [if_pos hi] at hy
    cases hy
    obtain ⟨q, -, h2⟩ := pM_at (cell := cK n s cp cq ad Y) (cs := csK n (s + 1) cp) (ad := ad) (M := M) (mI_ib (Nat.lt_succ_of_lt hi)) (hI_ib _ _)
    exact ⟨q, 2, _, (RX2, TX2, 4), h2, rfl, ca_X2⟩
  · rw [if_neg hi] at hy; cases hy
def pP (Y : Nat → ClassId) (n s cq : Nat) (ad : Nat → Nat) (w : va_W) (G Q : vM) : Prop := ∃ (cp9 : Nat) (ad9 : Nat → Nat), w = wK Y n (s + 1) cp9 cq ad9 G ∧ Sm G Q n (s + 1) ∧ (s + 1 ≤ cp9 ∧ cp9 ≤ 2 * (s + 1) + 10) ∧ ∀ c, c ≠ 4 → c ≠ ib s → ad9 c = ad c
set_option maxHeartbeats 4000000 in
set_option maxRecDepth 100000 in
theorem c_X7_put {l : Launch} {D : va_G} {Y : Nat → ClassId} {zz : Nat → Nat} {n s cp cq us : Nat} {ad : Nat → Nat} {M : vM} {N : vM} (hS : Sm M N n s) (hU : IU N n us) (hst9 : l.stackTraces = false) (hcp : s ≤ cp ∧ cp ≤ 2 * s + 10) (hz4 : cp = 0 → ad 4 = zz 32) {op x y z : Int32}  : Cx l D Y zz yX7_put cX7_put 6 (some FieldType.int) 7 211 [.ref (ad (0)), .int op, .int x, .int y, .int z] (wK Y n s cp cq ad M) 2 (10 + ncap cp) (fun r w => ¬ N.1 0 1 = 1000 ∧ r = some (.int (fPut N op x y z).2) ∧ pP Y n s cq ad w (gAdd3 (gIns M s op x y z) s) (fPut N op x y z).1) (fun E w => w = wK Y n s cp cq ad M ∧ E = "java/lang/IllegalStateException" ∧ fPut N op x y z = (mI N 0 0 1, 0)) := by
  refine v_entryX (by decide +kernel) (Nat.le_of_ble_eq_true rfl) ?_
  intro K X R hR hnm hd hl hD hY hz
  subst hl hD hY hz
  refine v_sub (lv' := [(0, .ref (ad (0))), (1, .int op), (2, .int x), (3, .int y), (4, .int z)]) [0, 1, 2, 3, 4] rfl ?_
  have hn16 := hU.n16
  obtain ⟨s1, s2, s3⟩ := hS.2.2.2.2.1
  have hnl := ncap_le cp
  refine v_aload_n (pc' := 1) (i := 0) (j := 0) X dX7_put_0 rfl rfl rfl ?_
  refine fk_X7_10 (pc' := 4) X dX7_put_1 rfl ?_
  refine v_callV (pc' := 7) X (st := []) (c_size3 (M := M)) k_Jx4a65c_size_8abf5 w_ml_X7_59 w_im_Jx4a65c_size_8abf5 w_se_Jx4a65c_Jx4a65c_size_8abf5 rw_L3 (by rw [hR]; exact ⟨Nat.le_of_ble_eq_true rfl, Nat.le_of_ble_eq_true rfl⟩) rfl rfl (Nat.le_of_ble_eq_true rfl) dX7_put_4 rfl (⟨Nat.zero_le _, Nat.zero_le _⟩) ?_
  rintro _ _ ⟨rfl, rfl⟩
  rw [s1]
  refine v_istore (pc' := 9) (lv' := [(5, .int (nI s)), (0, .ref (ad (0))), (1, .int op), (2, .int x), (3, .int y), (4, .int z)]) X dX7_put_7 (by decide) rfl rfl ?_
  refine v_iload (pc' := 11) (j := 0) X dX7_put_9 rfl rfl ?_
  refine v_sipush (pc' := 14) (v := 1000) X dX7_put_11 (by decide) rfl ?_
  refine v_icmp_lt (pc' := 17) (tgt := 25) X dX7_put_14 (by decide) rfl (fun hc_14 => ?_) (fun hc_14 => ?_)
  -- taken 14
  · have hs9 : s < 1000 := by
      have hh := lt_of_nI (b := 1000) hc_14 (by omega) (by decide); omega
    refine v_aload_n (pc' := 26) (i := 0) (j := 1) X dX7_put_25 rfl rfl rfl ?_
    refine fk_X7_10 (pc' := 29) X dX7_put_26 rfl ?_
    refine v_new (pc' := 32) X inX2 tyX2 tyX2_ok w_cl_X7_66 w_is_X2 w_in_X2 (ci := 2) (fs := [.int 0, .int 0, .int 0, .int 0]) rfl (fun j hj => by rcases (show j = 0 ∨ j = 1 ∨ j = 2 ∨ j = 3 by omega) with rfl | rfl | rfl | rfl <;> rfl) (by rw [hR]; show 0 + 1 ≤ 2; decide) (by rw [hR]; show 0 + 4 ≤ 10 + ncap cp; omega) dX7_put_29 rfl (fun h0 => ?_)
    refine v_widen (m1 := 1) (m2 := 4) (Nat.le_of_ble_eq_true rfl) (Nat.le_of_ble_eq_true rfl) ?_
    refine v_dup (pc' := 33) X dX7_put_32 rfl rfl ?_
    refine v_iload_n (pc' := 34) (i := 1) (j := 2) X dX7_put_33 rfl rfl rfl ?_
    refine v_iload_n (pc' := 35) (i := 2) (j := 3) X dX7_put_34 rfl rfl rfl ?_
    refine v_iload_n (pc' := 36) (i := 3) (j := 4) X dX7_put_35 rfl rfl rfl ?_
    refine v_iload (pc' := 38) (j := 5) X dX7_put_36 rfl rfl ?_
    refine v_callIN (pc' := 41) X (st := [.ref h0, .ref (ad (3))]) (c_X2_init (ws0 := wK (kY K) n s cp cq ad M) (h0 := h0) (o9 := op) (x := x) (y := y) (z := z)) k_X2_init n_ml_X7_68 w_im_X2_init rfl (by rw [hR]; exact ⟨Nat.le_of_ble_eq_true rfl, Nat.le_of_ble_eq_true rfl⟩) rfl rfl (Nat.le_of_ble_eq_true rfl) dX7_put_38 rfl (by rw [hR]; show 1 + 0 ≤ 2 ∧ 4 + 0 ≤ 10 + ncap cp; omega) ?_
    rintro _ _ ⟨rfl, rfl⟩
    refine v_eqw (wI_eq hn16) ?_
    obtain ⟨ad9, had9⟩ : ∃ ad9, ad9 = adI ad s h0 := ⟨_, rfl⟩
    have hAn : ad9 (ib s) = h0 := by rw [had9]; exact if_pos rfl
    have hA : ∀ c, c ≠ ib s → ad9 c = ad c := fun c hc => by rw [had9]; exact if_neg hc
    rw [← had9]
    show V K 6 _ 1 4 41 [(5, .int (nI s)), (0, .ref (ad (0))), (1, .int op), (2, .int x), (3, .int y), (4, .int z)] [.ref h0, .ref (ad 3)]
    rw [← hAn, ← hA 3 (by unfold ib; omega), ← hA 0 (by unfold ib; omega)]
    refine v_atD (fun hD0 => ?_)
    have hM32 : (gIns M s op x y z).1 3 2 = nI s := by
      rw [show (gIns M s op x y z).1 3 = M.1 3 from mRI_n _ _ _ (by unfold ib; omega)]; exact s1
    obtain ⟨q0, g0, e0⟩ := pM_at (cell := cK n s cp cq ad9 (kY K)) (cs := csK n (s + 1) cp) (ad := ad9) (M := (gIns M s op x y z)) mK_3 (hK_3 _ _)
    obtain ⟨qx, gx, ex⟩ := pM_at (cell := cK n s cp cq ad9 (kY K)) (cs := csK n (s + 1) cp) (ad := ad9) (M := (gIns M s op x y z)) (mI_ib (Nat.lt_succ_self s)) (hI_ib _ _)
    have e0L : (wK3 (kY K) n s (s + 1) cp cq ad9 (gIns M s op x y z))[q0]? = some (ad9 3, lQ ((gIns M s op x y z).1 3 0) (ad9 4) (nI s)) := by rw [e0]; unfold GL; rw [hM32]
    have hxq : qx ≠ q0 := fun z9 => by
      rw [z9] at gx
      have h9 := Option.some.inj (gx.symm.trans g0); unfold ib at h9; omega
    have hSP := z_put2 (o := op) (x := x) (y := y) (z := z) hS hs9
    have hF2 : (fPut N op x y z).2 = nI s := by rw [put_eq s2 hs9]
    have hno : ¬ N.1 0 1 = 1000 := by rw [s2]; exact fun z9 => absurd (eq_of_nI (b := 1000) z9 (by omega) (by decide)) (by omega)
    rcases Nat.lt_or_ge s cp with hnq | hnq
    · have hcp0 : cp ≠ 0 := by omega
      obtain ⟨q1, g1, e1⟩ := pM_at (cell := cK n s cp cq ad9 (kY K)) (cs := csK n (s + 1) cp) (ad := ad9) (M := (gIns M s op x y z)) (mK_4 hcp0) (hK_4 _ _)
      refine v_callV (pc' := 44) X (st := []) (c_addF e0L e1 hnq (by omega) hxq ex rfl ca_X2) k_Jx4a65c_add_9ea2d w_ml_X7_55 w_im_Jx4a65c_add_9ea2d w_se_Jx4a65c_Jx4a65c_add_9ea2d ⟨q0, 0, _, _, e0, rfl, rfl⟩ (by rw [hR]; exact ⟨Nat.le_of_ble_eq_true rfl, Nat.le_of_ble_eq_true rfl⟩) rfl rfl (Nat.le_of_ble_eq_true rfl) dX7_put_41 rfl (by rw [hR]; show 1 + 0 ≤ 2 ∧ 4 + 0 ≤ 10 + ncap cp; omega) ?_
      rintro _ _ ⟨rfl, rfl⟩
      refine v_eqw (w3F hD0 hn16 hcp0 g0 g1) ?_
      refine v_pop (pc' := 45) X dX7_put_44 rfl rfl ?_
      refine v_iload (pc' := 47) (j := 0) X dX7_put_45 rfl rfl ?_
      refine x_ireturn X R (by decide) (by omega) dX7_put_47 ?_
      exact ⟨hno, by rw [hF2], cp, ad9, rfl, hSP, by omega, fun c _ h9 => hA c h9⟩
    · have hsc : cp = s := by omega
      subst hsc
      by_cases hcp0 : cp = 0
      · have h40 : ad9 4 = kZ K 32 := (hA 4 (by unfold ib; omega)).trans (hz4 hcp0)
        refine v_callV (pc' := 44) X (st := []) (c_addG e0L (Or.inl ⟨h40, hcp0⟩) (by omega) (F := mIk cp ad9) eOK3 hxq ex rfl ca_X2) k_Jx4a65c_add_9ea2d w_ml_X7_55 w_im_Jx4a65c_add_9ea2d w_se_Jx4a65c_Jx4a65c_add_9ea2d ⟨q0, 0, _, _, e0, rfl, rfl⟩ (by rw [hR]; exact ⟨Nat.le_of_ble_eq_true rfl, Nat.le_of_ble_eq_true rfl⟩) rfl rfl (Nat.le_of_ble_eq_true rfl) dX7_put_41 rfl (by rw [hR]; show 1 + 1 ≤ 2 ∧ 4 + ncap cp ≤ 10 + ncap cp; omega) ?_
        rintro _ _ ⟨rfl, b9, rfl⟩
        subst hcp0
        refine (v_w3Z hD0 hn16 g0 ?_)
        refine v_pop (pc' := 45) X dX7_put_44 rfl rfl ?_
        refine v_iload (pc' := 47) (j := 0) X dX7_put_45 rfl rfl ?_
        refine x_ireturn X R (by decide) (by show 4 + ncap 0 ≤ 10 + ncap 0; omega) dX7_put_47 ?_
        exact ⟨hno, by rw [hF2], 10, (fun c => if c = 4 then b9 else ad9 c), rfl, hSP, by omega, fun c h4 h9 => (if_neg h4).trans (hA c h9)⟩
      · obtain ⟨q1, g1, e1⟩ := pM_at (cell := cK n cp cp cq ad9 (kY K)) (cs := csK n (cp + 1) cp) (ad := ad9) (M := (gIns M cp op x y z)) (mK_4 hcp0) (hK_4 _ _)
        refine v_callV (pc' := 44) X (st := []) (c_addG e0L (Or.inr ⟨by omega, q1, e1⟩) (by omega) eOK3 hxq ex rfl ca_X2) k_Jx4a65c_add_9ea2d w_ml_X7_55 w_im_Jx4a65c_add_9ea2d w_se_Jx4a65c_Jx4a65c_add_9ea2d ⟨q0, 0, _, _, e0, rfl, rfl⟩ (by rw [hR]; exact ⟨Nat.le_of_ble_eq_true rfl, Nat.le_of_ble_eq_true rfl⟩) rfl rfl (Nat.le_of_ble_eq_true rfl) dX7_put_41 rfl (by rw [hR]; show 1 + 1 ≤ 2 ∧ 4 + ncap cp ≤ 10 + ncap cp; omega) ?_
        rintro _ _ ⟨rfl, b9, rfl⟩
        refine (v_mv (set_ne (fun z9 => by rw [z9] at g1; exact absurd (Option.some.inj (g1.symm.trans g0)) (by decide)) e1) ?_)
        refine v_eqw (w3G hD0 hn16 hcp0 g0 g1) ?_
        refine v_pop (pc' := 45) X dX7_put_44 rfl rfl ?_
        refine v_iload (pc' := 47) (j := 0) X dX7_put_45 rfl rfl ?_
        refine x_ireturn X R (by decide) (by show 4 + ncap cp ≤ 10 + ncap cp; omega) dX7_put_47 ?_
        exact ⟨hno, by rw [hF2], ncap cp, (fun c => if c = 4 then b9 else ad9 c), rfl, hSP, by omega, fun c h4 h9 => (if_neg h4).trans (hA c h9)⟩
  -- not taken 14
  · have hse : s = 1000 := by
      rcases Nat.lt_or_ge s 1000 with y9 | y9
      · exact absurd (nI_lt (b := 1000) y9 (by decide)) hc_14
      · omega
    have hF : fPut N op x y z = (mI N 0 0 1, 0) := if_pos (by rw [s2, hse]; rfl)
    exact x_throw X R hst9 hd (cls := "java/lang/IllegalStateException") (ik := 63) (ic := 65) (by decide +kernel) w_cl_X7_63 w_in_java_lang_IllegalStateException xw_IS_c xw_IS_g xw_IS_n xw_IS_o dX7_put_17 dX7_put_20 dX7_put_21 dX7_put_24 (by rw [hR]; exact Nat.le_of_ble_eq_true rfl) (by rw [hR]; exact Nat.le_of_ble_eq_true rfl) (by rw [hR]; show 0 + 1 ≤ 2; decide) (by rw [hR]; show 0 + 6 ≤ 10 + ncap cp; omega) (by decide) (by omega) ⟨rfl, rfl, hF⟩
