/-! CLASS AND REFERENCE: small instructions keep the relation -/
theorem z00 {i : Nat} : 0 ≠ tb i := by unfold tb; omega
theorem z0k {i k : Nat} : 0 ≠ tb i + k := by unfold tb; omega
theorem gBack_0 {G : vM} {i k : Nat} : (gBack G (tb i) k).1 0 = G.1 0 := by
  unfold gBack; rw [gDrop_n z00, mI_n _ _ _ _ z0k, gRest_n z00]
theorem gAgain_0 {G : vM} {i k : Nat} {c : Int32} : (gAgain G (tb i) k c).1 0 = G.1 0 := gAgain_n z00 z0k
theorem gFail_0 {G : vM} {i : Nat} {w : Int32} : (gFail G (tb i) w).1 0 = G.1 0 := by
  unfold gFail; rw [gClear_n z0k, gDrop_n z00, mI_n _ _ _ _ z00, mI_n _ _ _ _ z00]
theorem gOpen_0 {G : vM} {i e : Nat} {kd al : Int32} : (gOpen G (tb i) e kd al).1 0 = G.1 0 := gOpen_n z00 z0k z0k z0k z0k
theorem fAgain_0 {N : vM} {i k : Nat} {c : Int32} : (fAgain N (tb i) k c).1 0 = N.1 0 := by simp [fAgain, fRestore, mI_n, z00, z0k, mRL_1]
theorem fRoll_0 {N : vM} {i k : Nat} : (fRollBack N (tb i) k).1 0 = N.1 0 := by simp [fRollBack, fRestore, mI_n, z00, z0k, mRL_1]
theorem fEnd_0 {N : vM} {i : Nat} {a c : Int32} : (fEnd N (tb i) a c).1 0 = N.1 0 := by simp [fEnd, mI_n, z00]
theorem fNest_0 {N : vM} {i e : Nat} {a c : Int32} : (fNest N (tb i) e a c).1 0 = N.1 0 := by simp [fNest, mI_n, z00, z0k, mRL_1]
section ZOPS
variable {G N : vM} {n s i : Nat}
theorem z_pc {v : Int32} (h : Sm G N n s) (hi : i < n) : Sm (mI G (tb i) 10 v) (mI N (tb i) 2 v) n s := h.t hi (sameK_mI ⟨by omega, by omega⟩) (sm_ob2 tb22) (sC_o h.c (by simp [mI_n, mL_1, mRL_1, z00, z0k]) (by simp [mI_n, mL_1, mRL_1, z00, z0k])) (sT_pc (h.T hi))
theorem z_reg {j : Nat} {v : Int64} (h : Sm G N n s) (hi : i < n) : Sm (mL G (tb i + 8) j v) (mL N (tb i + 8) j v) n s := h.t hi (sameK_mL ⟨by omega, by omega⟩) (sm_reg tb22) (sC_o h.c (rfl) (rfl)) (sT_reg (h.T hi))
theorem z_stop (h : Sm G N n s) (hi : i < n) (h1 : N.1 (tb i) 0 = 1) (h4 : N.1 (tb i) 4 = 0) (q5 : N.1 (tb i) 5 = 0) (q6 : N.1 (tb i) 6 = 0) : Sm (mI G (tb i) 8 3) (fEnd N (tb i) 3 0) n s := h.t hi (sameK_mI ⟨by omega, by omega⟩) (sm_end tb22) (sC_o h.c (by simp [mI_n, mL_1, mRL_1, z00, z0k]) (fEnd_0)) (sT_stop (h.T hi) h1 h4 q5 q6)
theorem z_fail {e : Nat} {w : Int32} (h : Sm G N n s) (hi : i < n) (h4 : N.1 (tb i) 4 = nI e) (he : e ≤ 24) : Sm (gFail G (tb i) w) (fEnd N (tb i) 4 w) n s := h.t hi (sameK_fail) (sm_end tb22) (sC_o h.c (gFail_0) (fEnd_0)) (sT_end (h.T hi).1 (sA_13 (h.T hi).2.2.1 (by rw [h4, nn_nI (by omega)]; exact he)))
theorem z_enter {ca : Nat} {x v : Int32} (h : Sm G N n s) (hi : i < n) (hv : nI (ca + 1) = v) : Sm (gEnter G (tb i) ca x) (mI (mI (mI N (tb i + 10) ca (N.1 (tb i) 2)) (tb i) 3 v) (tb i) 2 x) n s := h.t hi (((sameK_mI ⟨by omega, by omega⟩).trans (sameK_mI ⟨by omega, by omega⟩)).trans (sameK_mI ⟨by omega, by omega⟩)) (((sm_c10 tb22).trans (sameT_mI ⟨by omega, by omega⟩ tb22)).trans (sm_ob2 tb22)) (sC_o h.c (by simp [gEnter, mI_n, z00, z0k]) (by simp [mI_n, mL_1, mRL_1, z00, z0k])) (sT_enter (h.T hi) hv)
theorem z_leave {ca : Nat} {v : Int32} (h : Sm G N n s) (hi : i < n) (hv : nI (ca - 1) = v) : Sm (gLeave G (tb i) ca) (mI (mI N (tb i) 3 v) (tb i) 2 (N.1 (tb i + 10) (ca - 1))) n s := h.t hi ((sameK_mI ⟨by omega, by omega⟩).trans (sameK_mI ⟨by omega, by omega⟩)) ((sameT_mI ⟨by omega, by omega⟩ tb22).trans (sm_ob2 tb22)) (sC_o h.c (by simp [gLeave, mI_n, z00, z0k]) (by simp [mI_n, mL_1, mRL_1, z00, z0k])) (sT_leave (h.T hi) hv)
theorem z_open {e : Nat} {kd al : Int32} (h : Sm G N n s) (hi : i < n) (h4 : N.1 (tb i) 4 = nI e) (he : e < 24) (hk : kd = 0 → ∀ k, k < e → N.1 (tb i + 11) k ≠ 0) : Sm (gOpen G (tb i) e kd al) (fNest N (tb i) e kd al) n s := h.t hi (sameK_open) (sm_nest tb22) (sC_o h.c (gOpen_0) (fNest_0)) (sT_open (h.T hi) h4 he hk)
theorem z_begin {c : Int32} (h : Sm G N n s) (hi : i < n) (q5 : N.1 (tb i) 5 = 0) (q6 : N.1 (tb i) 6 = 0) : Sm (gBegin G (tb i) c) (mI N (tb i) 7 c) n s := h.t hi (sameK_begin) (sm_ob7 tb22) (sC_o h.c (gBegin_n z0k) (by simp [mI_n, mL_1, mRL_1, z00, z0k])) (sT_begin (h.T hi) q5 q6)
theorem z_addR {r : Nat} {v : Int64} {x : Int32} (h : Sm G N n s) (hi : i < n) : Sm (mI (mI G (tb i + 15) r v.toInt32) (tb i + 18) 3 x) (mI (mL N (tb i + 15) r v) (tb i) 5 x) n s := h.t hi ((sameK_mI ⟨by omega, by omega⟩).trans (sameK_mI ⟨by omega, by omega⟩)) (sm_read tb22) (sC_o h.c (by simp [mI_n, mL_1, mRL_1, z00, z0k]) (by simp [mI_n, mL_1, mRL_1, z00, z0k])) (sT_addR (h.T hi))
theorem z_addW {w : Nat} {v y : Int64} {x : Int32} (h : Sm G N n s) (hi : i < n) : Sm (mI (mL (mI G (tb i + 16) w v.toInt32) (tb i + 17) w y) (tb i + 18) 4 x) (mI (mL (mL N (tb i + 16) w v) (tb i + 17) w y) (tb i) 6 x) n s := h.t hi (((sameK_mI ⟨by omega, by omega⟩).trans (sameK_mL ⟨by omega, by omega⟩)).trans (sameK_mI ⟨by omega, by omega⟩)) (sm_write tb22) (sC_o h.c (by simp [mI_n, mL_1, mRL_1, z00, z0k]) (by simp [mI_n, mL_1, mRL_1, z00, z0k])) (sT_addW (h.T hi))
theorem z_park (h : Sm G N n s) (hi : i < n) (h1 : N.1 (tb i) 0 = 1) : Sm (mI G (tb i) 8 2) (mI N (tb i) 0 2) n s := h.t hi (sameK_mI ⟨by omega, by omega⟩) (sm_park tb22) (sC_o h.c (by simp [mI_n, mL_1, mRL_1, z00, z0k]) (by simp [mI_n, mL_1, mRL_1, z00, z0k])) (sT_park (h.T hi) h1)
theorem z_again {E k : Nat} {c : Int32} (h : Sm G N n s) (hi : i < n) (h4 : N.1 (tb i) 4 = nI E) (he : E ≤ 24) (huq : ∀ j q, j < E → q < E → N.1 (tb i + 11) j = 0 → N.1 (tb i + 11) q = 0 → j = q) (hk : k < E) (h1 : N.1 (tb i) 0 = 1) : Sm (gAgain G (tb i) k c) (fAgain N (tb i) k c) n s := h.t hi (sameK_again) (sm_again tb22) (sC_o h.c (gAgain_0) (fAgain_0)) (sT_again (h.T hi).1 (by have q := (h.T hi).2.2.1; rwa [h4, nn_nI (by omega)] at q) huq hk he h1 ((h.T hi).2.2.2 (Or.inl h1)))
theorem z_wake {E k : Nat} {c : Int32} (h : Sm G N n s) (hi : i < n) (h4 : N.1 (tb i) 4 = nI E) (he : E ≤ 24) (huq : ∀ j q, j < E → q < E → N.1 (tb i + 11) j = 0 → N.1 (tb i + 11) q = 0 → j = q) (hk : k < E) (h2 : N.1 (tb i) 0 = 2) : Sm (gAgain (mI G (tb i) 8 1) (tb i) k c) (fAgain N (tb i) k c) n s := h.t hi ((sameK_mI ⟨by omega, by omega⟩).trans sameK_again) (sm_again tb22) (sC_o h.c (gAgain_0.trans (mI_n _ _ _ _ z00)) (fAgain_0)) (sT_wake (h.T hi).1 (by have q := (h.T hi).2.2.1; rwa [h4, nn_nI (by omega)] at q) huq hk he ((h.T hi).2.2.2 (Or.inr h2)))
theorem z_back {E k : Nat} (h : Sm G N n s) (hi : i < n) (h4 : N.1 (tb i) 4 = nI E) (he : E ≤ 24) (huq : ∀ j q, j < E → q < E → N.1 (tb i + 11) j = 0 → N.1 (tb i + 11) q = 0 → j = q) (hk : k ≤ E) : Sm (gBack G (tb i) k) (fRollBack N (tb i) k) n s := h.t hi (sameK_back) (sm_roll tb22) (sC_o h.c (gBack_0) (fRoll_0)) (sT_roll (h.T hi).1 (by have q := (h.T hi).2.2.1; rwa [h4, nn_nI (by omega)] at q) huq hk he (h.T hi).2.2.2)
theorem z_drop {E k : Nat} {v : Int32} (h : Sm G N n s) (hi : i < n) (h4 : N.1 (tb i) 4 = nI E) (he : E ≤ 24) (huq : ∀ j q, j < E → q < E → N.1 (tb i + 11) j = 0 → N.1 (tb i + 11) q = 0 → j = q) (hk : k ≤ E) (hv : v = nI k) : Sm (gDrop G (tb i) (nI k)) (mI N (tb i) 4 v) n s := h.t hi (sameK_drop) (sm_pop tb22) (sC_o h.c (gDrop_n z00) (by simp [mI_n, mL_1, mRL_1, z00, z0k])) (sT_drop (h.T hi) h4 huq hk he hv)
theorem z_clr (h : Sm G N n s) (hi : i < n) : Sm (gClear G (tb i)) (mI (mI N (tb i) 5 0) (tb i) 6 0) n s := h.t hi (sameK_clear) ((sameT_mI ⟨by omega, by omega⟩ tb22).trans (sameT_mI ⟨by omega, by omega⟩ tb22)) (sC_o h.c (gClear_n z0k) (by simp [mI_n, mL_1, mRL_1, z00, z0k])) (sT_clr (h.T hi))
theorem z_cnt {a c : Nat} {v w : Int32} (h : Sm G N n s) (hi : i < n) (hc : c ≠ 1 ∧ c ≠ 2 ∧ c ≠ 3 ∧ c ≠ 8) (hs : sC (mI G 0 a v) (mI N 0 c w)) : Sm (mI G 0 a v) (mI N 0 c w) n s :=
  h.t hi sameK_c (sameT.cnt hc) hs (sT_cong (h.T hi) (fun k _ => ⟨mI_n _ _ _ _ z0k.symm, rfl⟩) (fun k _ => ⟨mI_n _ _ _ _ z0k.symm, rfl⟩))
theorem z_steps (h : Sm G N n s) (hi : i < n) : Sm (mI G 0 8 (G.1 0 8 + 1)) (mI N 0 7 (N.1 0 7 + 1)) n s := z_cnt h hi (by decide) (by
  obtain ⟨c1, c2, c3, c4⟩ := h.c
  simp [sC, mI, mL, mRI, mRL, va_up, upd, vp_updL, c1, c2, c3, c4])
theorem z_abts (h : Sm G N n s) (hi : i < n) : Sm (mI G 0 6 (G.1 0 6 + 1)) (mI N 0 5 (N.1 0 5 + 1)) n s := z_cnt h hi (by decide) (by
  obtain ⟨c1, c2, c3, c4⟩ := h.c
  simp [sC, mI, mL, mRI, mRL, va_up, upd, vp_updL, c1, c2, c3, c4])
theorem z_clock (h : Sm G N n s) (hi : i < n) : Sm (mI G 0 5 (G.1 0 5 + 1)) (mI N 0 4 (N.1 0 4 + 1)) n s := z_cnt h hi (by decide) (by
  obtain ⟨c1, c2, c3, c4⟩ := h.c
  simp [sC, mI, mL, mRI, mRL, va_up, upd, vp_updL, c1, c2, c3, c4])
theorem z_abort {E k : Nat} (h : Sm G N n s) (hi : i < n) (h4 : N.1 (tb i) 4 = nI E) (he : E ≤ 24) (huq : ∀ j q, j < E → q < E → N.1 (tb i + 11) j = 0 → N.1 (tb i + 11) q = 0 → j = q) (hk : k < E) (h1 : N.1 (tb i) 0 = 1) : Sm (gAbort G (tb i) k) (fAgain (mI N 0 5 (N.1 0 5 + 1)) (tb i) k (N.1 0 4)) n s := by
  unfold gAbort
  rw [h.c.1]
  have h9 := z_abts h hi
  have e1 : ∀ c, c ≠ 0 → (mI N 0 5 (N.1 0 5 + 1)).1 c = N.1 c := fun c hc => mI_n _ _ _ _ hc
  exact z_again h9 hi (by rw [e1 _ z00.symm]; exact h4) he (by rw [e1 _ z0k.symm]; exact huq) hk (by rw [e1 _ z00.symm]; exact h1)
/-- a global -/
theorem z_put {k : Nat} {v : Int64} (h : Sm G N n s) : Sm (mL G 14 k v) (mL N 14 k v) n s := by
  obtain ⟨hc, ⟨us, h3, hu, h5, hH⟩, hok, hp, hs, hn, hg, hO, hT⟩ := h
  refine ⟨hc, ⟨us, h3, hu, h5, fun p hp => ?_⟩, fun p hp => ?_, hp, hs, hn, ?_, hO, fun j hj => ?_⟩
  · rw [mL_n _ _ _ _ (by decide), mL_n _ _ _ _ (by decide), mL_n _ _ _ _ (by decide), mL_n _ _ _ _ (by decide)]; exact hH p hp
  · rw [mL_n _ _ _ _ (by decide), mL_n _ _ _ _ (by decide)]; exact hok p hp
  · rw [mL_r, mL_r, hg]
  · exact sT_cong (hT j hj) (fun k _ => ⟨rfl, mL_n _ _ _ _ (by unfold tb; omega)⟩) (fun k _ => ⟨rfl, mL_n _ _ _ _ (by unfold tb; omega)⟩)
end ZOPS
theorem ring_ne {od k pd : Nat} (h1 : k < pd) (h2 : pd < 200) : (od + k) % 200 ≠ (od + pd) % 200 := by omega
/-- a number is printed -/
theorem z_print {G N : vM} {n s pd od : Nat} {v : Int32} (h : Sm G N n s) (hp : sP G N pd od) : Sm (gPrint G od pd v) (fPrint N v) n s := by
  obtain ⟨hc, ⟨us, h3, hu, h5, hH⟩, hok, -, ⟨s1, s2, s3⟩, ⟨n1, n2, n3⟩, hg, hO, hT⟩ := h
  obtain ⟨p1, p2, p3, p4, p5, p6⟩ := hp
  have key : ∀ (G' N' : vM), (∀ c, c ≠ 2 → c ≠ 21 → G'.1 c = G.1 c) → G'.2 = G.2 → (∀ c, c ≠ 0 → c ≠ 21 → N'.1 c = N.1 c) → (∀ k, k ≠ 8 → N'.1 0 k = N.1 0 k) → N'.2 = N.2 → (∃ pd od, sP G' N' pd od) → Sm G' N' n s := by
    intro G' N' a1 a2 a3 a4 a5 a6
    refine ⟨?_, ⟨us, by rw [a4 3 (by decide)]; exact h3, hu, by rw [a1 1 (by decide) (by decide)]; exact h5, fun p hp => ?_⟩, fun p hp => ?_, a6, ⟨by rw [a1 3 (by decide) (by decide)]; exact s1, by rw [a4 1 (by decide)]; exact s2, s3⟩, ⟨by rw [a1 5 (by decide) (by decide)]; exact n1, by rw [a4 2 (by decide)]; exact n2, n3⟩, by rw [a2, a5]; exact hg, fun k hk => ?_, fun j hj => ?_⟩
    · unfold sC; rw [a1 0 (by decide) (by decide), a4 4 (by decide), a4 5 (by decide), a4 6 (by decide), a4 7 (by decide)]; exact hc
    · rw [a1 17 (by decide) (by decide), a2, a3 17 (by decide) (by decide), a5, a3 19 (by decide) (by decide)]; exact hH p hp
    · rw [a2]; exact hok p hp
    · rw [a1 (ib k) (by unfold ib; omega) (by unfold ib; omega), a3 9 (by decide) (by decide), a3 10 (by decide) (by decide), a3 11 (by decide) (by decide), a3 12 (by decide) (by decide)]; exact hO k hk
    · exact sT_cong (hT j hj) (fun k _ => ⟨a1 _ (by unfold tb; omega) (by unfold tb; omega), by rw [a2]⟩) (fun k _ => ⟨a3 _ (by unfold tb; omega) (by unfold tb; omega), by rw [a5]⟩)
  by_cases hpd : pd < 200
  · have e1 : gPrint G od pd v = mI (mI G 21 ((od + pd) % 200) v) 2 2 (nI (pd + 1)) := if_pos (nI_lt (b := 200) hpd (by decide))
    have e2 : fPrint N v = mI (mI N 21 pd v) 0 8 (nI (pd + 1)) := by
      unfold fPrint
      rw [p5, if_neg (show ¬ nI pd = 200 from fun z9 => absurd (eq_of_nI (b := 200) z9 (by omega) (by decide)) (by omega)), nn_nI (by omega)]
      exact congrArg (mI (mI N 21 pd v) 0 8) (nI_add pd 1)
    rw [e1, e2]
    refine key _ _ (fun c q1 q2 => by rw [mI_n _ _ _ _ q1, mI_n _ _ _ _ q2]) rfl (fun c q1 q2 => by rw [mI_n _ _ _ _ q1, mI_n _ _ _ _ q2]) (fun k hk => by rw [mI_o _ _ _ _ hk, mI_n _ _ _ _ (by decide)]) rfl ⟨pd + 1, od, ?_, p2, mI_s _ _ _ _, by omega, mI_s _ _ _ _, fun k hk => ?_⟩
    · rw [mI_o _ _ _ _ (by decide), mI_n _ _ _ _ (by decide)]; exact p1
    · have r1 : (mI (mI G 21 ((od + pd) % 200) v) 2 2 (nI (pd + 1))).1 21 = upd (G.1 21) ((od + pd) % 200) v := (mI_n _ _ _ _ (by decide)).trans (mI_r _ _ _ _)
      have r2 : (mI (mI N 21 pd v) 0 8 (nI (pd + 1))).1 21 = upd (N.1 21) pd v := (mI_n _ _ _ _ (by decide)).trans (mI_r _ _ _ _)
      rw [r1, r2]
      by_cases hkp : k = pd
      · rw [hkp, pk_us, pk_us]
      · rw [pk_un (ring_ne (by omega) hpd), pk_un hkp]; exact p6 k (by omega)
  · have hp2 : pd = 200 := by omega
    subst hp2
    have e1 : gPrint G od 200 v = mI (mI G 21 ((od + 200) % 200) v) 2 1 (nI ((od + 1) % 200)) := if_neg (by decide)
    have e2 : fPrint N v = mI (mI (mI (mRI N 21 (fun k => if k < 199 then N.1 21 (k + 1) else N.1 21 k)) 0 8 199) 21 199 v) 0 8 200 := by
      unfold fPrint
      rw [p5]; exact if_pos rfl
    rw [e1, e2]
    refine key _ _ (fun c q1 q2 => by rw [mI_n _ _ _ _ q1, mI_n _ _ _ _ q2]) rfl (fun c q1 q2 => by rw [mI_n _ _ _ _ q1, mI_n _ _ _ _ q2, mI_n _ _ _ _ q1, mRI_n _ _ _ q2]) (fun k hk => by rw [mI_o _ _ _ _ hk, mI_n _ _ _ _ (by decide), mI_o _ _ _ _ hk, mRI_n _ _ _ (by decide)]) rfl ⟨200, (od + 1) % 200, mI_s _ _ _ _, by omega, ?_, by omega, mI_s _ _ _ _, fun k hk => ?_⟩
    · rw [mI_o _ _ _ _ (by decide), mI_n _ _ _ _ (by decide)]; exact p3
    · have r1 : (mI (mI G 21 ((od + 200) % 200) v) 2 1 (nI ((od + 1) % 200))).1 21 = upd (G.1 21) ((od + 200) % 200) v := (mI_n _ _ _ _ (by decide)).trans (mI_r _ _ _ _)
      have r2 : (mI (mI (mI (mRI N 21 (fun k => if k < 199 then N.1 21 (k + 1) else N.1 21 k)) 0 8 199) 21 199 v) 0 8 200).1 21 = upd (fun k => if k < 199 then N.1 21 (k + 1) else N.1 21 k) 199 v := by
        rw [mI_n _ _ _ _ (by decide), mI_r, mI_n _ _ _ _ (by decide), mRI_r]
      rw [r1, r2]
      by_cases hk9 : k = 199
      · rw [hk9, pk_us, show ((od + 1) % 200 + 199) % 200 = (od + 200) % 200 by omega, pk_us]
      · rw [pk_un (by omega), pk_un hk9, if_pos (by omega), ← p6 (k + 1) (by omega), show ((od + 1) % 200 + k) % 200 = (od + (k + 1)) % 200 by omega]
