/-! CLASS AND REFERENCE: a collection -/
theorem fSlide_19 {M : vM} {n us : Nat} : (fSlide M n us).1 19 = slR (M.1 18) id (M.1 19) us := by
  unfold fSlide
  dsimp only
  rw [fMvs_1, mRL_1, mI_n _ _ _ _ (by decide), S4_19]
theorem fRoots_06 {M : vM} : ∀ {q : Nat}, (fRoots M q).1 0 6 = M.1 0 6 + 1
  | 0 => (congrFun (mRI_n _ _ _ (by decide)) 6).trans (mI_s _ _ _ _)
  | q + 1 => by
    show (mRI (mRL (fRoots M q) _ _) 18 _).1 0 6 = _
    rw [mRI_n _ _ _ (by decide)]; exact fRoots_06 (q := q)
theorem gColl_1 {G : vM} {n us c : Nat} (h0 : c ≠ 0) (h1 : c ≠ 1) (h17 : c ≠ 17) (h18 : c ≠ 18) (h20 : c ≠ 20) (h : ∀ q, q < n → c ≠ tb q + 15 ∧ c ≠ tb q + 16) : (gColl G n us).1 c = G.1 c := by
  unfold gColl gSlid
  rw [gFolls_1 h, mRL_1, gSlide_1 h1 h17 h20, gMarked_1 h0 ⟨h1, h18, h20⟩]
theorem gSlid_20 {G : vM} {n us : Nat} : (gSlid G n us).1 20 = ktR ((gMarked G n).1 20) us := by
  unfold gSlid; rw [mRL_1, gSlide_20]
theorem gColl_lo {G : vM} {n us c : Nat} (hc : c < 30) : (gColl G n us).1 c = (gSlide (gMarked G n) us).1 c := by
  unfold gColl gSlid
  rw [gFolls_1 (fun q _ => by unfold tb; omega), mRL_1]
theorem gColl_lo2 {G : vM} {n us c : Nat} (hc : c < 30) : (gColl G n us).2 c = (gSlid G n us).2 c := gFolls_2 (fun q _ => by unfold tb; omega)
set_option maxHeartbeats 4000000 in
theorem z_coll {G N : vM} {n s us : Nat} (h : Sm G N n s) (hU : IU N n us) : Sm (gColl G n us) (fGather N n us) n s := by
  have hu := hU.us
  have hH := (h.v hU).2
  have hmk : ∀ q, q < 200 → unm ((gMarked G n).1 20) q = fClose ((fRoots N n).1 18) (N.2 15) (N.2 16) us q := fun q hq => mark_eq h hU hq
  generalize hm0 : (gMarked G n).1 20 = m at hmk
  have N15 : (fRoots N n).2 15 = N.2 15 := fRoots_2 (fun k hk => by unfold tb; omega)
  have N16 : (fRoots N n).2 16 = N.2 16 := fRoots_2 (fun k hk => by unfold tb; omega)
  have N14 : (fRoots N n).2 14 = N.2 14 := fRoots_2 (fun k hk => by unfold tb; omega)
  have Nx : ∀ x, x ≠ 0 → x ≠ 18 → (fRoots N n).1 x = N.1 x := fun x h0 h1 => fRoots_1 h0 h1
  have N0 : ∀ k, k ≠ 6 → (fRoots N n).1 0 k = N.1 0 k := fun k hk => fRoots_10 hk
  have N06 : (fRoots N n).1 0 6 = N.1 0 6 + 1 := fRoots_06
  have hroots : ∀ p, (fRoots N n).1 18 p = 1 → fClose ((fRoots N n).1 18) (N.2 15) (N.2 16) us p = 1 := fun p hp => fClose_mono hp
  have hcell : ∀ p, p < us → fClose ((fRoots N n).1 18) (N.2 15) (N.2 16) us p = 1 → mkd (fClose ((fRoots N n).1 18) (N.2 15) (N.2 16) us) (N.2 15 p) ∧ mkd (fClose ((fRoots N n).1 18) (N.2 15) (N.2 16) us) (N.2 16 p) := fun p hp h1 => fClose_cl hp hu h1 ((hU.cell hp).1.ok hu) ((hU.cell hp).2.ok hu)
  have eG : fGather N n us = fSlide (mRI (fRoots N n) 18 (fClose ((fRoots N n).1 18) (N.2 15) (N.2 16) us)) n us := by
    unfold fGather; dsimp only; rw [N15, N16]
  have hf01 : ∀ p, p < 200 → fClose ((fRoots N n).1 18) (N.2 15) (N.2 16) us p ≠ 0 → fClose ((fRoots N n).1 18) (N.2 15) (N.2 16) us p = 1 := fun p hp h0 => by
    unfold fClose at h0 ⊢
    rw [if_pos hp] at h0 ⊢
    exact bP_t (bP_1.mp h0)
  have hgl : ∀ k, k < 8 → mkd ((fRoots N n).1 18) (N.2 14 k) := fun k hk => fRoots_gl hk
  generalize hf : fClose ((fRoots N n).1 18) (N.2 15) (N.2 16) us = f at *
  generalize hP : mRI (fRoots N n) 18 f = P at eG
  have p18 : P.1 18 = f := by rw [← hP]; exact mRI_r _ _ _
  have P2 : P.2 = (fRoots N n).2 := by rw [← hP]; rfl
  have Px : ∀ x, x ≠ 0 → x ≠ 18 → P.1 x = N.1 x := fun x h0 h1 => by rw [← hP, mRI_n _ _ _ h1]; exact Nx x h0 h1
  have P0 : P.1 0 = (fRoots N n).1 0 := by rw [← hP]; exact mRI_n _ _ _ (by decide)
  generalize ho : P.1 20 = old
  have ck : cntK (unm m) us = cntK f us := cntK_cong us (fun q hq => hmk q (by omega))
  have hle := cntK_le f us
  -- the class's rows
  have c17 : (gColl G n us).1 17 = slR f id (G.1 17) us := by
    rw [gColl_lo (by decide), gSlide_17, hm0, gMarked_1 (by decide) (by decide), slR_cong us (fun q hq => hmk q (by omega))]
  have c15 : (gColl G n us).1 1 5 = nI (cntK f us) := by
    rw [gColl_lo (by decide), gSlide_5, hm0, ck]
  have c0 : (gColl G n us).1 0 = upd (G.1 0) 7 (G.1 0 7 + 1) := by
    rw [gColl_lo (by decide), gSlide_1 (by decide) (by decide) (by decide), gMarked_0]
  have cx : ∀ c, c ≠ 0 → c ≠ 1 → c ≠ 17 → c ≠ 18 → c ≠ 20 → (∀ q, q < n → c ≠ tb q + 15 ∧ c ≠ tb q + 16) → (gColl G n us).1 c = G.1 c := fun c q0 q1 q2 q3 q4 q5 => gColl_1 q0 q1 q2 q3 q4 q5
  have d15 : (gColl G n us).2 15 = kvR (ktR m us) (slR f id (G.2 15) us) (cntK f us) := by
    rw [gColl_lo2 (by decide)]
    unfold gSlid
    rw [mRL_n _ _ _ (by decide), gSlide_15, hm0, gMarked_2, ck, slR_cong us (fun q hq => hmk q (by omega))]
  have d16 : (gColl G n us).2 16 = kvR (ktR m us) (slR f id (G.2 16) us) (cntK f us) := by
    rw [gColl_lo2 (by decide)]
    unfold gSlid
    rw [mRL_n _ _ _ (by decide), gSlide_16, hm0, gMarked_2, ck, slR_cong us (fun q hq => hmk q (by omega))]
  have d14 : (gColl G n us).2 14 = kvR (ktR m us) (N.2 14) 8 := by
    rw [gColl_lo2 (by decide)]
    unfold gSlid
    rw [mRL_r, gSlide_20, hm0, gSlide_2 (by decide) (by decide), gMarked_2, h.gl]
  -- the reference's rows
  have R2 : ∀ x, x ≠ 0 → x ≠ 17 → x ≠ 18 → x ≠ 19 → x ≠ 20 → (fGather N n us).1 x = N.1 x := fun x h0 h1 h2 h3 h4 => by rw [eG, fSlide_1 h0 h1 h3 h4, Px x h0 h2]
  have R0 : ∀ k, k ≠ 3 → k ≠ 6 → (fGather N n us).1 0 k = N.1 0 k := fun k h3 h6 => by rw [eG, fSlide_0 h3, P0, N0 k h6]
  have R06 : (fGather N n us).1 0 6 = N.1 0 6 + 1 := by rw [eG, fSlide_0 (by decide), P0, N06]
  have R03 : (fGather N n us).1 0 3 = nI (cntK f us) := by rw [eG, fSlide_3, p18]
  have R17 : (fGather N n us).1 17 = slR f id (N.1 17) us := by rw [eG, fSlide_pr, p18, Px 17 (by decide) (by decide)]
  have R19 : (fGather N n us).1 19 = slR f id (N.1 19) us := by rw [eG, fSlide_19, p18, Px 19 (by decide) (by decide)]
  have R15 : (fGather N n us).2 15 = slR f (mv (toR f old us)) (N.2 15) us := by rw [eG, fSlide_fs, p18, ho, P2, N15]
  have R16 : (fGather N n us).2 16 = slR f (mv (toR f old us)) (N.2 16) us := by rw [eG, fSlide_sn, p18, ho, P2, N16]
  have R14 : (fGather N n us).2 14 = mvR (toR f old us) (N.2 14) 8 := by rw [eG, fSlide_gl, p18, ho, P2, N14]
  -- a cell of the new heap
  have cell15 : ∀ x, x < cntK f us → ∃ p, p < us ∧ f p = 1 ∧ cntK f p = x ∧ (gColl G n us).2 15 x = mv (toR f old us) (N.2 15 p) := fun x hx => by
    obtain ⟨p, hp, hp0, rfl⟩ := cntK_on hx
    have h1 := hf01 p (by omega) hp0
    refine ⟨p, hp, h1, rfl, ?_⟩
    rw [d15]
    show (if cntK f p < cntK f us then kv (ktR m us) (slR f id (G.2 15) us (cntK f p)) else _) = _
    rw [if_pos hx, slR_at hp0 hp]
    obtain ⟨-, k2, -⟩ := hH p hp
    show kv (ktR m us) (G.2 15 p) = _
    rw [k2]
    exact kv_mv hu hmk (hU.cell hp).1 (hcell p hp h1).1
  have cell16 : ∀ x, x < cntK f us → ∃ p, p < us ∧ f p = 1 ∧ cntK f p = x ∧ (gColl G n us).2 16 x = (if N.1 17 p = 0 then (N.1 19 p).toInt64 else mv (toR f old us) (N.2 16 p)) := fun x hx => by
    obtain ⟨p, hp, hp0, rfl⟩ := cntK_on hx
    have h1 := hf01 p (by omega) hp0
    refine ⟨p, hp, h1, rfl, ?_⟩
    rw [d16]
    show (if cntK f p < cntK f us then kv (ktR m us) (slR f id (G.2 16) us (cntK f p)) else _) = _
    rw [if_pos hx, slR_at hp0 hp]
    obtain ⟨-, -, k3⟩ := hH p hp
    show kv (ktR m us) (G.2 16 p) = _
    rw [k3]
    by_cases h0 : N.1 17 p = 0
    · rw [if_pos h0, if_pos h0]; exact kv_i (isI_i _)
    · rw [if_neg h0, if_neg h0]; exact kv_mv hu hmk (hU.cell hp).2 (hcell p hp h1).2
  refine ⟨?_, ⟨cntK f us, R03, by omega, c15, fun x hx => ?_⟩, fun x hx => ?_, ?_, ?_, ?_, ?_, fun k hk => ?_, fun j hj => ?_⟩
  · obtain ⟨c1, c2, c3, c4⟩ := h.c
    unfold sC
    rw [R0 4 (by decide) (by decide), R0 5 (by decide) (by decide), R06, R0 7 (by decide) (by decide), c0, pk_un (by decide), pk_un (by decide), pk_us, pk_un (by decide), c3]
    exact ⟨c1, c2, rfl, c4⟩
  · refine ⟨?_, ?_, ?_⟩
    · obtain ⟨p, hp, hp0, rfl⟩ := cntK_on hx
      rw [c17, R17, slR_at hp0 hp, slR_at hp0 hp]
      exact (hH p hp).1
    · obtain ⟨p, hp, h1, rfl, hv⟩ := cell15 x hx
      rw [hv, R15, slR_at (by rw [h1]; decide) hp]
    · obtain ⟨p, hp, h1, rfl, hv⟩ := cell16 x hx
      rw [hv, R16, R17, R19, slR_at (by rw [h1]; decide) hp, slR_at (by rw [h1]; decide) hp, slR_at (by rw [h1]; decide) hp]
      rfl
  · refine ⟨?_, ?_⟩
    · by_cases hx2 : x < cntK f us
      · obtain ⟨p, hp, h1, rfl, hv⟩ := cell15 x hx2
        rw [hv]
        exact (mv_o (hU.cell hp).1 hu (hcell p hp h1).1).ok (by omega)
      · rw [d15]
        show ok1 (if x < cntK f us then _ else slR f id (G.2 15) us x)
        rw [if_neg hx2, slR_out us (by omega)]
        exact (h.2.2.1 x hx).1
    · by_cases hx2 : x < cntK f us
      · obtain ⟨p, hp, h1, rfl, hv⟩ := cell16 x hx2
        rw [hv]
        split
        · exact Or.inl (isI_i _)
        · exact (mv_o (hU.cell hp).2 hu (hcell p hp h1).2).ok (by omega)
      · rw [d16]
        show ok1 (if x < cntK f us then _ else slR f id (G.2 16) us x)
        rw [if_neg hx2, slR_out us (by omega)]
        exact (h.2.2.1 x hx).2
  · obtain ⟨pd, od, p1, p2, p3, p4, p5, p6⟩ := h.2.2.2.1
    have a2 : (gColl G n us).1 2 = G.1 2 := cx 2 (by decide) (by decide) (by decide) (by decide) (by decide) (fun q _ => by unfold tb; omega)
    have a21 : (gColl G n us).1 21 = G.1 21 := cx 21 (by decide) (by decide) (by decide) (by decide) (by decide) (fun q _ => by unfold tb; omega)
    exact ⟨pd, od, by rw [a2]; exact p1, p2, by rw [a2]; exact p3, p4, by rw [R0 8 (by decide) (by decide)]; exact p5, fun k hk => by rw [a21, R2 21 (by decide) (by decide) (by decide) (by decide) (by decide)]; exact p6 k hk⟩
  · obtain ⟨s1, s2, s3⟩ := h.2.2.2.2.1
    rw [cx 3 (by decide) (by decide) (by decide) (by decide) (by decide) (fun q _ => by unfold tb; omega), R0 1 (by decide) (by decide)]
    exact ⟨s1, s2, s3⟩
  · obtain ⟨s1, s2, s3⟩ := h.2.2.2.2.2.1
    rw [cx 5 (by decide) (by decide) (by decide) (by decide) (by decide) (fun q _ => by unfold tb; omega), R0 2 (by decide) (by decide)]
    exact ⟨s1, s2, s3⟩
  · rw [d14, R14]
    exact row_mv hu hmk (fun k hk => hU.glo hk) (fun k hk => (hgl k hk).mono hroots)
  · have n16 := hU.n16
    rw [cx (ib k) (by unfold ib; omega) (by unfold ib; omega) (by unfold ib; omega) (by unfold ib; omega) (by unfold ib; omega) (fun q hq => by unfold ib tb; omega), R2 9 (by decide) (by decide) (by decide) (by decide) (by decide), R2 10 (by decide) (by decide) (by decide) (by decide) (by decide), R2 11 (by decide) (by decide) (by decide) (by decide) (by decide), R2 12 (by decide) (by decide) (by decide) (by decide) (by decide)]
    exact h.2.2.2.2.2.2.2.1 k hk
  · obtain ⟨ca, e, r, w, hI⟩ := hU.at hj
    obtain ⟨q3, hca, h4, he, h5, hr, h6, hw, hso, huq, hct, hctm, hwt, hwtm, hwt0, hpk, hs9, hem, hov, hrg, hsv, hrd, hwr, hva⟩ := id hI
    obtain ⟨⟨r1, r2, r3, r4, r5, r6, r7, r8, r9, r10, r11, r12, r13, r14, r15, r16, r17⟩, h12, hA, hc1⟩ := h.T hj
    obtain ⟨m8, m9, m15, m16, m17⟩ := fRoots_mark (M := N) hj
    rw [h4, nn_nI (by omega)] at m9
    rw [h5, nn_nI (by omega)] at m15
    rw [h6, nn_nI (by omega)] at m16 m17
    obtain ⟨g8, g9, g15, g16, g17⟩ := gFolls_at (M := G) (N := gSlid G n us) hj
    rw [gSlid_20, hm0, gSlid_b2, r13] at g8
    rw [gSlid_20, hm0, gSlid_b2, r14, h12, h4, nn_nI (by omega)] at g9
    rw [gSlid_20, hm0, gSlid_b, r15, r5, h5, nn_nI (by omega)] at g15
    rw [gSlid_20, hm0, gSlid_b, r16, r6, h6, nn_nI (by omega)] at g16
    rw [gSlid_20, hm0, gSlid_b2, r17, r6, h6, nn_nI (by omega)] at g17
    have ct : ∀ k, k < 20 → k ≠ 15 → k ≠ 16 → (gColl G n us).1 (tb j + k) = G.1 (tb j + k) := fun k k1 k2 k3 => cx _ (by unfold tb; omega) (by unfold tb; omega) (by unfold tb; omega) (by unfold tb; omega) (by unfold tb; omega) (fun q _ => by unfold tb; omega)
    have ct0 : (gColl G n us).1 (tb j) = G.1 (tb j) := ct 0 (by decide) (by decide) (by decide)
    have rt : ∀ k, (fGather N n us).1 (tb j + k) = N.1 (tb j + k) := fun k => R2 _ (by unfold tb; omega) (by unfold tb; omega) (by unfold tb; omega) (by unfold tb; omega) (by unfold tb; omega)
    have rt0 : (fGather N n us).1 (tb j) = N.1 (tb j) := rt 0
    have s8 : (fGather N n us).2 (tb j + 8) = mvR (toR f old us) (rzR (N.1 (tb j) 0) (N.2 (tb j + 8)) 16) 16 := by
      rw [eG, fSlide_8 hj, p18, ho, P2, fRoots_r8, if_pos hj]
    have s9 : (fGather N n us).2 (tb j + 9) = mvR (toR f old us) (N.2 (tb j + 9)) (16 * e) := by
      rw [eG, fSlide_9 hj, p18, ho, P2, fRoots_2 (fun k hk => by unfold tb; omega), Px _ z00.symm (by unfold tb; omega), h4, nn_nI (by omega)]
    have s15 : (fGather N n us).2 (tb j + 15) = mvR (toR f old us) (N.2 (tb j + 15)) r := by
      rw [eG, fSlide_15 hj, p18, ho, P2, fRoots_2 (fun k hk => by unfold tb; omega), Px _ z00.symm (by unfold tb; omega), h5, nn_nI (by omega)]
    have s16 : (fGather N n us).2 (tb j + 16) = mvR (toR f old us) (N.2 (tb j + 16)) w := by
      rw [eG, fSlide_16 hj, p18, ho, P2, fRoots_2 (fun k hk => by unfold tb; omega), Px _ z00.symm (by unfold tb; omega), h6, nn_nI (by omega)]
    have s17 : (fGather N n us).2 (tb j + 17) = mvR (toR f old us) (N.2 (tb j + 17)) w := by
      rw [eG, fSlide_17 hj, p18, ho, P2, fRoots_2 (fun k hk => by unfold tb; omega), Px _ z00.symm (by unfold tb; omega), h6, nn_nI (by omega)]
    unfold sT sR sA
    rw [ct0, ct 18 (by decide) (by decide) (by decide), ct 10 (by decide) (by decide) (by decide), ct 11 (by decide) (by decide) (by decide), ct 12 (by decide) (by decide) (by decide), ct 13 (by decide) (by decide) (by decide), ct 14 (by decide) (by decide) (by decide), rt0, rt 10, rt 11, rt 12, rt 13, rt 14, s8, s9, s15, s16, s17, show (gColl G n us).2 (tb j + 8) = _ from g8, show (gColl G n us).2 (tb j + 9) = _ from g9, show (gColl G n us).1 (tb j + 15) = _ from g15, show (gColl G n us).1 (tb j + 16) = _ from g16, show (gColl G n us).2 (tb j + 17) = _ from g17]
    refine ⟨⟨r1, r2, r3, r4, r5, r6, r7, r8, r9, r10, r11, r12, ?_, ?_, ?_, ?_, ?_⟩, h12, hA, hc1⟩
    · exact regs_mv hu hmk r1 hrg (fun k hk => (m8 k hk).mono hroots)
    · exact row_mv hu hmk hsv (fun k hk => (m9 k hk).mono hroots)
    · exact places_mv hu hmk hrd (fun k hk => (m15 k hk).mono hroots)
    · exact places_mv hu hmk hwr (fun k hk => (m16 k hk).mono hroots)
    · exact row_mv hu hmk hva (fun k hk => (m17 k hk).mono hroots)
