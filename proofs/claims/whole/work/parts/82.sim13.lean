/-! CLASS AND REFERENCE: one instruction -/
theorem mI_self {M : vM} {c k : Nat} : mI M c k (M.1 c k) = M := by
  refine Prod.ext (funext fun x => ?_) rfl
  by_cases h : x = c
  · subst h; rw [mI_r]; funext q
    by_cases hq : q = k
    · subst hq; exact pk_us
    · exact pk_un hq
  · rw [mI_n _ _ _ _ h]
theorem mI_com2 {M : vM} {c k q : Nat} {v w : Int32} (h : k ≠ q) : mI (mI M c k v) c q w = mI (mI M c q w) c k v := by
  refine Prod.ext (funext fun x => ?_) rfl
  by_cases hx : x = c
  · subst hx
    funext p
    by_cases h1 : p = q
    · subst h1; rw [mI_s, mI_o _ _ _ _ (Ne.symm h), mI_s]
    · by_cases h2 : p = k
      · subst h2; rw [mI_o _ _ _ _ h, mI_s, mI_s]
      · rw [mI_o _ _ _ _ h1, mI_o _ _ _ _ h2, mI_o _ _ _ _ h2, mI_o _ _ _ _ h1]
  · rw [mI_n _ _ _ _ hx, mI_n _ _ _ _ hx, mI_n _ _ _ _ hx, mI_n _ _ _ _ hx]
theorem fNest_7 {M : vM} {b e : Nat} {c kd al : Int32} : fNest (mI M b 7 c) b e kd al = mI (fNest M b e kd al) b 7 c := by
  unfold fNest
  rw [mI_o _ _ _ _ (by decide), mI_o _ _ _ _ (by decide), mI_comm (c := b) (k := 7) (by omega), mI_comm (c := b) (k := 7) (by omega), mI_comm (c := b) (k := 7) (by omega), mI_comm (c := b) (k := 7) (by omega)]
  exact mI_com2 (k := 7) (q := 4) (M := mRL (mI (mI (mI (mI M (b + 11) e kd) (b + 12) e al) (b + 13) e (M.1 b 3)) (b + 14) e (M.1 b 6)) (b + 9) (vcp (M.2 (b + 8)) 0 (16 * e) 16 (M.2 (b + 9)))) (by decide)
section ZP
variable {G N : vM} {n s us i ca e r w : Nat} {x y z : Int32}
theorem zp_0 (h : Sm G N n s) (hU : IU N n us) (hi : i < n) (h1 : N.1 (tb i) 0 = 1) (hI : tI N us (tb i) ca e r w) (hn : G.1 (tb i) 12 = 0) : (fRest N n (tb i) 0 x y z).2 = 0 ∧ Sm (mI G (tb i) 8 3) (fRest N n (tb i) 0 x y z).1 n s := by
  rw [rest_p (by decide)]
  obtain ⟨q3, hca, h4, he, h5, hr, h6, hw, hso, huq, hct, hctm, hwt, hwtm, hwt0, hpk, hs9, hem, hov, hrg, hsv, hrd, hwr, hva⟩ := id hI
  have e0 : N.1 (tb i) 4 = 0 := (h.T hi).2.1.symm.trans hn
  have hee : e = 0 := eq_of_nI (b := 0) (h4.symm.trans e0) (by omega) (by decide)
  have h0 : (∀ k, k < e → N.1 (tb i + 11) k ≠ 0) := fun k hk => absurd hk (by omega)
  rw [show fPlain N n (tb i) 0 x y z = (fEnd N (tb i) 3 0, 0) from if_neg (by rw [e0]; decide)]
  exact ⟨rfl, z_stop h hi h1 e0 (by rw [h5, (hem h0).1]; rfl) (by rw [h6, (hem h0).2]; rfl)⟩
theorem zp_1 (h : Sm G N n s) (hU : IU N n us) (hi : i < n) (h1 : N.1 (tb i) 0 = 1) (hI : tI N us (tb i) ca e r w) : (fRest N n (tb i) 1 x y z).2 = 0 ∧ Sm (mL G (tb i + 8) (nn x) (y.toInt64)) (fRest N n (tb i) 1 x y z).1 n s := by
  rw [rest_p (by decide)]
  exact ⟨rfl, z_reg h hi⟩
theorem zp_2 (h : Sm G N n s) (hU : IU N n us) (hi : i < n) (h1 : N.1 (tb i) 0 = 1) (hI : tI N us (tb i) ca e r w) : (fRest N n (tb i) 2 x y z).2 = 0 ∧ Sm (mL G (tb i + 8) (nn x) (G.2 (tb i + 8) (nn y))) (fRest N n (tb i) 2 x y z).1 n s := by
  rw [rest_p (by decide)]
  rw [h.reg hi]
  exact ⟨rfl, z_reg h hi⟩
theorem zp_3 (h : Sm G N n s) (hU : IU N n us) (hi : i < n) (h1 : N.1 (tb i) 0 = 1) (hI : tI N us (tb i) ca e r w) : (fRest N n (tb i) 3 x y z).2 = 0 ∧ Sm (mL G (tb i + 8) (nn x) ((G.2 (tb i + 8) (nn y) + G.2 (tb i + 8) (nn z)).toInt32.toInt64)) (fRest N n (tb i) 3 x y z).1 n s := by
  rw [rest_p (by decide)]
  rw [h.reg hi]
  exact ⟨rfl, z_reg h hi⟩
theorem zp_4 (h : Sm G N n s) (hU : IU N n us) (hi : i < n) (h1 : N.1 (tb i) 0 = 1) (hI : tI N us (tb i) ca e r w) : (fRest N n (tb i) 4 x y z).2 = 0 ∧ Sm (mL G (tb i + 8) (nn x) ((G.2 (tb i + 8) (nn y) - G.2 (tb i + 8) (nn z)).toInt32.toInt64)) (fRest N n (tb i) 4 x y z).1 n s := by
  rw [rest_p (by decide)]
  rw [h.reg hi]
  exact ⟨rfl, z_reg h hi⟩
theorem zp_5 (h : Sm G N n s) (hU : IU N n us) (hi : i < n) (h1 : N.1 (tb i) 0 = 1) (hI : tI N us (tb i) ca e r w) : (fRest N n (tb i) 5 x y z).2 = 0 ∧ Sm (mL G (tb i + 8) (nn x) ((G.2 (tb i + 8) (nn y) * G.2 (tb i + 8) (nn z)).toInt32.toInt64)) (fRest N n (tb i) 5 x y z).1 n s := by
  rw [rest_p (by decide)]
  rw [h.reg hi]
  exact ⟨rfl, z_reg h hi⟩
theorem zp_6 (h : Sm G N n s) (hU : IU N n us) (hi : i < n) (h1 : N.1 (tb i) 0 = 1) (hI : tI N us (tb i) ca e r w) : (fRest N n (tb i) 6 x y z).2 = 0 ∧ Sm (mL G (tb i + 8) (nn x) (if G.2 (tb i + 8) (nn y) < G.2 (tb i + 8) (nn z) then 1 else 0)) (fRest N n (tb i) 6 x y z).1 n s := by
  rw [rest_p (by decide)]
  rw [h.reg hi]
  exact ⟨rfl, z_reg h hi⟩
theorem zp_7 (h : Sm G N n s) (hU : IU N n us) (hi : i < n) (h1 : N.1 (tb i) 0 = 1) (hI : tI N us (tb i) ca e r w) : (fRest N n (tb i) 7 x y z).2 = 0 ∧ Sm (mL G (tb i + 8) (nn x) (if G.2 (tb i + 8) (nn y) = G.2 (tb i + 8) (nn z) then 1 else 0)) (fRest N n (tb i) 7 x y z).1 n s := by
  rw [rest_p (by decide)]
  rw [h.reg hi]
  exact ⟨rfl, z_reg h hi⟩
theorem zp_8 (h : Sm G N n s) (hU : IU N n us) (hi : i < n) (h1 : N.1 (tb i) 0 = 1) (hI : tI N us (tb i) ca e r w) : (fRest N n (tb i) 8 x y z).2 = 0 ∧ Sm (mI G (tb i) 10 x) (fRest N n (tb i) 8 x y z).1 n s := by
  rw [rest_p (by decide)]
  exact ⟨rfl, z_pc h hi⟩
theorem zp_9 (h : Sm G N n s) (hU : IU N n us) (hi : i < n) (h1 : N.1 (tb i) 0 = 1) (hI : tI N us (tb i) ca e r w) : (fRest N n (tb i) 9 x y z).2 = 0 ∧ Sm (mI G (tb i) 10 (if G.2 (tb i + 8) (nn x) = 0 then y else G.1 (tb i) 10)) (fRest N n (tb i) 9 x y z).1 n s := by
  rw [rest_p (by decide)]
  rw [h.reg hi]
  refine ⟨rfl, ?_⟩
  show Sm _ (if N.2 (tb i + 8) (nn x) = 0 then mI N (tb i) 2 y else N) n s
  by_cases h0 : N.2 (tb i + 8) (nn x) = 0
  · rw [if_pos h0, if_pos h0]; exact z_pc h hi
  · rw [if_neg h0, if_neg h0, mI_self]; exact h
theorem zp_10 (h : Sm G N n s) (hU : IU N n us) (hi : i < n) (h1 : N.1 (tb i) 0 = 1) (hI : tI N us (tb i) ca e r w) (hn : G.1 (tb i) 11 < 40) : (fRest N n (tb i) 10 x y z).2 = 0 ∧ Sm (gEnter G (tb i) ca x) (fRest N n (tb i) 10 x y z).1 n s := by
  rw [rest_p (by decide)]
  obtain ⟨q3, hca, h4, he, h5, hr, h6, hw, hso, huq, hct, hctm, hwt, hwtm, hwt0, hpk, hs9, hem, hov, hrg, hsv, hrd, hwr, hva⟩ := id hI
  obtain ⟨⟨r1, r2, r3, r4, -⟩, -⟩ := h.T hi
  rw [show fPlain N n (tb i) 10 x y z = (mI (mI (mI N (tb i + 10) (nn (N.1 (tb i) 3)) (N.1 (tb i) 2)) (tb i) 3 (N.1 (tb i) 3 + 1)) (tb i) 2 x, 0) from if_neg (fun z9 => by rw [r4, z9] at hn; exact absurd hn (by decide))]
  refine ⟨rfl, ?_⟩
  rw [q3, nn_nI (by omega)]
  exact z_enter h hi (nI_1 ca).symm
theorem zp_11 (h : Sm G N n s) (hU : IU N n us) (hi : i < n) (h1 : N.1 (tb i) 0 = 1) (hI : tI N us (tb i) ca e r w) (hn : gCall G (tb i) e 11) : (fRest N n (tb i) 11 x y z).2 = 0 ∧ Sm (gLeave G (tb i) ca) (fRest N n (tb i) 11 x y z).1 n s := by
  rw [rest_p (by decide)]
  obtain ⟨q3, hca, h4, he, h5, hr, h6, hw, hso, huq, hct, hctm, hwt, hwtm, hwt0, hpk, hs9, hem, hov, hrg, hsv, hrd, hwr, hva⟩ := id hI
  obtain ⟨⟨r1, r2, r3, r4, r5, r6, r7, r8, r9, r10, r11, -⟩, -⟩ := h.T hi
  have hn' : (if e = 0 then 0 else N.1 (tb i + 13) (e - 1)) < nI ca := by
    have h9 : (if e = 0 then 0 else G.1 (tb i + 13) (e - 1)) < G.1 (tb i) 11 := hn
    rw [r11, r4, q3] at h9; exact h9
  have hl : fLim N (tb i) = (if e = 0 then 0 else N.1 (tb i + 13) (e - 1)) := by
    unfold fLim
    rw [h4]
    by_cases e0 : e = 0
    · rw [if_pos e0, if_pos (by rw [e0]; rfl)]
    · rw [if_neg e0, if_neg (nI_ne0 (by omega) (by omega)), nn_nI (by omega)]
  have hne : ¬ N.1 (tb i) 3 = fLim N (tb i) := fun z9 => by
    rw [← hl, ← z9, q3] at hn'
    exact absurd hn' (nI_nlt (Nat.le_refl _) (by omega))
  have hc0 : 0 < ca := by
    rcases Nat.eq_zero_or_pos ca with y9 | y9
    · exfalso
      subst y9
      by_cases e0 : e = 0
      · rw [if_pos e0] at hn'; exact absurd hn' (by decide)
      · rw [if_neg e0, (hct (e - 1) (by omega)).1] at hn'
        exact absurd hn' (nI_nlt (Nat.zero_le _) (by have := (hct (e - 1) (by omega)).2; omega))
    · exact y9
  rw [show fPlain N n (tb i) 11 x y z = (mI (mI N (tb i) 3 (N.1 (tb i) 3 - 1)) (tb i) 2 (N.1 (tb i + 10) (nn (N.1 (tb i) 3 - 1))), 0) from if_neg hne]
  refine ⟨rfl, ?_⟩
  have e1 : N.1 (tb i) 3 - 1 = nI (ca - 1) := by
    rw [q3]; obtain ⟨c1, rfl⟩ : ∃ c1, ca = c1 + 1 := ⟨ca - 1, by omega⟩
    rw [nI_pred]; rfl
  rw [e1, nn_nI (by omega)]
  exact z_leave h hi rfl
theorem zp_12 (h : Sm G N n s) (hU : IU N n us) (hi : i < n) (h1 : N.1 (tb i) 0 = 1) (hI : tI N us (tb i) ca e r w) (hn : ¬ N.1 0 3 = 200) (hx : nn y < 16) (hx2 : nn z < 16) : (fRest N n (tb i) 12 x y z).2 = 0 ∧ Sm (mL (gFill G us 1 (G.2 (tb i + 8) (nn y)) (G.2 (tb i + 8) (nn z))) (tb i + 8) (nn x) (8589934592 + lN us)) (fRest N n (tb i) 12 x y z).1 n s := by
  rw [rest_p (by decide)]
  obtain ⟨q3, hca, h4, he, h5, hr, h6, hw, hso, huq, hct, hctm, hwt, hwtm, hwt0, hpk, hs9, hem, hov, hrg, hsv, hrd, hwr, hva⟩ := id hI
  have hu := hU.us
  have h3 := hU.g3
  have hu2 : us < 200 := by
    rcases Nat.lt_or_eq_of_le hu with y9 | y9
    · exact y9
    · exact absurd (by rw [h3, y9]; rfl) hn
  rw [h.reg hi]
  have e9 : fPlain N n (tb i) 12 x y z = fMade N n (tb i) true x y z := rfl
  rw [e9]
  unfold fMade
  dsimp only
  rw [if_neg hn, if_neg hn, h3, nn_nI (by omega), nI_l (by omega), nI_1]
  refine ⟨rfl, ?_⟩
  exact z_reg (z_place h h3 hu2 (Or.inl ⟨rfl, rfl⟩) ((hrg _ hx).ok hu) ((hrg _ hx2).ok hu)) hi
theorem zp_15 (h : Sm G N n s) (hU : IU N n us) (hi : i < n) (h1 : N.1 (tb i) 0 = 1) (hI : tI N us (tb i) ca e r w) (hn : ¬ N.1 0 3 = 200) (hx : nn y < 16) : (fRest N n (tb i) 15 x y z).2 = 0 ∧ Sm (mL (gFill G us 2 (G.2 (tb i + 8) (nn y)) (0)) (tb i + 8) (nn x) (17179869184 + lN us)) (fRest N n (tb i) 15 x y z).1 n s := by
  rw [rest_p (by decide)]
  obtain ⟨q3, hca, h4, he, h5, hr, h6, hw, hso, huq, hct, hctm, hwt, hwtm, hwt0, hpk, hs9, hem, hov, hrg, hsv, hrd, hwr, hva⟩ := id hI
  have hu := hU.us
  have h3 := hU.g3
  have hu2 : us < 200 := by
    rcases Nat.lt_or_eq_of_le hu with y9 | y9
    · exact y9
    · exact absurd (by rw [h3, y9]; rfl) hn
  rw [h.reg hi]
  have e9 : fPlain N n (tb i) 15 x y z = fMade N n (tb i) false x y z := rfl
  rw [e9]
  unfold fMade
  dsimp only
  rw [if_neg hn, if_neg hn, h3, nn_nI (by omega), nI_l (by omega), nI_1]
  refine ⟨rfl, ?_⟩
  exact z_reg (z_place h h3 hu2 (Or.inr ⟨rfl, rfl, rfl⟩) ((hrg _ hx).ok hu) (Or.inl isI_0)) hi
theorem rgx_var {v : Int64} {p : Nat} (hp : p < 200) (h : v = 17179869184 + lN p) : ¬ isP v := by
  rw [h]; exact (big_var hp).2.1
theorem zp_13 (h : Sm G N n s) (hU : IU N n us) (hi : i < n) (h1 : N.1 (tb i) 0 = 1) (hI : tI N us (tb i) ca e r w) (hn : isP (N.2 (tb i + 8) (nn y))) (hx : nn y < 16) : (fRest N n (tb i) 13 x y z).2 = 0 ∧ Sm (mL G (tb i + 8) (nn x) (G.2 15 (pl (G.2 (tb i + 8) (nn y))))) (fRest N n (tb i) 13 x y z).1 n s := by
  rw [rest_p (by decide)]
  obtain ⟨q3, hca, h4, he, h5, hr, h6, hw, hso, huq, hct, hctm, hwt, hwtm, hwt0, hpk, hs9, hem, hov, hrg, hsv, hrd, hwr, hva⟩ := id hI
  have hu := hU.us
  have hH := (h.v hU).2
  rw [h.reg hi]
  obtain ⟨p, hp, hp1, hv⟩ : ∃ p, p < us ∧ N.1 17 p = 1 ∧ N.2 (tb i + 8) (nn y) = 8589934592 + lN p := by
    rcases hrg _ hx with y9 | y9 | ⟨p, hp, -, y9⟩
    · exact absurd y9 (by have h9 := hn.1; unfold isI; exact Int64.not_lt.mpr h9)
    · exact y9
    · exact absurd hn (by have := rgx_var (v := N.2 (tb i + 8) (nn y)) (p := p) (by omega) y9; exact this)
  have e9 : G.2 15 (pl (N.2 (tb i + 8) (nn y))) = N.2 15 (pl (N.2 (tb i + 8) (nn y))) := by
    rw [hv, pl_pair (by omega)]
    obtain ⟨-, k2, k3⟩ := hH p hp
    exact k2
  rw [e9]
  exact ⟨rfl, z_reg h hi⟩
theorem zp_14 (h : Sm G N n s) (hU : IU N n us) (hi : i < n) (h1 : N.1 (tb i) 0 = 1) (hI : tI N us (tb i) ca e r w) (hn : isP (N.2 (tb i + 8) (nn y))) (hx : nn y < 16) : (fRest N n (tb i) 14 x y z).2 = 0 ∧ Sm (mL G (tb i + 8) (nn x) (G.2 16 (pl (G.2 (tb i + 8) (nn y))))) (fRest N n (tb i) 14 x y z).1 n s := by
  rw [rest_p (by decide)]
  obtain ⟨q3, hca, h4, he, h5, hr, h6, hw, hso, huq, hct, hctm, hwt, hwtm, hwt0, hpk, hs9, hem, hov, hrg, hsv, hrd, hwr, hva⟩ := id hI
  have hu := hU.us
  have hH := (h.v hU).2
  rw [h.reg hi]
  obtain ⟨p, hp, hp1, hv⟩ : ∃ p, p < us ∧ N.1 17 p = 1 ∧ N.2 (tb i + 8) (nn y) = 8589934592 + lN p := by
    rcases hrg _ hx with y9 | y9 | ⟨p, hp, -, y9⟩
    · exact absurd y9 (by have h9 := hn.1; unfold isI; exact Int64.not_lt.mpr h9)
    · exact y9
    · exact absurd hn (by have := rgx_var (v := N.2 (tb i + 8) (nn y)) (p := p) (by omega) y9; exact this)
  have e9 : G.2 16 (pl (N.2 (tb i + 8) (nn y))) = N.2 16 (pl (N.2 (tb i + 8) (nn y))) := by
    rw [hv, pl_pair (by omega)]
    obtain ⟨-, k2, k3⟩ := hH p hp
    rw [if_neg (by rw [hp1]; decide)] at k3
    exact k3
  rw [e9]
  exact ⟨rfl, z_reg h hi⟩
theorem zp_26 (h : Sm G N n s) (hU : IU N n us) (hi : i < n) (h1 : N.1 (tb i) 0 = 1) (hI : tI N us (tb i) ca e r w) {od pd : Nat} (hn : sP G N pd od) : (fRest N n (tb i) 26 x y z).2 = 0 ∧ Sm (gPrint G od pd (G.2 (tb i + 8) (nn x)).toInt32) (fRest N n (tb i) 26 x y z).1 n s := by
  rw [rest_o (by decide) (by decide)]
  rw [h.reg hi]
  exact ⟨rfl, z_print h hn⟩
theorem zp_27 (h : Sm G N n s) (hU : IU N n us) (hi : i < n) (h1 : N.1 (tb i) 0 = 1) (hI : tI N us (tb i) ca e r w) : (fRest N n (tb i) 27 x y z).2 = 0 ∧ Sm (mL G 14 (nn x) (G.2 (tb i + 8) (nn y))) (fRest N n (tb i) 27 x y z).1 n s := by
  rw [rest_o (by decide) (by decide)]
  rw [h.reg hi]
  exact ⟨rfl, z_put h⟩
theorem zp_28 (h : Sm G N n s) (hU : IU N n us) (hi : i < n) (h1 : N.1 (tb i) 0 = 1) (hI : tI N us (tb i) ca e r w) : (fRest N n (tb i) 28 x y z).2 = 0 ∧ Sm (mL G (tb i + 8) (nn x) (G.2 14 (nn y))) (fRest N n (tb i) 28 x y z).1 n s := by
  rw [rest_o (by decide) (by decide)]
  rw [h.gl]
  exact ⟨rfl, z_reg h hi⟩
theorem zp_29 (h : Sm G N n s) (hU : IU N n us) (hi : i < n) (h1 : N.1 (tb i) 0 = 1) (hI : tI N us (tb i) ca e r w) : (fRest N n (tb i) 29 x y z).2 = 0 ∧ Sm (mL G (tb i + 8) (nn x) ((if 17179869184 ≤ G.2 (tb i + 8) (nn y) then (2 : Int32) else if 8589934592 ≤ G.2 (tb i + 8) (nn y) then 1 else 0).toInt64)) (fRest N n (tb i) 29 x y z).1 n s := by
  rw [rest_p (by decide)]
  rw [h.reg hi]
  have e9 : (if 17179869184 ≤ N.2 (tb i + 8) (nn y) then (2 : Int32) else if 8589934592 ≤ N.2 (tb i + 8) (nn y) then 1 else 0).toInt64 = (@ite _ (isI (rgx N (tb i) y)) (Classical.propDecidable _) 0 (@ite _ (isP (rgx N (tb i) y)) (Classical.propDecidable _) 1 2)) := by
    by_cases a2 : 17179869184 ≤ N.2 (tb i + 8) (nn y)
    · rw [if_pos a2, if_neg (show ¬ isI (rgx N (tb i) y) from fun z9 => absurd (Int64.lt_of_lt_of_le (b := 8589934592) z9 (by decide)) (Int64.not_lt.mpr a2)), if_neg (show ¬ isP (rgx N (tb i) y) from fun z9 => absurd z9.2 (Int64.not_lt.mpr a2))]; rfl
    · rw [if_neg a2]
      by_cases a1 : 8589934592 ≤ N.2 (tb i + 8) (nn y)
      · rw [if_pos a1, if_neg (show ¬ isI (rgx N (tb i) y) from fun z9 => absurd z9 (Int64.not_lt.mpr a1)), if_pos (show isP (rgx N (tb i) y) from ⟨a1, Int64.not_le.mp a2⟩)]; rfl
      · rw [if_neg a1, if_pos (show isI (rgx N (tb i) y) from Int64.not_le.mp a1)]; rfl
  rw [e9]
  exact ⟨rfl, z_reg h hi⟩
theorem zp_18 (h : Sm G N n s) (hU : IU N n us) (hi : i < n) (h1 : N.1 (tb i) 0 = 1) (hI : tI N us (tb i) ca e r w) (hn : G.1 (tb i) 12 < 24) (hni : ¬ fIn N (tb i)) : (fRest N n (tb i) 18 x y z).2 = 0 ∧ Sm (gOE G (tb i) e 6 x) (fRest N n (tb i) 18 x y z).1 n s := by
  rw [rest_g (by decide) (by decide)]
  obtain ⟨q3, hca, h4, he, h5, hr, h6, hw, hso, huq, hct, hctm, hwt, hwtm, hwt0, hpk, hs9, hem, hov, hrg, hsv, hrd, hwr, hva⟩ := id hI
  have e24 : e < 24 := by rw [(h.T hi).2.1, h4] at hn; exact lt_of_nI (b := 24) hn (by omega) (by decide)
  have n24 : ¬ N.1 (tb i) 4 = 24 := by rw [h4]; exact fun z9 => absurd (eq_of_nI (b := 24) z9 (by omega) (by decide)) (by omega)
  have hno : ∀ k, k < e → N.1 (tb i + 11) k ≠ 0 := fun k hk h0 => hni ⟨k, by rw [h4, nn_nI (by omega)]; exact hk, h0⟩
  obtain ⟨⟨r1, r2, r3, -⟩, -⟩ := h.T hi
  rw [show fGuard N n (tb i) 18 x y = (fNest (mI N (tb i) 7 (N.1 0 4)) (tb i) (nn (N.1 (tb i) 4)) 0 (N.1 (tb i) 2), 0) from if_neg n24, gOE, if_pos rfl, r3, h.c.1, h4, nn_nI (by omega), fNest_7]
  refine ⟨rfl, z_begin (z_open h hi h4 e24 (fun _ => hno)) hi ?_ ?_⟩
  · unfold fNest; rw [mI_o _ _ _ _ (by decide), mRL_1, mI_n _ _ _ _ (by omega), mI_n _ _ _ _ (by omega), mI_n _ _ _ _ (by omega), mI_n _ _ _ _ (by omega), h5, (hem hno).1]; rfl
  · unfold fNest; rw [mI_o _ _ _ _ (by decide), mRL_1, mI_n _ _ _ _ (by omega), mI_n _ _ _ _ (by omega), mI_n _ _ _ _ (by omega), mI_n _ _ _ _ (by omega), h6, (hem hno).2]; rfl
theorem zp_20 (h : Sm G N n s) (hU : IU N n us) (hi : i < n) (h1 : N.1 (tb i) 0 = 1) (hI : tI N us (tb i) ca e r w) (hn : G.1 (tb i) 12 < 24) : (fRest N n (tb i) 20 x y z).2 = 0 ∧ Sm (gOE G (tb i) e 7 x) (fRest N n (tb i) 20 x y z).1 n s := by
  rw [rest_g (by decide) (by decide)]
  obtain ⟨q3, hca, h4, he, h5, hr, h6, hw, hso, huq, hct, hctm, hwt, hwtm, hwt0, hpk, hs9, hem, hov, hrg, hsv, hrd, hwr, hva⟩ := id hI
  have e24 : e < 24 := by rw [(h.T hi).2.1, h4] at hn; exact lt_of_nI (b := 24) hn (by omega) (by decide)
  have n24 : ¬ N.1 (tb i) 4 = 24 := by rw [h4]; exact fun z9 => absurd (eq_of_nI (b := 24) z9 (by omega) (by decide)) (by omega)
  rw [show fGuard N n (tb i) 20 x y = (fNest N (tb i) (nn (N.1 (tb i) 4)) 1 x, 0) from if_neg n24, gOE, if_neg (by decide), if_pos rfl, h4, nn_nI (by omega)]
  exact ⟨rfl, z_open h hi h4 e24 (fun z9 => absurd z9 (by decide))⟩
theorem zp_22 (h : Sm G N n s) (hU : IU N n us) (hi : i < n) (h1 : N.1 (tb i) 0 = 1) (hI : tI N us (tb i) ca e r w) (hn : G.1 (tb i) 12 < 24) : (fRest N n (tb i) 22 x y z).2 = 0 ∧ Sm (gOE G (tb i) e 8 x) (fRest N n (tb i) 22 x y z).1 n s := by
  rw [rest_g (by decide) (by decide)]
  obtain ⟨q3, hca, h4, he, h5, hr, h6, hw, hso, huq, hct, hctm, hwt, hwtm, hwt0, hpk, hs9, hem, hov, hrg, hsv, hrd, hwr, hva⟩ := id hI
  have e24 : e < 24 := by rw [(h.T hi).2.1, h4] at hn; exact lt_of_nI (b := 24) hn (by omega) (by decide)
  have n24 : ¬ N.1 (tb i) 4 = 24 := by rw [h4]; exact fun z9 => absurd (eq_of_nI (b := 24) z9 (by omega) (by decide)) (by omega)
  rw [show fGuard N n (tb i) 22 x y = (fNest N (tb i) (nn (N.1 (tb i) 4)) 2 x, 0) from if_neg n24, gOE, if_neg (by decide), if_neg (by decide), if_pos rfl, h4, nn_nI (by omega)]
  exact ⟨rfl, z_open h hi h4 e24 (fun z9 => absurd z9 (by decide))⟩
theorem zp_21 (h : Sm G N n s) (hU : IU N n us) (hi : i < n) (h1 : N.1 (tb i) 0 = 1) (hI : tI N us (tb i) ca e r w) (hn : 0 < G.1 (tb i) 12 ∧ G.1 (tb i) 13 ≠ G.1 (tb i) 12 - 1) : (fRest N n (tb i) 21 x y z).2 = 0 ∧ Sm (gOE G (tb i) e 9 x) (fRest N n (tb i) 21 x y z).1 n s := by
  rw [rest_g (by decide) (by decide)]
  obtain ⟨q3, hca, h4, he, h5, hr, h6, hw, hso, huq, hct, hctm, hwt, hwtm, hwt0, hpk, hs9, hem, hov, hrg, hsv, hrd, hwr, hva⟩ := id hI
  obtain ⟨hR, h12, hA, hc1⟩ := h.T hi
  rw [h4, nn_nI (by omega)] at hA
  rw [h12, h4] at hn
  have e0 : 0 < e := lt_of_nI (a := 0) hn.1 (by decide) (by omega)
  have hp : nI e - 1 = nI (e - 1) := by
    obtain ⟨e1, rfl⟩ : ∃ e1, e = e1 + 1 := ⟨e - 1, by omega⟩
    rw [nI_pred]; rfl
  have hne : ¬ (N.1 (tb i) 4 = 0 ∨ N.1 (tb i + 11) (nn (N.1 (tb i) 4) - 1) = 0) := by
    rw [h4, nn_nI (by omega)]
    rintro (z9 | z9)
    · exact nI_ne0 e0 (by omega) z9
    · exact hn.2 (by rw [hp]; exact hA.at (by omega) z9 huq)
  rw [show fGuard N n (tb i) 21 x y = (mI (mI N (tb i) 4 (N.1 (tb i) 4 - 1)) (tb i) 2 x, 0) from if_neg hne, gOE, if_neg (by decide), if_neg (by decide), if_neg (by decide)]
  exact ⟨rfl, z_pc (z_drop h hi h4 he huq (by omega) (by rw [h4, hp])) hi⟩
theorem zp_19 (h : Sm G N n s) (hU : IU N n us) (hi : i < n) (h1 : N.1 (tb i) 0 = 1) (hI : tI N us (tb i) ca e r w) {k : Nat} (hk : k < e) (h0 : N.1 (tb i + 11) k = 0) (hn : G.1 (tb i) 13 = G.1 (tb i) 12 - 1) : (fRest N n (tb i) 19 x y z).2 = 0 ∧ Sm (gCommit G n (tb i) e k w) (fRest N n (tb i) 19 x y z).1 n s := by
  rw [rest_g (by decide) (by decide)]
  obtain ⟨q3, hca, h4, he, h5, hr, h6, hw, hso, huq, hct, hctm, hwt, hwtm, hwt0, hpk, hs9, hem, hov, hrg, hsv, hrd, hwr, hva⟩ := id hI
  obtain ⟨hR, h12, hA, hc1⟩ := h.T hi
  rw [h4, nn_nI (by omega)] at hA
  have hp : nI e - 1 = nI (e - 1) := by
    obtain ⟨e1, rfl⟩ : ∃ e1, e = e1 + 1 := ⟨e - 1, by omega⟩
    rw [nI_pred]; rfl
  rw [hA.at hk h0 huq, h12, h4, hp] at hn
  have hke : k = e - 1 := eq_of_nI hn (by omega) (by omega)
  have hpos : N.1 (tb i + 11) (nn (N.1 (tb i) 4) - 1) = 0 := by rw [h4, nn_nI (by omega), ← hke]; exact h0
  rw [show fGuard N n (tb i) 19 x y = (@ite _ (fValid N (tb i)) (Classical.propDecidable _) (fCommitted N n (tb i)) (fAborted N (tb i)), 0) from if_pos hpos]
  exact ⟨rfl, z_commit h hU hi h1 hI hk h0 hke⟩
theorem zp_23 (h : Sm G N n s) (hU : IU N n us) (hi : i < n) (h1 : N.1 (tb i) 0 = 1) (hI : tI N us (tb i) ca e r w) {k : Nat} (hk : k < e) (h0 : N.1 (tb i + 11) k = 0) : (fRest N n (tb i) 23 x y z).2 = 0 ∧ Sm (gRetK G (tb i) k e) (fRest N n (tb i) 23 x y z).1 n s := by
  rw [rest_g (by decide) (by decide)]
  exact ⟨rfl, z_retry h hU hi h1 hI hk h0⟩
theorem zp_24 (h : Sm G N n s) (hU : IU N n us) (hi : i < n) (h1 : N.1 (tb i) 0 = 1) (hI : tI N us (tb i) ca e r w) : (fRest N n (tb i) 24 x y z).2 = 0 ∧ Sm (gThrow (tb i) (G.2 (tb i + 8) (nn x)).toInt32 e G) (fRest N n (tb i) 24 x y z).1 n s := by
  rw [rest_g (by decide) (by decide)]
  obtain ⟨q3, hca, h4, he, h5, hr, h6, hw, hso, huq, hct, hctm, hwt, hwtm, hwt0, hpk, hs9, hem, hov, hrg, hsv, hrd, hwr, hva⟩ := id hI
  obtain ⟨hR, h12, hA, hc1⟩ := h.T hi
  rw [h4, nn_nI (by omega)] at hA
  rw [h.reg hi]
  refine ⟨rfl, ?_⟩
  show Sm _ (fThrow (tb i) (rgx N (tb i) x).toInt32 (nn (N.1 (tb i) 4)) N) n s
  rw [h4, nn_nI (by omega)]
  exact z_throw h hU hi he e G N (Nat.le_refl e) huq (fun k hk => hrd k (by rw [h5, nn_nI (by omega)] at hk; exact hk)) h4 h1 (hc1 (Or.inl h1)) (sameK.refl _ _) (sameT.refl _ _) h.c hR hA
end ZP
