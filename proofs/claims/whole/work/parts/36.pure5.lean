/-! THE INVARIANT IS KEPT: one step -/
theorem IU.n {M : vM} {n us : Nat} (h : IU M n us) : nn (M.1 0 2) = n := by
  obtain ⟨sz, pd, hg, hts⟩ := h
  rw [hg.2.2.1, nn_nI (by have := hg.2.2.2.2.1; omega)]
theorem IU.n16 {M : vM} {n us : Nat} (h : IU M n us) : n ≤ 16 := by
  obtain ⟨sz, pd, hg, hts⟩ := h
  exact hg.2.2.2.2.1
theorem IU.u {M : vM} {n us : Nat} (h : IU M n us) : M.1 0 3 = nI us := by
  obtain ⟨sz, pd, hg, hts⟩ := h
  exact hg.2.2.2.2.2.1
theorem IU.reg {M : vM} {n us i k : Nat} (h : IU M n us) (hi : i < n) (hk : k < 16) : vO us (M.1 17) (M.2 (tb i + 8) k) := by
  obtain ⟨ca, e, r, w, hI⟩ := h.at hi
  obtain ⟨h3, hca, h4, he, h5, hr, h6, hw, hso, huq, hct, hctm, hwt, hwtm, hwt0, hpk, hst, hem, hov, hrg, hsv, hrd, hwr, hva⟩ := hI
  exact hrg k hk
theorem vO_up {us : Nat} {pr : Nat → Int32} {v : Int64} {t : Int32} (h : vO us pr v) : vO (us + 1) (upd pr us t) v := by
  rcases h with h | ⟨p, hp, hpr, hv⟩ | ⟨p, hp, hpr, hv⟩
  · exact Or.inl h
  · exact Or.inr (Or.inl ⟨p, by omega, by rw [pk_un (by omega)]; exact hpr, hv⟩)
  · exact Or.inr (Or.inr ⟨p, by omega, by rw [pk_un (by omega)]; exact hpr, hv⟩)
theorem vV_up {us : Nat} {pr : Nat → Int32} {v : Int64} {t : Int32} (h : vV us pr v) : vV (us + 1) (upd pr us t) v := by
  obtain ⟨p, hp, hpr, hv⟩ := h
  exact ⟨p, by omega, by rw [pk_un (by omega)]; exact hpr, hv⟩
/-- a new place -/
theorem iu_place {M : vM} {n us : Nat} {t : Int32} {v1 v2 : Int64} (h : IU M n us) (hu : us < 200) (ht : t = 0 ∨ t = 1) (h1 : vO us (M.1 17) v1) (h2 : vO us (M.1 17) v2) (h0 : t = 0 → isI v2) : IU (mI (mI (mL (mL (mI M 17 us t) 15 us v1) 16 us v2) 19 us 0) 0 3 (nI (us + 1))) n (us + 1) := by
  obtain ⟨sz, pd, hg, hts⟩ := h
  obtain ⟨hsz, hsz2, hn2, hn1, hn16, hus, hus2, hpd, hpd2, h17, hfs, hvi, hgl⟩ := hg
  generalize hN : mI (mI (mL (mL (mI M 17 us t) 15 us v1) 16 us v2) 19 us 0) 0 3 (nI (us + 1)) = N
  have e0 : ∀ k, k ≠ 3 → N.1 0 k = M.1 0 k := fun k hk => by
    rw [← hN, mI_o _ _ _ _ hk, mI_n _ _ _ _ (by decide), mL_1, mL_1, mI_n _ _ _ _ (by decide)]
  have e3 : N.1 0 3 = nI (us + 1) := by rw [← hN, mI_s]
  have e17 : N.1 17 = upd (M.1 17) us t := by
    rw [← hN, mI_n _ _ _ _ (by decide), mI_n _ _ _ _ (by decide), mL_1, mL_1, mI_r]
  have e15 : N.2 15 = vp_updL (M.2 15) us v1 := by
    rw [← hN, mI_2, mI_2, mL_n _ _ _ _ (by decide), mL_r, mI_2]
  have e16 : N.2 16 = vp_updL (M.2 16) us v2 := by
    rw [← hN, mI_2, mI_2, mL_r, mL_n _ _ _ _ (by decide), mI_2]
  have e14 : N.2 14 = M.2 14 := by
    rw [← hN, mI_2, mI_2, mL_n _ _ _ _ (by decide), mL_n _ _ _ _ (by decide), mI_2]
  have r1 : ∀ x, 22 ≤ x → N.1 x = M.1 x := fun x hx => by
    rw [← hN, mI_n _ _ _ _ (by omega), mI_n _ _ _ _ (by omega), mL_1, mL_1, mI_n _ _ _ _ (by omega)]
  have r2 : ∀ x, 22 ≤ x → N.2 x = M.2 x := fun x hx => by
    rw [← hN, mI_2, mI_2, mL_n _ _ _ _ (by omega), mL_n _ _ _ _ (by omega), mI_2]
  refine ⟨sz, pd, ?_, fun j hj => ?_⟩
  · unfold gI
    rw [e0 1 (by decide), e0 2 (by decide), e3, e0 8 (by decide), e17, e15, e16, e14]
    refine ⟨hsz, hsz2, hn2, hn1, hn16, rfl, by omega, hpd, hpd2, fun p hp => ?_, fun p hp => ?_, fun p hp q0 => ?_, fun k hk => vO_up (hgl k hk)⟩
    · by_cases hq : p = us
      · subst hq; rw [pk_us]; exact ht
      · rw [pk_un hq]; exact h17 p hp
    · by_cases hq : p = us
      · subst hq; rw [pk_uLs, pk_uLs]; exact ⟨vO_up h1, vO_up h2⟩
      · rw [pk_uLn hq, pk_uLn hq]; exact ⟨vO_up (hfs p (by omega)).1, vO_up (hfs p (by omega)).2⟩
    · by_cases hq : p = us
      · subst hq; rw [pk_us] at q0; rw [pk_uLs]; exact h0 q0
      · rw [pk_un hq] at q0; rw [pk_uLn hq]; exact hvi p (by omega) q0
  · obtain ⟨ca, e, r, w, hI⟩ := hts j hj
    refine ⟨ca, e, r, w, ?_⟩
    have hb : 22 ≤ tb j := tb22
    have hI' := hI
    obtain ⟨h3, hca, h4, he, h5, hr, h6, hw, hso, huq, hct, hctm, hwt, hwtm, hwt0, hpk, hst, hem, hov, hrg, hsv, hrd, hwr, hva⟩ := hI'
    rw [tI_C] at hI ⊢
    rw [r1 _ hb, r1 _ (show 22 ≤ tb j + 11 by omega), r1 _ (show 22 ≤ tb j + 13 by omega), r1 _ (show 22 ≤ tb j + 14 by omega), r2 _ (show 22 ≤ tb j + 8 by omega), r2 _ (show 22 ≤ tb j + 9 by omega), r2 _ (show 22 ≤ tb j + 15 by omega), r2 _ (show 22 ≤ tb j + 16 by omega), r2 _ (show 22 ≤ tb j + 17 by omega), e17]
    exact tC_mv hI (fun k hk => vO_up (hrg k hk)) (fun k hk => vO_up (hsv k hk)) (fun k hk => vV_up (hrd k hk)) (fun k hk => vV_up (hwr k hk)) (fun k hk => vO_up (hva k hk))
theorem iu_full {M : vM} {n us : Nat} (h : IU M n us) : ∃ u1, u1 ≤ 200 ∧ IU (if M.1 0 3 = 200 then fGather M n 200 else M) n u1 := by
  split
  next hc =>
    have hu : us = 200 := by
      have := h.u; rw [hc] at this
      exact ((nI_eq (a := 200) (b := us) (by omega) (by have := h.us; omega)).mp this).symm
    subst hu
    obtain ⟨u2, hu2, -, h2⟩ := iu_gather h
    exact ⟨u2, hu2, h2⟩
  · exact ⟨us, h.us, h⟩
theorem iu_made {M : vM} {n us i : Nat} {ip : Bool} {x y z : Int32} (h : IU M n us) (hi : i < n) (hy : nn y < 16) (hz : ip = true → nn z < 16) : ∃ u9, IU (fMade M n (tb i) ip x y z).1 n u9 := by
  obtain ⟨u1, hu1, h1⟩ := iu_full h
  unfold fMade
  dsimp only
  generalize (if M.1 0 3 = 200 then fGather M n 200 else M) = N at h1 ⊢
  split
  · exact ⟨u1, h1⟩
  next hne =>
    have hu := h1.u
    have hlt : u1 < 200 := by
      rcases Nat.lt_or_ge u1 200 with q9 | q9
      · exact q9
      · exfalso; apply hne; rw [hu, show u1 = 200 by omega]; rfl
    refine ⟨u1 + 1, ?_⟩
    rw [hu, nn_nI (by omega), nI_1, nI_l (by omega)]
    have hP := iu_place (t := if ip then 1 else 0) (v1 := rgx N (tb i) y) (v2 := if ip then rgx N (tb i) z else 0) h1 hlt (by cases ip <;> simp) (h1.reg hi hy) (by
      cases ip
      · exact vO_0
      · exact h1.reg hi (hz rfl)) (by
      cases ip
      · intro _; exact isI_0
      · intro q9; exact absurd q9 (by decide))
    refine iu_reg (M := mI (mI (mL (mL (mI N 17 u1 (if ip then 1 else 0)) 15 u1 (rgx N (tb i) y)) 16 u1 (if ip then rgx N (tb i) z else 0)) 19 u1 0) 0 3 (nI (u1 + 1))) (j := nn x) (v := (if ip then 8589934592 else 17179869184) + lN u1) hP hi ?_
    rw [mI_n _ _ _ _ (by decide), mI_n _ _ _ _ (by decide), mL_1, mL_1, mI_r]
    cases ip
    · exact Or.inr (Or.inr ⟨u1, Nat.lt_succ_self _, pk_us, rfl⟩)
    · exact Or.inr (Or.inl ⟨u1, Nat.lt_succ_self _, pk_us, rfl⟩)
/-- a new task -/
theorem iu_fork {M : vM} {n us i : Nat} {x y : Int32} (h : IU M n us) (hi : i < n) : ∃ n9, n ≤ n9 ∧ IU (fFork M n (tb i) x y) n9 us := by
  unfold fFork
  split
  · exact ⟨n, Nat.le_refl _, iu_reg h hi vO_m1⟩
  next hne =>
    refine ⟨n + 1, Nat.le_succ _, ?_⟩
    dsimp only
    have hN : IU (mL M (tb i + 8) (nn x) (nI n).toInt64) n us := iu_reg h hi (vO_i _)
    generalize mL M (tb i + 8) (nn x) (nI n).toInt64 = N at hN ⊢
    have hrg := fun k (hk : k < 16) => hN.reg (k := k) hi hk
    obtain ⟨sz, pd, hg, hts⟩ := hN
    obtain ⟨hsz, hsz2, hn2, hn1, hn16, hus, hus2, hpd, hpd2, h17, hfs, hvi, hgl⟩ := hg
    have f1 : ∀ c, (c < tb n ∨ tb n + 20 ≤ c) → (fNewT N (tb n) (fun k => if k < 16 then N.2 (tb i + 8) k else 0) y).1 c = N.1 c := fun c hc => by
      show (if c = tb n then _ else if tb n + 10 ≤ c ∧ c ≤ tb n + 14 then _ else N.1 c) = _
      rw [if_neg (by omega), if_neg (by omega)]
    have f2 : ∀ c, (c < tb n ∨ tb n + 20 ≤ c) → (fNewT N (tb n) (fun k => if k < 16 then N.2 (tb i + 8) k else 0) y).2 c = N.2 c := fun c hc => by
      show (if c = tb n + 8 then _ else if c = tb n + 9 ∨ (tb n + 15 ≤ c ∧ c ≤ tb n + 17) then _ else N.2 c) = _
      rw [if_neg (by omega), if_neg (by omega)]
    have g0 : (fNewT N (tb n) (fun k => if k < 16 then N.2 (tb i + 8) k else 0) y).1 (tb n) = (fun k => if k = 0 then 1 else if k = 2 then y else 0) := if_pos rfl
    have g8 : (fNewT N (tb n) (fun k => if k < 16 then N.2 (tb i + 8) k else 0) y).2 (tb n + 8) = (fun k => if k < 16 then N.2 (tb i + 8) k else 0) := if_pos rfl
    generalize fNewT N (tb n) (fun k => if k < 16 then N.2 (tb i + 8) k else 0) y = F at f1 f2 g0 g8 ⊢
    have hbn : 30 ≤ tb n := by unfold tb; omega
    refine ⟨sz, pd, ?_, fun j hj => ?_⟩
    · unfold gI
      rw [mI_o _ _ _ _ (by decide), mI_s, mI_o _ _ _ _ (by decide), mI_o _ _ _ _ (by decide), mI_n _ _ _ _ (by decide), mI_2, f1 0 (by omega), f1 17 (by omega), f2 15 (by omega), f2 16 (by omega), f2 14 (by omega)]
      exact ⟨hsz, hsz2, rfl, by omega, by omega, hus, hus2, hpd, hpd2, h17, hfs, hvi, hgl⟩
    · by_cases hjn : j = n
      · subst hjn
        refine ⟨0, 0, 0, 0, ?_⟩
        rw [tI_C, mI_n _ _ _ _ (show tb j ≠ 0 by omega), mI_n _ _ _ _ (show 17 ≠ 0 by omega), mI_2, g0, g8, f1 17 (by omega)]
        exact ⟨rfl, Nat.zero_le _, rfl, Nat.zero_le _, rfl, Nat.zero_le _, rfl, Nat.zero_le _, lt_0, fun a b z9 => absurd z9 (Nat.not_lt_zero a), lt_0, fun a b _ z9 => absurd z9 (Nat.not_lt_zero b), lt_0, fun a b _ z9 => absurd z9 (Nat.not_lt_zero b), lt_0, fun z9 => absurd (show (1 : Int32) = 2 from z9) (by decide), Or.inl rfl, fun _ => ⟨rfl, rfl⟩, fun _ => rfl, fun k hk => by show vO us (N.1 17) (if k < 16 then N.2 (tb i + 8) k else 0); rw [if_pos hk]; exact hrg k hk, lt_0, lt_0, lt_0, lt_0⟩
      · obtain ⟨ca, e, r, w, hI⟩ := hts j (by omega)
        refine ⟨ca, e, r, w, ?_⟩
        have hb : 22 ≤ tb j := tb22
        have hlt : tb j + 20 ≤ tb n := by unfold tb; omega
        rw [tI_C] at hI ⊢
        rw [mI_n _ _ _ _ (show tb j ≠ 0 by omega), mI_n _ _ _ _ (show tb j + 11 ≠ 0 by omega), mI_n _ _ _ _ (show tb j + 13 ≠ 0 by omega), mI_n _ _ _ _ (show tb j + 14 ≠ 0 by omega), mI_n _ _ _ _ (show 17 ≠ 0 by omega), mI_2, f1 (tb j) (by omega), f1 (tb j + 11) (by omega), f1 (tb j + 13) (by omega), f1 (tb j + 14) (by omega), f1 17 (by omega), f2 (tb j + 8) (by omega), f2 (tb j + 9) (by omega), f2 (tb j + 15) (by omega), f2 (tb j + 16) (by omega), f2 (tb j + 17) (by omega)]
        exact hI
/-- what is kept over an instruction -/
def Kp (P : vM × Int32) (n o : Nat) : Prop := ∃ n9 us9, IU P.1 n9 us9 ∧ n ≤ n9 ∧ (o ≠ 25 → n9 = n)
theorem Kp.same {P : vM × Int32} {n o us : Nat} (h : IU P.1 n us) : Kp P n o := ⟨n, us, h, Nat.le_refl _, fun _ => rfl⟩
theorem rg16 {x : Int32} (h : ¬ nrg x) : nn x < 16 := (nrg_not h).2
theorem nP {us : Nat} {pr : Nat → Int32} {v : Int64} (h : vO us pr v) (hu : us ≤ 200) (hv : isP v) : pl v < us := by
  obtain ⟨p, hp, -, rfl⟩ := h.isPP hu hv
  rw [pl_pair (by omega)]; exact hp
theorem iu_lim {M : vM} {us i n ca e r w : Nat} (h : IU M n us) (hi : i < n) (hI : tI M us (tb i) ca e r w) (hne : ¬ M.1 (tb i) 3 = fLim M (tb i)) : IU (mI M (tb i) 3 (M.1 (tb i) 3 - 1)) n us := by
  obtain ⟨h3, hca, h4, he, h5, hr, h6, hw, hso, huq, hct, hctm, hwt, hwtm, hwt0, hpk, hst, hem, hov, hrg, hsv, hrd, hwr, hva⟩ := id hI
  unfold fLim at hne
  rw [h3, h4, nn_nI (by omega)] at hne
  have hc : 1 ≤ ca ∧ ∀ k, k < e → nn (M.1 (tb i + 13) k) ≤ ca - 1 := by
    by_cases he0 : e = 0
    · subst he0
      rw [if_pos (show nI 0 = 0 from rfl)] at hne
      refine ⟨?_, lt_0⟩
      rcases Nat.eq_zero_or_pos ca with q9 | q9
      · exfalso; apply hne; rw [q9]; rfl
      · exact q9
    · rw [if_neg (nI_ne0 (by omega) (by omega))] at hne
      have hh := hct (e - 1) (by omega)
      have hlt : nn (M.1 (tb i + 13) (e - 1)) < ca := by
        rcases Nat.lt_or_eq_of_le hh.2 with q9 | q9
        · exact q9
        · exfalso; apply hne; rw [hh.1, q9]
      exact ⟨by omega, fun k hk => by have := hctm k (e - 1) (by omega) (by omega); omega⟩
  exact h.t1 hi (sm_calls tb22 (c9 := ca - 1)) (ti_calls tb22 hI (by omega) (by rw [h3]; obtain ⟨c1, rfl⟩ : ∃ c1, ca = c1 + 1 := ⟨ca - 1, by omega⟩; rw [nI_pred]; rfl) hc.2)

theorem iu_r_0 {M : vM} {n us i : Nat} {x y z : Int32} (h : IU M n us) (hi : i < n) (h1 : M.1 (tb i) 0 = 1) (hw0 : ¬ fWrong M (tb i) 0 x y z) : Kp (fRest M n (tb i) 0 x y z) n 0 := by
  show Kp (if 0 < M.1 (tb i) 4 then (M, -4) else (fEnd M (tb i) 3 0, 0)) n 0
  split
  · exact Kp.same h
  · exact Kp.same (us := us) (iu_end h hi (Or.inl rfl))
theorem iu_r_1 {M : vM} {n us i : Nat} {x y z : Int32} (h : IU M n us) (hi : i < n) (h1 : M.1 (tb i) 0 = 1) (hw0 : ¬ fWrong M (tb i) 1 x y z) : Kp (fRest M n (tb i) 1 x y z) n 1 := by
  exact Kp.same (us := us) (iu_reg (v := y.toInt64) h hi (vO_i y))
theorem iu_r_2 {M : vM} {n us i : Nat} {x y z : Int32} (h : IU M n us) (hi : i < n) (h1 : M.1 (tb i) 0 = 1) (hw0 : ¬ fWrong M (tb i) 2 x y z) : Kp (fRest M n (tb i) 2 x y z) n 2 := by
  exact Kp.same (us := us) (iu_reg (v := rgx M (tb i) y) h hi (h.reg hi (rg16 (fun z9 => hw0 (Or.inr z9)))))
theorem iu_r_3 {M : vM} {n us i : Nat} {x y z : Int32} (h : IU M n us) (hi : i < n) (h1 : M.1 (tb i) 0 = 1) (hw0 : ¬ fWrong M (tb i) 3 x y z) : Kp (fRest M n (tb i) 3 x y z) n 3 := by
  exact Kp.same (us := us) (iu_reg (v := (rgx M (tb i) y + rgx M (tb i) z).toInt32.toInt64) h hi (vO_i _))
theorem iu_r_4 {M : vM} {n us i : Nat} {x y z : Int32} (h : IU M n us) (hi : i < n) (h1 : M.1 (tb i) 0 = 1) (hw0 : ¬ fWrong M (tb i) 4 x y z) : Kp (fRest M n (tb i) 4 x y z) n 4 := by
  exact Kp.same (us := us) (iu_reg (v := (rgx M (tb i) y - rgx M (tb i) z).toInt32.toInt64) h hi (vO_i _))
theorem iu_r_5 {M : vM} {n us i : Nat} {x y z : Int32} (h : IU M n us) (hi : i < n) (h1 : M.1 (tb i) 0 = 1) (hw0 : ¬ fWrong M (tb i) 5 x y z) : Kp (fRest M n (tb i) 5 x y z) n 5 := by
  exact Kp.same (us := us) (iu_reg (v := (rgx M (tb i) y * rgx M (tb i) z).toInt32.toInt64) h hi (vO_i _))
theorem iu_r_6 {M : vM} {n us i : Nat} {x y z : Int32} (h : IU M n us) (hi : i < n) (h1 : M.1 (tb i) 0 = 1) (hw0 : ¬ fWrong M (tb i) 6 x y z) : Kp (fRest M n (tb i) 6 x y z) n 6 := by
  exact Kp.same (us := us) (iu_reg (v := if rgx M (tb i) y < rgx M (tb i) z then 1 else 0) h hi (by split <;> first | exact vO_1 | exact vO_0))
theorem iu_r_7 {M : vM} {n us i : Nat} {x y z : Int32} (h : IU M n us) (hi : i < n) (h1 : M.1 (tb i) 0 = 1) (hw0 : ¬ fWrong M (tb i) 7 x y z) : Kp (fRest M n (tb i) 7 x y z) n 7 := by
  exact Kp.same (us := us) (iu_reg (v := if rgx M (tb i) y = rgx M (tb i) z then 1 else 0) h hi (by split <;> first | exact vO_1 | exact vO_0))
theorem iu_r_8 {M : vM} {n us i : Nat} {x y z : Int32} (h : IU M n us) (hi : i < n) (h1 : M.1 (tb i) 0 = 1) (hw0 : ¬ fWrong M (tb i) 8 x y z) : Kp (fRest M n (tb i) 8 x y z) n 8 := by
  exact Kp.same (us := us) (iu_ob2 h hi)
theorem iu_r_9 {M : vM} {n us i : Nat} {x y z : Int32} (h : IU M n us) (hi : i < n) (h1 : M.1 (tb i) 0 = 1) (hw0 : ¬ fWrong M (tb i) 9 x y z) : Kp (fRest M n (tb i) 9 x y z) n 9 := by
  show Kp (if rgx M (tb i) x = 0 then mI M (tb i) 2 y else M, 0) n 9
  split
  · exact Kp.same (us := us) (iu_ob2 h hi)
  · exact Kp.same h
theorem iu_r_10 {M : vM} {n us i : Nat} {x y z : Int32} (h : IU M n us) (hi : i < n) (h1 : M.1 (tb i) 0 = 1) (hw0 : ¬ fWrong M (tb i) 10 x y z) : Kp (fRest M n (tb i) 10 x y z) n 10 := by
  show Kp (if M.1 (tb i) 3 = 40 then (M, -2) else (mI (mI (mI M (tb i + 10) (nn (M.1 (tb i) 3)) (M.1 (tb i) 2)) (tb i) 3 (M.1 (tb i) 3 + 1)) (tb i) 2 x, 0)) n 10
  split
  · exact Kp.same h
  next hne =>
    obtain ⟨ca, e, r, w, hI⟩ := h.at hi
    obtain ⟨h3, hca, h4, he, h5, hr, h6, hw, hso, huq, hct, hctm, hwt, hwtm, hwt0, hpk, hst, hem, hov, hrg, hsv, hrd, hwr, hva⟩ := id hI
    have hc4 : ca ≠ 40 := fun z9 => hne (by rw [h3, z9]; rfl)
    have hI2 := ti_c10 (k := nn (M.1 (tb i) 3)) (v := M.1 (tb i) 2) (tb22 (i := i)) hI
    have e13 : (mI M (tb i + 10) (nn (M.1 (tb i) 3)) (M.1 (tb i) 2)).1 (tb i + 13) = M.1 (tb i + 13) := mI_n _ _ _ _ (by omega)
    have h' := (iu_c10 (k := nn (M.1 (tb i) 3)) (v := M.1 (tb i) 2) h hi).t1 hi (sm_calls (v := M.1 (tb i) 3 + 1) (c9 := ca + 1) tb22) (ti_calls (c9 := ca + 1) tb22 hI2 (by omega) (by rw [h3, nI_1]) (fun k hk => by rw [e13]; have := (hct k hk).2; omega))
    exact Kp.same (us := us) (iu_ob2 h' hi)
theorem iu_r_11 {M : vM} {n us i : Nat} {x y z : Int32} (h : IU M n us) (hi : i < n) (h1 : M.1 (tb i) 0 = 1) (hw0 : ¬ fWrong M (tb i) 11 x y z) : Kp (fRest M n (tb i) 11 x y z) n 11 := by
  show Kp (if M.1 (tb i) 3 = fLim M (tb i) then (M, -2) else (mI (mI M (tb i) 3 (M.1 (tb i) 3 - 1)) (tb i) 2 (M.1 (tb i + 10) (nn (M.1 (tb i) 3 - 1))), 0)) n 11
  split
  · exact Kp.same h
  next hne =>
    obtain ⟨ca, e, r, w, hI⟩ := h.at hi
    exact Kp.same (us := us) (iu_ob2 (iu_lim h hi hI hne) hi)
theorem iu_r_12 {M : vM} {n us i : Nat} {x y z : Int32} (h : IU M n us) (hi : i < n) (h1 : M.1 (tb i) 0 = 1) (hw0 : ¬ fWrong M (tb i) 12 x y z) : Kp (fRest M n (tb i) 12 x y z) n 12 := by
  obtain ⟨u9, hu9⟩ := iu_made (ip := true) (x := x) (y := y) (z := z) h hi (rg16 (fun z9 => hw0 (Or.inr (Or.inl z9)))) (fun _ => rg16 (fun z9 => hw0 (Or.inr (Or.inr z9))))
  exact Kp.same (us := u9) hu9
theorem iu_r_13 {M : vM} {n us i : Nat} {x y z : Int32} (h : IU M n us) (hi : i < n) (h1 : M.1 (tb i) 0 = 1) (hw0 : ¬ fWrong M (tb i) 13 x y z) : Kp (fRest M n (tb i) 13 x y z) n 13 := by
  exact Kp.same (us := us) (iu_reg (v := M.2 15 (pl (rgx M (tb i) y))) h hi ((h.cell (nP (h.reg hi (rg16 (fun z9 => hw0 (Or.inr (Or.inl z9))))) h.us (Classical.not_not.mp (fun z9 => hw0 (Or.inr (Or.inr z9)))))).1))
theorem iu_r_14 {M : vM} {n us i : Nat} {x y z : Int32} (h : IU M n us) (hi : i < n) (h1 : M.1 (tb i) 0 = 1) (hw0 : ¬ fWrong M (tb i) 14 x y z) : Kp (fRest M n (tb i) 14 x y z) n 14 := by
  exact Kp.same (us := us) (iu_reg (v := M.2 16 (pl (rgx M (tb i) y))) h hi ((h.cell (nP (h.reg hi (rg16 (fun z9 => hw0 (Or.inr (Or.inl z9))))) h.us (Classical.not_not.mp (fun z9 => hw0 (Or.inr (Or.inr z9)))))).2))
theorem iu_r_15 {M : vM} {n us i : Nat} {x y z : Int32} (h : IU M n us) (hi : i < n) (h1 : M.1 (tb i) 0 = 1) (hw0 : ¬ fWrong M (tb i) 15 x y z) : Kp (fRest M n (tb i) 15 x y z) n 15 := by
  obtain ⟨u9, hu9⟩ := iu_made (ip := false) (x := x) (y := y) (z := z) h hi (rg16 (fun z9 => hw0 (Or.inr z9))) (fun z9 => absurd z9 (by decide))
  exact Kp.same (us := u9) hu9
theorem iu_r_16 {M : vM} {n us i : Nat} {x y z : Int32} (h : IU M n us) (hi : i < n) (h1 : M.1 (tb i) 0 = 1) (hw0 : ¬ fWrong M (tb i) 16 x y z) (hin : fIn M (tb i)) : Kp (fRest M n (tb i) 16 x y z) n 16 := by
  exact Kp.same (us := us) (iu_reading h hi hin ((h.reg hi (rg16 (fun z9 => hw0 (Or.inr (Or.inl z9))))).isVV h.us (Classical.not_not.mp (fun z9 => hw0 (Or.inr (Or.inr z9))))))
theorem iu_r_17 {M : vM} {n us i : Nat} {x y z : Int32} (h : IU M n us) (hi : i < n) (h1 : M.1 (tb i) 0 = 1) (hw0 : ¬ fWrong M (tb i) 17 x y z) (hin : fIn M (tb i)) : Kp (fRest M n (tb i) 17 x y z) n 17 := by
  show Kp (if M.1 (tb i) 6 = 40 then (M, -5) else (mI (mL (mL M (tb i + 16) (nn (M.1 (tb i) 6)) (rgx M (tb i) x)) (tb i + 17) (nn (M.1 (tb i) 6)) (rgx M (tb i) y)) (tb i) 6 (M.1 (tb i) 6 + 1), 0)) n 17
  split
  · exact Kp.same h
  next hne =>
    obtain ⟨ca, e, r, w, hI⟩ := h.at hi
    obtain ⟨h3, hca, h4, he, h5, hr, h6, hw, hso, huq, hct, hctm, hwt, hwtm, hwt0, hpk, hst, hem, hov, hrg, hsv, hrd, hwr, hva⟩ := id hI
    obtain ⟨k, hk9, h0, -⟩ := fIn_at hI hin
    have hw4 : w ≠ 40 := fun z9 => hne (by rw [h6, z9]; rfl)
    exact Kp.same (us := us) (h.t1 hi (sm_write tb22) (ti_write tb22 hI (by rw [h6, nn_nI (by omega)]) (by rw [h6, nI_1]) (by omega) ((h.reg hi (rg16 (fun z9 => hw0 (Or.inl z9)))).isVV h.us (Classical.not_not.mp (fun z9 => hw0 (Or.inr (Or.inr z9))))) (h.reg hi (rg16 (fun z9 => hw0 (Or.inr (Or.inl z9))))) ⟨k, hk9, h0⟩))
theorem iu_r_18 {M : vM} {n us i : Nat} {x y z : Int32} (h : IU M n us) (hi : i < n) (h1 : M.1 (tb i) 0 = 1) (hw0 : ¬ fWrong M (tb i) 18 x y z) (hnin : ¬ fIn M (tb i)) : Kp (fRest M n (tb i) 18 x y z) n 18 := by
  show Kp (if M.1 (tb i) 4 = 24 then (M, -4) else (fNest (mI M (tb i) 7 (M.1 0 4)) (tb i) (nn (M.1 (tb i) 4)) 0 (M.1 (tb i) 2), 0)) n 18
  split
  · exact Kp.same h
  next hne =>
    obtain ⟨ca, e, r, w, hI⟩ := h.at hi
    obtain ⟨h3, hca, h4, he, h5, hr, h6, hw, hso, huq, hct, hctm, hwt, hwtm, hwt0, hpk, hst, hem, hov, hrg, hsv, hrd, hwr, hva⟩ := id hI
    have he4 : e ≠ 24 := fun z9 => hne (by rw [h4, z9]; rfl)
    exact Kp.same (us := us) ((iu_ob7 (v := M.1 0 4) h hi).t1 hi (sm_nest tb22) (ti_nest tb22 (ti_ob7 tb22 hI) (by rw [h4, nn_nI (by omega)]) (by omega) (Or.inl rfl) (fun _ k hk z9 => hnin ⟨k, by rw [h4, nn_nI (by omega)]; exact hk, by rw [mI_n _ _ _ _ (by omega)] at z9; exact z9⟩) (by rw [mI_o _ _ _ _ (by decide)]; exact h1)))
theorem iu_r_20 {M : vM} {n us i : Nat} {x y z : Int32} (h : IU M n us) (hi : i < n) (h1 : M.1 (tb i) 0 = 1) (hw0 : ¬ fWrong M (tb i) 20 x y z) : Kp (fRest M n (tb i) 20 x y z) n 20 := by
  show Kp (if M.1 (tb i) 4 = 24 then (M, -4) else (fNest M (tb i) (nn (M.1 (tb i) 4)) 1 x, 0)) n 20
  split
  · exact Kp.same h
  next hne =>
    obtain ⟨ca, e, r, w, hI⟩ := h.at hi
    obtain ⟨h3, hca, h4, he, h5, hr, h6, hw, hso, huq, hct, hctm, hwt, hwtm, hwt0, hpk, hst, hem, hov, hrg, hsv, hrd, hwr, hva⟩ := id hI
    have he4 : e ≠ 24 := fun z9 => hne (by rw [h4, z9]; rfl)
    exact Kp.same (us := us) (h.t1 hi (sm_nest tb22) (ti_nest tb22 hI (by rw [h4, nn_nI (by omega)]) (by omega) (Or.inr (Or.inl rfl)) (fun z9 => absurd z9 (by decide)) h1))
theorem iu_r_22 {M : vM} {n us i : Nat} {x y z : Int32} (h : IU M n us) (hi : i < n) (h1 : M.1 (tb i) 0 = 1) (hw0 : ¬ fWrong M (tb i) 22 x y z) : Kp (fRest M n (tb i) 22 x y z) n 22 := by
  show Kp (if M.1 (tb i) 4 = 24 then (M, -4) else (fNest M (tb i) (nn (M.1 (tb i) 4)) 2 x, 0)) n 22
  split
  · exact Kp.same h
  next hne =>
    obtain ⟨ca, e, r, w, hI⟩ := h.at hi
    obtain ⟨h3, hca, h4, he, h5, hr, h6, hw, hso, huq, hct, hctm, hwt, hwtm, hwt0, hpk, hst, hem, hov, hrg, hsv, hrd, hwr, hva⟩ := id hI
    have he4 : e ≠ 24 := fun z9 => hne (by rw [h4, z9]; rfl)
    exact Kp.same (us := us) (h.t1 hi (sm_nest tb22) (ti_nest tb22 hI (by rw [h4, nn_nI (by omega)]) (by omega) (Or.inr (Or.inr rfl)) (fun z9 => absurd z9 (by decide)) h1))
theorem iu_r_19 {M : vM} {n us i : Nat} {x y z : Int32} (h : IU M n us) (hi : i < n) (h1 : M.1 (tb i) 0 = 1) (hw0 : ¬ fWrong M (tb i) 19 x y z) (hin : fIn M (tb i)) : Kp (fRest M n (tb i) 19 x y z) n 19 := by
  show Kp (if M.1 (tb i + 11) (nn (M.1 (tb i) 4) - 1) = 0 then (@ite _ (fValid M (tb i)) (Classical.propDecidable _) (fCommitted M n (tb i)) (fAborted M (tb i)), 0) else (M, -4)) n 19
  split
  next h0 =>
    by_cases hv : fValid M (tb i)
    · rw [if_pos hv]; exact Kp.same (us := us) (iu_committed h hi hin h1 h0)
    · rw [if_neg hv]; exact Kp.same (us := us) (iu_aborted h hi hin)
  · exact Kp.same h
theorem iu_r_21 {M : vM} {n us i : Nat} {x y z : Int32} (h : IU M n us) (hi : i < n) (h1 : M.1 (tb i) 0 = 1) (hw0 : ¬ fWrong M (tb i) 21 x y z) : Kp (fRest M n (tb i) 21 x y z) n 21 := by
  show Kp (if M.1 (tb i) 4 = 0 ∨ M.1 (tb i + 11) (nn (M.1 (tb i) 4) - 1) = 0 then (M, -4) else (mI (mI M (tb i) 4 (M.1 (tb i) 4 - 1)) (tb i) 2 x, 0)) n 21
  split
  · exact Kp.same h
  next hne =>
    obtain ⟨ca, e, r, w, hI⟩ := h.at hi
    obtain ⟨h3, hca, h4, he, h5, hr, h6, hw, hso, huq, hct, hctm, hwt, hwtm, hwt0, hpk, hst, hem, hov, hrg, hsv, hrd, hwr, hva⟩ := id hI
    have he0 : e ≠ 0 := fun z9 => hne (Or.inl (by rw [h4, z9]; rfl))
    have hq0 : M.1 (tb i + 11) (e - 1) ≠ 0 := fun z9 => hne (Or.inr (by rw [h4, nn_nI (by omega)]; exact z9))
    have h' : IU (mI M (tb i) 4 (M.1 (tb i) 4 - 1)) n us := h.t1 hi (sm_pop tb22) (ti_pop tb22 hI (q := e - 1) (by rw [h4]; obtain ⟨e1, rfl⟩ : ∃ e1, e = e1 + 1 := ⟨e - 1, by omega⟩; rw [nI_pred]; rfl) (by omega) hq0 h1)
    exact Kp.same (us := us) (iu_ob2 h' hi)
theorem iu_r_23 {M : vM} {n us i : Nat} {x y z : Int32} (h : IU M n us) (hi : i < n) (h1 : M.1 (tb i) 0 = 1) (hw0 : ¬ fWrong M (tb i) 23 x y z) (hin : fIn M (tb i)) : Kp (fRest M n (tb i) 23 x y z) n 23 := by
  exact Kp.same (us := us) (iu_retried h hi hin h1)
theorem iu_r_24 {M : vM} {n us i : Nat} {x y z : Int32} (h : IU M n us) (hi : i < n) (h1 : M.1 (tb i) 0 = 1) (hw0 : ¬ fWrong M (tb i) 24 x y z) : Kp (fRest M n (tb i) 24 x y z) n 24 := by
  obtain ⟨ca, e, r, w, hI⟩ := h.at hi
  have h4 := hI.2.2.1
  have he := hI.2.2.2.1
  show Kp (fThrow (tb i) (rgx M (tb i) x).toInt32 (nn (M.1 (tb i) 4)) M, 0) n 24
  rw [h4, nn_nI (by omega)]
  exact Kp.same (us := us) (iu_throw hi e M ca r w h h1 hI)
theorem iu_r_25 {M : vM} {n us i : Nat} {x y z : Int32} (h : IU M n us) (hi : i < n) (h1 : M.1 (tb i) 0 = 1) (hw0 : ¬ fWrong M (tb i) 25 x y z) : Kp (fRest M n (tb i) 25 x y z) n 25 := by
  obtain ⟨n9, hn9, h9⟩ := iu_fork (x := x) (y := y) h hi
  exact ⟨n9, us, h9, hn9, fun z9 => absurd rfl z9⟩
theorem iu_r_26 {M : vM} {n us i : Nat} {x y z : Int32} (h : IU M n us) (hi : i < n) (h1 : M.1 (tb i) 0 = 1) (hw0 : ¬ fWrong M (tb i) 26 x y z) : Kp (fRest M n (tb i) 26 x y z) n 26 := by
  exact Kp.same (us := us) (iu_print h)
theorem iu_r_27 {M : vM} {n us i : Nat} {x y z : Int32} (h : IU M n us) (hi : i < n) (h1 : M.1 (tb i) 0 = 1) (hw0 : ¬ fWrong M (tb i) 27 x y z) : Kp (fRest M n (tb i) 27 x y z) n 27 := by
  exact Kp.same (us := us) (iu_14 h (h.reg hi (rg16 (fun z9 => hw0 (Or.inr z9)))))
theorem iu_r_28 {M : vM} {n us i : Nat} {x y z : Int32} (h : IU M n us) (hi : i < n) (h1 : M.1 (tb i) 0 = 1) (hw0 : ¬ fWrong M (tb i) 28 x y z) : Kp (fRest M n (tb i) 28 x y z) n 28 := by
  exact Kp.same (us := us) (iu_reg (v := M.2 14 (nn y)) h hi (h.glo (ngl_not (fun z9 => hw0 (Or.inr z9))).2))
theorem iu_r_29 {M : vM} {n us i : Nat} {x y z : Int32} (h : IU M n us) (hi : i < n) (h1 : M.1 (tb i) 0 = 1) (hw0 : ¬ fWrong M (tb i) 29 x y z) : Kp (fRest M n (tb i) 29 x y z) n 29 := by
  show Kp (mL M (tb i + 8) (nn x) (@ite _ (isI (rgx M (tb i) y)) (Classical.propDecidable _) 0 (@ite _ (isP (rgx M (tb i) y)) (Classical.propDecidable _) 1 2)), 0) n 29
  refine Kp.same (us := us) (iu_reg h hi ?_)
  split
  · exact vO_0
  · split
    · exact vO_1
    · exact vO_2
theorem iu_rest {M : vM} {n us i : Nat} {x y z : Int32} (h : IU M n us) (hi : i < n) (h1 : M.1 (tb i) 0 = 1) : ∀ o, o ≤ 29 → ¬ fWrong M (tb i) o x y z → ((o = 16 ∨ o = 17 ∨ o = 19 ∨ o = 20 ∨ o = 23) → fIn M (tb i)) → ((o = 0 ∨ o = 18 ∨ o = 25 ∨ o = 26 ∨ o = 27) → ¬ fIn M (tb i)) → Kp (fRest M n (tb i) o x y z) n o
  | 0, _, hw0, hin, hout => iu_r_0 h hi h1 hw0
  | 1, _, hw0, hin, hout => iu_r_1 h hi h1 hw0
  | 2, _, hw0, hin, hout => iu_r_2 h hi h1 hw0
  | 3, _, hw0, hin, hout => iu_r_3 h hi h1 hw0
  | 4, _, hw0, hin, hout => iu_r_4 h hi h1 hw0
  | 5, _, hw0, hin, hout => iu_r_5 h hi h1 hw0
  | 6, _, hw0, hin, hout => iu_r_6 h hi h1 hw0
  | 7, _, hw0, hin, hout => iu_r_7 h hi h1 hw0
  | 8, _, hw0, hin, hout => iu_r_8 h hi h1 hw0
  | 9, _, hw0, hin, hout => iu_r_9 h hi h1 hw0
  | 10, _, hw0, hin, hout => iu_r_10 h hi h1 hw0
  | 11, _, hw0, hin, hout => iu_r_11 h hi h1 hw0
  | 12, _, hw0, hin, hout => iu_r_12 h hi h1 hw0
  | 13, _, hw0, hin, hout => iu_r_13 h hi h1 hw0
  | 14, _, hw0, hin, hout => iu_r_14 h hi h1 hw0
  | 15, _, hw0, hin, hout => iu_r_15 h hi h1 hw0
  | 16, _, hw0, hin, hout => iu_r_16 h hi h1 hw0 (hin (by decide))
  | 17, _, hw0, hin, hout => iu_r_17 h hi h1 hw0 (hin (by decide))
  | 18, _, hw0, hin, hout => iu_r_18 h hi h1 hw0 (hout (by decide))
  | 19, _, hw0, hin, hout => iu_r_19 h hi h1 hw0 (hin (by decide))
  | 20, _, hw0, hin, hout => iu_r_20 h hi h1 hw0
  | 21, _, hw0, hin, hout => iu_r_21 h hi h1 hw0
  | 22, _, hw0, hin, hout => iu_r_22 h hi h1 hw0
  | 23, _, hw0, hin, hout => iu_r_23 h hi h1 hw0 (hin (by decide))
  | 24, _, hw0, hin, hout => iu_r_24 h hi h1 hw0
  | 25, _, hw0, hin, hout => iu_r_25 h hi h1 hw0
  | 26, _, hw0, hin, hout => iu_r_26 h hi h1 hw0
  | 27, _, hw0, hin, hout => iu_r_27 h hi h1 hw0
  | 28, _, hw0, hin, hout => iu_r_28 h hi h1 hw0
  | 29, _, hw0, hin, hout => iu_r_29 h hi h1 hw0
  | o + 30, ho, _, _, _ => absurd ho (by omega)
theorem iu_known {M : vM} {n us i : Nat} {x y z : Int32} (h : IU M n us) (hi : i < n) (h1 : M.1 (tb i) 0 = 1) {o : Nat} (ho : o ≤ 29) : Kp (fKnown M n (tb i) o x y z) n o := by
  unfold fKnown
  split
  · exact Kp.same h
  next hw0 =>
    split
    next hin =>
      split
      · exact Kp.same h
      next hne => exact iu_rest h hi h1 o ho hw0 (fun _ => hin) (fun z9 => absurd z9 hne)
    next hnin =>
      split
      · exact Kp.same h
      next hne => exact iu_rest h hi h1 o ho hw0 (fun z9 => absurd z9 hne) (fun _ => hnin)
/-- a step of a task that runs -/
theorem iu_step {M : vM} {n us i : Nat} (h : IU M n us) (hi : i < n) (h1 : M.1 (tb i) 0 = 1) : ∃ n9 us9, IU (fStep M n (tb i)) n9 us9 ∧ n ≤ n9 := by
  unfold fStep
  dsimp only
  have hM1 : IU (mI (mI M 0 7 (M.1 0 7 + 1)) (tb i) 2 (M.1 (tb i) 2 + 1)) n us := iu_ob2 (iu_cnt h (by decide)) hi
  have hs1 : (mI (mI M 0 7 (M.1 0 7 + 1)) (tb i) 2 (M.1 (tb i) 2 + 1)).1 (tb i) 0 = 1 := by
    rw [mI_o _ _ _ _ (by decide), mI_n _ _ _ _ (by unfold tb; omega)]; exact h1
  generalize mI (mI M 0 7 (M.1 0 7 + 1)) (tb i) 2 (M.1 (tb i) 2 + 1) = N at hM1 hs1 ⊢
  split
  · exact ⟨n, us, iu_end hM1 hi (Or.inr rfl), Nat.le_refl _⟩
  · split
    · exact ⟨n, us, iu_end hM1 hi (Or.inr rfl), Nat.le_refl _⟩
    next hne =>
      have ho : nn (M.1 9 (nn (M.1 (tb i) 2))) ≤ 29 := by
        have h2 : ¬ M.1 9 (nn (M.1 (tb i) 2)) < 0 := fun z9 => hne (Or.inl z9)
        have h3 : ¬ 29 < M.1 9 (nn (M.1 (tb i) 2)) := fun z9 => hne (Or.inr z9)
        obtain ⟨j, hj, hj2⟩ := nI_of h2
        rw [hj2, nn_nI hj]
        rcases Nat.lt_or_ge 29 j with q9 | q9
        · rw [hj2] at h3; exact absurd (nI_lt (a := 29) (b := j) q9 hj) h3
        · exact q9
      obtain ⟨n9, us9, hk, hn9, -⟩ := iu_known (x := M.1 10 (nn (M.1 (tb i) 2))) (y := M.1 11 (nn (M.1 (tb i) 2))) (z := M.1 12 (nn (M.1 (tb i) 2))) hM1 hi hs1 ho
      split
      · exact ⟨n9, us9, iu_end hk (by omega) (Or.inr rfl), hn9⟩
      · exact ⟨n9, us9, hk, hn9⟩
