/-! CLASS AND REFERENCE: a new place, a new strand -/
theorem z_place {G N : vM} {n s us : Nat} {t p : Int32} {v1 v2 : Int64} (h : Sm G N n s) (hU : N.1 0 3 = nI us) (hu : us < 200) (ht : (t = 1 ∧ p = 1) ∨ (t = 2 ∧ p = 0 ∧ v2 = 0)) (h1 : ok1 v1) (h2 : ok1 v2) : Sm (gFill G us t v1 v2) (mI (mI (mL (mL (mI N 17 us p) 15 us v1) 16 us v2) 19 us 0) 0 3 (nI (us + 1))) n s := by
  obtain ⟨h5, hH⟩ := h.u hU (by omega)
  obtain ⟨hc, -, hok, hp, hs, hn, hg, hO, hT⟩ := h
  have a17 : (gFill G us t v1 v2).1 17 = upd (G.1 17) us t := by
    unfold gFill; rw [mI_n _ _ _ _ (by decide), mL_1, mL_1, mI_r]
  have a15 : (gFill G us t v1 v2).2 15 = vp_updL (G.2 15) us v1 := by
    unfold gFill; rw [mI_2, mL_n _ _ _ _ (by decide), mL_r]; rfl
  have a16 : (gFill G us t v1 v2).2 16 = vp_updL (G.2 16) us v2 := by
    unfold gFill; rw [mI_2, mL_r, mL_n _ _ _ _ (by decide)]; rfl
  have a5 : (gFill G us t v1 v2).1 1 5 = nI (us + 1) := mI_s _ _ _ _
  have ax : ∀ c, c ≠ 1 → c ≠ 17 → (gFill G us t v1 v2).1 c = G.1 c := fun c q1 q2 => by
    unfold gFill; rw [mI_n _ _ _ _ q1, mL_1, mL_1, mI_n _ _ _ _ q2]
  have ay : ∀ c, c ≠ 15 → c ≠ 16 → (gFill G us t v1 v2).2 c = G.2 c := fun c q1 q2 => by
    unfold gFill; rw [mI_2, mL_n _ _ _ _ q2, mL_n _ _ _ _ q1]; rfl
  generalize gFill G us t v1 v2 = G' at *
  have b17 : (mI (mI (mL (mL (mI N 17 us p) 15 us v1) 16 us v2) 19 us 0) 0 3 (nI (us + 1))).1 17 = upd (N.1 17) us p := by
    rw [mI_n _ _ _ _ (by decide), mI_n _ _ _ _ (by decide), mL_1, mL_1, mI_r]
  have b19 : (mI (mI (mL (mL (mI N 17 us p) 15 us v1) 16 us v2) 19 us 0) 0 3 (nI (us + 1))).1 19 = upd (N.1 19) us 0 := by
    rw [mI_n _ _ _ _ (by decide), mI_r, mL_1, mL_1, mI_n _ _ _ _ (by decide)]
  have b15 : (mI (mI (mL (mL (mI N 17 us p) 15 us v1) 16 us v2) 19 us 0) 0 3 (nI (us + 1))).2 15 = vp_updL (N.2 15) us v1 := by
    rw [mI_2, mI_2, mL_n _ _ _ _ (by decide), mL_r]; rfl
  have b16 : (mI (mI (mL (mL (mI N 17 us p) 15 us v1) 16 us v2) 19 us 0) 0 3 (nI (us + 1))).2 16 = vp_updL (N.2 16) us v2 := by
    rw [mI_2, mI_2, mL_r, mL_n _ _ _ _ (by decide)]; rfl
  have b3 : (mI (mI (mL (mL (mI N 17 us p) 15 us v1) 16 us v2) 19 us 0) 0 3 (nI (us + 1))).1 0 3 = nI (us + 1) := mI_s _ _ _ _
  have b0 : ∀ k, k ≠ 3 → (mI (mI (mL (mL (mI N 17 us p) 15 us v1) 16 us v2) 19 us 0) 0 3 (nI (us + 1))).1 0 k = N.1 0 k := fun k hk => by
    rw [mI_o _ _ _ _ hk, mI_n _ _ _ _ (by decide), mL_1, mL_1, mI_n _ _ _ _ (by decide)]
  have bx : ∀ c, c ≠ 0 → c ≠ 17 → c ≠ 19 → (mI (mI (mL (mL (mI N 17 us p) 15 us v1) 16 us v2) 19 us 0) 0 3 (nI (us + 1))).1 c = N.1 c := fun c q0 q1 q2 => by
    rw [mI_n _ _ _ _ q0, mI_n _ _ _ _ q2, mL_1, mL_1, mI_n _ _ _ _ q1]
  have bY : ∀ c, c ≠ 15 → c ≠ 16 → (mI (mI (mL (mL (mI N 17 us p) 15 us v1) 16 us v2) 19 us 0) 0 3 (nI (us + 1))).2 c = N.2 c := fun c q1 q2 => by
    rw [mI_2, mI_2, mL_n _ _ _ _ q2, mL_n _ _ _ _ q1]; rfl
  generalize mI (mI (mL (mL (mI N 17 us p) 15 us v1) 16 us v2) 19 us 0) 0 3 (nI (us + 1)) = N' at *
  refine ⟨?_, ⟨us + 1, b3, by omega, a5, fun q hq => ?_⟩, fun q hq => ?_, ?_, ?_, ?_, ?_, fun k hk => ?_, fun j hj => ?_⟩
  · obtain ⟨c1, c2, c3, c4⟩ := hc
    unfold sC
    rw [ax 0 (by decide) (by decide), b0 4 (by decide), b0 5 (by decide), b0 6 (by decide), b0 7 (by decide)]
    exact ⟨c1, c2, c3, c4⟩
  · rw [a17, a15, a16, b17, b15, b16, b19]
    by_cases hqu : q = us
    · rw [hqu, pk_us, pk_us, pk_uLs, pk_uLs, pk_uLs, pk_uLs, pk_us]
      rcases ht with ⟨rfl, rfl⟩ | ⟨rfl, rfl, rfl⟩
      · exact ⟨rfl, rfl, rfl⟩
      · exact ⟨rfl, rfl, rfl⟩
    · rw [pk_un hqu, pk_un hqu, pk_uLn hqu, pk_uLn hqu, pk_uLn hqu, pk_uLn hqu, pk_un hqu]
      exact hH q (by omega)
  · rw [a15, a16]
    by_cases hqu : q = us
    · rw [hqu, pk_uLs, pk_uLs]; exact ⟨h1, h2⟩
    · rw [pk_uLn hqu, pk_uLn hqu]; exact hok q hq
  · obtain ⟨pd, od, p1, p2, p3, p4, p5, p6⟩ := hp
    exact ⟨pd, od, by rw [ax 2 (by decide) (by decide)]; exact p1, p2, by rw [ax 2 (by decide) (by decide)]; exact p3, p4, by rw [b0 8 (by decide)]; exact p5, fun k hk => by rw [ax 21 (by decide) (by decide), bx 21 (by decide) (by decide) (by decide)]; exact p6 k hk⟩
  · rw [ax 3 (by decide) (by decide), b0 1 (by decide)]; exact hs
  · rw [ax 5 (by decide) (by decide), b0 2 (by decide)]; exact hn
  · rw [ay 14 (by decide) (by decide), bY 14 (by decide) (by decide)]; exact hg
  · rw [ax (ib k) (by unfold ib; omega) (by unfold ib; omega), bx 9 (by decide) (by decide) (by decide), bx 10 (by decide) (by decide) (by decide), bx 11 (by decide) (by decide) (by decide), bx 12 (by decide) (by decide) (by decide)]
    exact hO k hk
  · exact sT_cong (hT j hj) (fun k _ => ⟨ax _ (by unfold tb; omega) (by unfold tb; omega), ay _ (by unfold tb; omega) (by unfold tb; omega)⟩) (fun k _ => ⟨bx _ (by unfold tb; omega) (by unfold tb; omega) (by unfold tb; omega), bY _ (by unfold tb; omega) (by unfold tb; omega)⟩)
theorem z_fork1 {G N : vM} {n s : Nat} {R : Nat → Int64} {y : Int32} (h : Sm G N n s) (hn9 : n < 16) : Sm (gAdd5 (mRL (gNewS G (tb n) y) (tb n + 8) R) n) (mI (fNewT N (tb n) R y) 0 2 (nI (n + 1))) (n + 1) s := by
  obtain ⟨hc, ⟨us, u1, u2, u3, u4⟩, hok, hp, hs, hn, hg, hO, hT⟩ := h
  have hbn : 30 ≤ tb n := by unfold tb; omega
  have hbt : tb n + 20 ≤ 400 := by unfold tb; omega
  have g1 : ∀ c, c ≠ 5 → (c < tb n ∨ tb n + 18 < c) → (gAdd5 (mRL (gNewS G (tb n) y) (tb n + 8) R) n).1 c = G.1 c := fun c h5 q => by
    rw [gAdd5_n h5, mRL_1]; exact (gNewS_o q).1
  have g2 : ∀ c, (c < tb n ∨ tb n + 18 < c) → (gAdd5 (mRL (gNewS G (tb n) y) (tb n + 8) R) n).2 c = G.2 c := fun c q => by
    show (mRL (gNewS G (tb n) y) (tb n + 8) R).2 c = _
    rw [mRL_n _ _ _ (by omega)]; exact (gNewS_o q).2
  have g5 : (gAdd5 (mRL (gNewS G (tb n) y) (tb n + 8) R) n).1 5 2 = nI (n + 1) := mI_s _ _ _ _
  have t0 : (gAdd5 (mRL (gNewS G (tb n) y) (tb n + 8) R) n).1 (tb n) = fun k => if k = 8 then 1 else if k = 10 then y else if k = 13 then -1 else 0 := by
    rw [gAdd5_n (by omega), mRL_1]; exact if_pos rfl
  have tz : ∀ k, (10 ≤ k ∧ k ≤ 16) ∨ k = 18 → (gAdd5 (mRL (gNewS G (tb n) y) (tb n + 8) R) n).1 (tb n + k) = fun _ => 0 := fun k hk => by
    rw [gAdd5_n (by omega), mRL_1]
    show (if tb n + k = tb n then _ else if (tb n + 10 ≤ tb n + k ∧ tb n + k ≤ tb n + 16) ∨ tb n + k = tb n + 18 then _ else _) = _
    rw [if_neg (by omega), if_pos (by omega)]
  have t8 : (gAdd5 (mRL (gNewS G (tb n) y) (tb n + 8) R) n).2 (tb n + 8) = R := mRL_r _ _ _
  have tz2 : ∀ k, k = 9 ∨ k = 17 → (gAdd5 (mRL (gNewS G (tb n) y) (tb n + 8) R) n).2 (tb n + k) = fun _ => 0 := fun k hk => by
    show (mRL (gNewS G (tb n) y) (tb n + 8) R).2 (tb n + k) = _
    rw [mRL_n _ _ _ (by omega)]
    show (if tb n + k = tb n + 8 ∨ tb n + k = tb n + 9 ∨ tb n + k = tb n + 17 then _ else _) = _
    rw [if_pos (by omega)]
  generalize gAdd5 (mRL (gNewS G (tb n) y) (tb n + 8) R) n = G' at *
  have f0 : ∀ k, k ≠ 2 → (mI (fNewT N (tb n) R y) 0 2 (nI (n + 1))).1 0 k = N.1 0 k := fun k hk => by
    rw [mI_o _ _ _ _ hk]
    show (if 0 = tb n then _ else if tb n + 10 ≤ 0 ∧ 0 ≤ tb n + 14 then _ else N.1 0) k = _
    rw [if_neg (by omega), if_neg (by omega)]
  have f02 : (mI (fNewT N (tb n) R y) 0 2 (nI (n + 1))).1 0 2 = nI (n + 1) := mI_s _ _ _ _
  have f1 : ∀ c, c ≠ 0 → (c < tb n ∨ tb n + 20 ≤ c) → (mI (fNewT N (tb n) R y) 0 2 (nI (n + 1))).1 c = N.1 c := fun c h0 hc => by
    rw [mI_n _ _ _ _ h0]
    show (if c = tb n then _ else if tb n + 10 ≤ c ∧ c ≤ tb n + 14 then _ else N.1 c) = _
    rw [if_neg (by omega), if_neg (by omega)]
  have f2 : ∀ c, (c < tb n ∨ tb n + 20 ≤ c) → (mI (fNewT N (tb n) R y) 0 2 (nI (n + 1))).2 c = N.2 c := fun c hc => by
    show (if c = tb n + 8 then _ else if c = tb n + 9 ∨ (tb n + 15 ≤ c ∧ c ≤ tb n + 17) then _ else N.2 c) = _
    rw [if_neg (by omega), if_neg (by omega)]
  have n0 : (mI (fNewT N (tb n) R y) 0 2 (nI (n + 1))).1 (tb n) = fun k => if k = 0 then 1 else if k = 2 then y else 0 := by
    rw [mI_n _ _ _ _ (by omega)]; exact if_pos rfl
  have nz : ∀ k, 10 ≤ k ∧ k ≤ 14 → (mI (fNewT N (tb n) R y) 0 2 (nI (n + 1))).1 (tb n + k) = fun _ => 0 := fun k hk => by
    rw [mI_n _ _ _ _ (by omega)]
    show (if tb n + k = tb n then _ else if tb n + 10 ≤ tb n + k ∧ tb n + k ≤ tb n + 14 then _ else _) = _
    rw [if_neg (by omega), if_pos (by omega)]
  have n8 : (mI (fNewT N (tb n) R y) 0 2 (nI (n + 1))).2 (tb n + 8) = R := if_pos rfl
  have nz2 : ∀ k, k = 9 ∨ (15 ≤ k ∧ k ≤ 17) → (mI (fNewT N (tb n) R y) 0 2 (nI (n + 1))).2 (tb n + k) = fun _ => 0 := fun k hk => by
    show (if tb n + k = tb n + 8 then _ else if tb n + k = tb n + 9 ∨ (tb n + 15 ≤ tb n + k ∧ tb n + k ≤ tb n + 17) then _ else _) = _
    rw [if_neg (by omega), if_pos (by omega)]
  generalize mI (fNewT N (tb n) R y) 0 2 (nI (n + 1)) = N' at *
  refine ⟨?_, ⟨us, by rw [f0 3 (by decide)]; exact u1, u2, by rw [g1 1 (by decide) (by omega)]; exact u3, fun q hq => ?_⟩, fun q hq => ?_, ?_, ?_, ⟨g5, f02, by omega⟩, ?_, fun k hk => ?_, fun j hj => ?_⟩
  · obtain ⟨c1, c2, c3, c4⟩ := hc
    unfold sC
    rw [g1 0 (by decide) (by omega), f0 4 (by decide), f0 5 (by decide), f0 6 (by decide), f0 7 (by decide)]
    exact ⟨c1, c2, c3, c4⟩
  · rw [g1 17 (by decide) (by omega), g2 15 (by omega), g2 16 (by omega), f1 17 (by decide) (by omega), f1 19 (by decide) (by omega), f2 15 (by omega), f2 16 (by omega)]
    exact u4 q hq
  · rw [g2 15 (by omega), g2 16 (by omega)]; exact hok q hq
  · obtain ⟨pd, od, p1, p2, p3, p4, p5, p6⟩ := hp
    exact ⟨pd, od, by rw [g1 2 (by decide) (by omega)]; exact p1, p2, by rw [g1 2 (by decide) (by omega)]; exact p3, p4, by rw [f0 8 (by decide)]; exact p5, fun k hk => by rw [g1 21 (by decide) (by omega), f1 21 (by decide) (by omega)]; exact p6 k hk⟩
  · rw [g1 3 (by decide) (by omega), f0 1 (by decide)]; exact hs
  · rw [g2 14 (by omega), f2 14 (by omega)]; exact hg
  · rw [g1 (ib k) (by unfold ib; omega) (by unfold ib; omega), f1 9 (by decide) (by omega), f1 10 (by decide) (by omega), f1 11 (by decide) (by omega), f1 12 (by decide) (by omega)]
    exact hO k hk
  · by_cases hjn : j = n
    · subst hjn
      unfold sT sR sA
      rw [t0, tz 10 (by omega), tz 11 (by omega), tz 12 (by omega), tz 13 (by omega), tz 14 (by omega), tz 15 (by omega), tz 16 (by omega), tz 18 (by omega), t8, tz2 9 (by omega), tz2 17 (by omega), n0, nz 10 (by omega), nz 11 (by omega), nz 12 (by omega), nz 13 (by omega), nz 14 (by omega), n8, nz2 9 (by omega), nz2 15 (by omega), nz2 16 (by omega), nz2 17 (by omega)]
      exact ⟨⟨rfl, rfl, rfl, rfl, rfl, rfl, rfl, rfl, rfl, rfl, rfl, rfl, rfl, rfl, rfl, rfl, rfl⟩, rfl, Or.inr ⟨rfl, fun k hk => absurd hk (Nat.not_lt_zero k)⟩, fun _ => rfl⟩
    · have hj2 : j < n := by omega
      exact sT_cong (hT j hj2) (fun k hk => ⟨g1 _ (by unfold tb; omega) (by unfold tb; omega), g2 _ (by unfold tb; omega)⟩) (fun k hk => ⟨f1 _ (by unfold tb; omega) (by unfold tb; omega), f2 _ (by unfold tb; omega)⟩)
theorem z_fork {G N : vM} {n s i : Nat} {x y : Int32} (h : Sm G N n s) (hi : i < n) : Sm (gFork G n (tb i) x y) (fFork N n (tb i) x y) (if n = 16 then n else n + 1) s := by
  have h16 : n ≤ 16 := h.2.2.2.2.2.1.2.2
  unfold gFork fFork
  by_cases hn : n = 16
  · rw [if_pos hn, if_pos hn, if_pos hn]
    exact z_reg h hi
  · rw [if_neg hn, if_neg hn, if_neg hn]
    dsimp only
    have h1 : Sm (mL G (tb i + 8) (nn x) (nI n).toInt64) (mL N (tb i + 8) (nn x) (nI n).toInt64) n s := z_reg h hi
    have e1 : (gNewS (mL G (tb i + 8) (nn x) (nI n).toInt64) (tb n) y).2 (tb i + 8) = (mL N (tb i + 8) (nn x) (nI n).toInt64).2 (tb i + 8) := (gNewS_o (by unfold tb; omega)).2.trans (h1.reg hi)
    have e2 : (gNewS (mL G (tb i + 8) (nn x) (nI n).toInt64) (tb n) y).2 (tb n + 8) = fun _ => 0 := if_pos (Or.inl rfl)
    have e3 : vcp ((mL N (tb i + 8) (nn x) (nI n).toInt64).2 (tb i + 8)) 0 0 16 (fun _ => 0) = fun k => if k < 16 then (mL N (tb i + 8) (nn x) (nI n).toInt64).2 (tb i + 8) k else 0 := by
      funext k
      unfold vcp
      by_cases hk : k < 16
      · rw [if_pos ⟨Nat.zero_le k, by omega⟩, if_pos hk, Nat.zero_add, Nat.sub_zero]
      · rw [if_neg (fun z9 => hk (by omega)), if_neg hk]
    rw [e1, e2, e3]
    exact z_fork1 h1 (by omega)
