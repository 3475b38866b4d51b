/-! CLASS AND REFERENCE: the relation -/
/-- a strand and a task: what is alike (the class's number of nests and its atomic nest stand apart) -/
def sR (G N : vM) (b : Nat) : Prop :=
  G.1 b 8 = N.1 b 0 ∧ G.1 b 9 = N.1 b 1 ∧ G.1 b 10 = N.1 b 2 ∧ G.1 b 11 = N.1 b 3 ∧ G.1 (b + 18) 3 = N.1 b 5 ∧ G.1 (b + 18) 4 = N.1 b 6 ∧ G.1 (b + 18) 5 = N.1 b 7 ∧
  G.1 (b + 10) = N.1 (b + 10) ∧ G.1 (b + 11) = N.1 (b + 11) ∧ G.1 (b + 12) = N.1 (b + 12) ∧ G.1 (b + 13) = N.1 (b + 13) ∧ G.1 (b + 14) = N.1 (b + 14) ∧
  G.2 (b + 8) = N.2 (b + 8) ∧ G.2 (b + 9) = N.2 (b + 9) ∧ G.1 (b + 15) = (fun k => (N.2 (b + 15) k).toInt32) ∧ G.1 (b + 16) = (fun k => (N.2 (b + 16) k).toInt32) ∧ G.2 (b + 17) = N.2 (b + 17)
/-- where the atomic nest is among e nests -/
def sA (G N : vM) (b e : Nat) : Prop := (∃ k, k < e ∧ N.1 (b + 11) k = 0 ∧ G.1 b 13 = nI k) ∨ (G.1 b 13 = -1 ∧ ∀ k, k < e → N.1 (b + 11) k ≠ 0)
def sT (G N : vM) (b : Nat) : Prop := sR G N b ∧ G.1 b 12 = N.1 b 4 ∧ sA G N b (nn (N.1 b 4)) ∧ (N.1 b 0 = 1 ∨ N.1 b 0 = 2 → N.1 b 1 = 0)
theorem gDrop_12 {M : vM} {b : Nat} {k : Int32} : (gDrop M b k).1 b 12 = k := by
  unfold gDrop
  split
  · rw [mI_o _ _ _ _ (by decide), mI_s]
  · rw [mI_s]
theorem gDrop_13 {M : vM} {b : Nat} {k : Int32} : (gDrop M b k).1 b 13 = if k ≤ M.1 b 13 then -1 else M.1 b 13 := by
  unfold gDrop
  split
  · rw [mI_s]
  · rw [mI_o _ _ _ _ (by decide)]
theorem sR_pc {G N : vM} {b : Nat} {v : Int32} (h : sR G N b) : sR (mI G b 10 v) (mI N b 2 v) b := by
  obtain ⟨h1, h2, h3, h4, h5, h6, h7, h8, h9, h10, h11, h12, h13, h14, h15, h16, h17⟩ := h
  simp [sR, mI, mL, mRI, mRL, va_up, upd, vp_updL, h1, h2, h3, h4, h5, h6, h7, h8, h9, h10, h11, h12, h13, h14, h15, h16, h17]
theorem sR_reg {G N : vM} {b : Nat} {j : Nat} {v : Int64} (h : sR G N b) : sR (mL G (b + 8) j v) (mL N (b + 8) j v) b := by
  obtain ⟨h1, h2, h3, h4, h5, h6, h7, h8, h9, h10, h11, h12, h13, h14, h15, h16, h17⟩ := h
  simp [sR, mI, mL, mRI, mRL, va_up, upd, vp_updL, h1, h2, h3, h4, h5, h6, h7, h8, h9, h10, h11, h12, h13, h14, h15, h16, h17]
theorem sR_stop {G N : vM} {b : Nat} (h : sR G N b) (q1 : N.1 b 1 = 0) (q5 : N.1 b 5 = 0) (q6 : N.1 b 6 = 0) : sR (mI G b 8 3) (fEnd N b 3 0) b := by
  obtain ⟨h1, h2, h3, h4, h5, h6, h7, h8, h9, h10, h11, h12, h13, h14, h15, h16, h17⟩ := h
  simp [sR, fEnd, q1, q5, q6, mI, mL, mRI, mRL, va_up, upd, vp_updL, h1, h2, h3, h4, h5, h6, h7, h8, h9, h10, h11, h12, h13, h14, h15, h16, h17]
theorem sR_end {G N : vM} {b : Nat} {why : Int32} (h : sR G N b) : sR (gFail G b why) (fEnd N b 4 why) b := by
  obtain ⟨h1, h2, h3, h4, h5, h6, h7, h8, h9, h10, h11, h12, h13, h14, h15, h16, h17⟩ := h
  simp [sR, gFail, gClear, fEnd, gDrop_o, gDrop_n, gDrop_2, mI, mL, mRI, mRL, va_up, upd, vp_updL, h1, h2, h3, h4, h5, h6, h7, h8, h9, h10, h11, h12, h13, h14, h15, h16, h17]
theorem sR_enter {G N : vM} {b : Nat} {ca : Nat} {x v : Int32} (h : sR G N b) (hv : nI (ca + 1) = v) : sR (gEnter G b ca x) (mI (mI (mI N (b + 10) ca (N.1 b 2)) b 3 v) b 2 x) b := by
  obtain ⟨h1, h2, h3, h4, h5, h6, h7, h8, h9, h10, h11, h12, h13, h14, h15, h16, h17⟩ := h
  simp [sR, gEnter, hv, mI, mL, mRI, mRL, va_up, upd, vp_updL, h1, h2, h3, h4, h5, h6, h7, h8, h9, h10, h11, h12, h13, h14, h15, h16, h17]
theorem sR_leave {G N : vM} {b : Nat} {ca : Nat} {v : Int32} (h : sR G N b) (hv : nI (ca - 1) = v) : sR (gLeave G b ca) (mI (mI N b 3 v) b 2 (N.1 (b + 10) (ca - 1))) b := by
  obtain ⟨h1, h2, h3, h4, h5, h6, h7, h8, h9, h10, h11, h12, h13, h14, h15, h16, h17⟩ := h
  simp [sR, gLeave, hv, mI, mL, mRI, mRL, va_up, upd, vp_updL, h1, h2, h3, h4, h5, h6, h7, h8, h9, h10, h11, h12, h13, h14, h15, h16, h17]
theorem sR_open {G N : vM} {b : Nat} {e : Nat} {kd al : Int32} (h : sR G N b) : sR (gOpen G b e kd al) (fNest N b e kd al) b := by
  obtain ⟨h1, h2, h3, h4, h5, h6, h7, h8, h9, h10, h11, h12, h13, h14, h15, h16, h17⟩ := h
  simp [sR, gOpen, fNest, mI, mL, mRI, mRL, va_up, upd, vp_updL, h1, h2, h3, h4, h5, h6, h7, h8, h9, h10, h11, h12, h13, h14, h15, h16, h17] <;> split <;> simp [mI, mL, mRI, mRL, va_up, upd, vp_updL, h1, h2, h3, h4, h5, h6, h7, h8, h9, h10, h11, h12, h13, h14, h15, h16, h17]
theorem sR_begin {G N : vM} {b : Nat} {c : Int32} (h : sR G N b) (q5 : N.1 b 5 = 0) (q6 : N.1 b 6 = 0) : sR (gBegin G b c) (mI N b 7 c) b := by
  obtain ⟨h1, h2, h3, h4, h5, h6, h7, h8, h9, h10, h11, h12, h13, h14, h15, h16, h17⟩ := h
  simp [sR, gBegin, q5, q6, mI, mL, mRI, mRL, va_up, upd, vp_updL, h1, h2, h3, h4, h5, h6, h7, h8, h9, h10, h11, h12, h13, h14, h15, h16, h17]
theorem sR_roll {G N : vM} {b : Nat} {k : Nat} (h : sR G N b) : sR (gBack G b k) (fRollBack N b k) b := by
  obtain ⟨h1, h2, h3, h4, h5, h6, h7, h8, h9, h10, h11, h12, h13, h14, h15, h16, h17⟩ := h
  simp [sR, gBack, gRest, fRollBack, fRestore, gDrop_o, gDrop_n, gDrop_2, mI, mL, mRI, mRL, va_up, upd, vp_updL, h1, h2, h3, h4, h5, h6, h7, h8, h9, h10, h11, h12, h13, h14, h15, h16, h17]
theorem sR_again {G N : vM} {b : Nat} {k : Nat} {c : Int32} (h : sR G N b) (q1 : N.1 b 0 = 1) : sR (gAgain G b k c) (fAgain N b k c) b := by
  obtain ⟨h1, h2, h3, h4, h5, h6, h7, h8, h9, h10, h11, h12, h13, h14, h15, h16, h17⟩ := h
  simp [sR, gAgain, gBegin, gRest, fAgain, fRestore, gDrop_o, gDrop_n, gDrop_2, q1, mI, mL, mRI, mRL, va_up, upd, vp_updL, h1, h2, h3, h4, h5, h6, h7, h8, h9, h10, h11, h12, h13, h14, h15, h16, h17]
theorem sR_wake {G N : vM} {b : Nat} {k : Nat} {c : Int32} (h : sR G N b) : sR (gAgain (mI G b 8 1) b k c) (fAgain N b k c) b := by
  obtain ⟨h1, h2, h3, h4, h5, h6, h7, h8, h9, h10, h11, h12, h13, h14, h15, h16, h17⟩ := h
  simp [sR, gAgain, gBegin, gRest, fAgain, fRestore, gDrop_o, gDrop_n, gDrop_2, mI, mL, mRI, mRL, va_up, upd, vp_updL, h1, h2, h3, h4, h5, h6, h7, h8, h9, h10, h11, h12, h13, h14, h15, h16, h17]
theorem sR_drop {G N : vM} {b : Nat} {k v : Int32} (h : sR G N b) : sR (gDrop G b k) (mI N b 4 v) b := by
  obtain ⟨h1, h2, h3, h4, h5, h6, h7, h8, h9, h10, h11, h12, h13, h14, h15, h16, h17⟩ := h
  simp [sR, gDrop_o, gDrop_n, gDrop_2, mI, mL, mRI, mRL, va_up, upd, vp_updL, h1, h2, h3, h4, h5, h6, h7, h8, h9, h10, h11, h12, h13, h14, h15, h16, h17]
theorem sR_clr {G N : vM} {b : Nat} (h : sR G N b) : sR (gClear G b) (mI (mI N b 5 0) b 6 0) b := by
  obtain ⟨h1, h2, h3, h4, h5, h6, h7, h8, h9, h10, h11, h12, h13, h14, h15, h16, h17⟩ := h
  simp [sR, gClear, mI, mL, mRI, mRL, va_up, upd, vp_updL, h1, h2, h3, h4, h5, h6, h7, h8, h9, h10, h11, h12, h13, h14, h15, h16, h17]
theorem sR_park {G N : vM} {b : Nat} (h : sR G N b) : sR (mI G b 8 2) (mI N b 0 2) b := by
  obtain ⟨h1, h2, h3, h4, h5, h6, h7, h8, h9, h10, h11, h12, h13, h14, h15, h16, h17⟩ := h
  simp [sR, mI, mL, mRI, mRL, va_up, upd, vp_updL, h1, h2, h3, h4, h5, h6, h7, h8, h9, h10, h11, h12, h13, h14, h15, h16, h17]
theorem sR_addR {G N : vM} {b : Nat} {r : Nat} {v : Int64} {x : Int32} (h : sR G N b) : sR (mI (mI G (b + 15) r v.toInt32) (b + 18) 3 x) (mI (mL N (b + 15) r v) b 5 x) b := by
  obtain ⟨h1, h2, h3, h4, h5, h6, h7, h8, h9, h10, h11, h12, h13, h14, h15, h16, h17⟩ := h
  simp [sR, mI, mL, mRI, mRL, va_up, upd, vp_updL, h1, h2, h3, h4, h5, h6, h7, h8, h9, h10, h11, h12, h13, h14, h15, h16, h17]
  funext k
  simp only [upd]
  split <;> rfl
theorem sR_addW {G N : vM} {b : Nat} {w : Nat} {v y : Int64} {x : Int32} (h : sR G N b) : sR (mI (mL (mI G (b + 16) w v.toInt32) (b + 17) w y) (b + 18) 4 x) (mI (mL (mL N (b + 16) w v) (b + 17) w y) b 6 x) b := by
  obtain ⟨h1, h2, h3, h4, h5, h6, h7, h8, h9, h10, h11, h12, h13, h14, h15, h16, h17⟩ := h
  simp [sR, mI, mL, mRI, mRL, va_up, upd, vp_updL, h1, h2, h3, h4, h5, h6, h7, h8, h9, h10, h11, h12, h13, h14, h15, h16, h17]
  funext k
  simp only [upd]
  split <;> rfl
theorem sR_cong {G G' N N' : vM} {b : Nat} (h : sR G N b) (hG : ∀ k, k < 20 → G'.1 (b + k) = G.1 (b + k) ∧ G'.2 (b + k) = G.2 (b + k)) (hN : ∀ k, k < 20 → N'.1 (b + k) = N.1 (b + k) ∧ N'.2 (b + k) = N.2 (b + k)) : sR G' N' b := by
  have g0 : G'.1 b = G.1 b := (hG 0 (by decide)).1
  have n0 : N'.1 b = N.1 b := (hN 0 (by decide)).1
  unfold sR at h ⊢
  rw [g0, n0, (hG 10 (by decide)).1, (hG 11 (by decide)).1, (hG 12 (by decide)).1, (hG 13 (by decide)).1, (hG 14 (by decide)).1, (hG 15 (by decide)).1, (hG 16 (by decide)).1, (hG 18 (by decide)).1, (hG 8 (by decide)).2, (hG 9 (by decide)).2, (hG 17 (by decide)).2, (hN 10 (by decide)).1, (hN 11 (by decide)).1, (hN 12 (by decide)).1, (hN 13 (by decide)).1, (hN 14 (by decide)).1, (hN 8 (by decide)).2, (hN 9 (by decide)).2, (hN 15 (by decide)).2, (hN 16 (by decide)).2, (hN 17 (by decide)).2]
  exact h
theorem sT_cong {G G' N N' : vM} {b : Nat} (h : sT G N b) (hG : ∀ k, k < 20 → G'.1 (b + k) = G.1 (b + k) ∧ G'.2 (b + k) = G.2 (b + k)) (hN : ∀ k, k < 20 → N'.1 (b + k) = N.1 (b + k) ∧ N'.2 (b + k) = N.2 (b + k)) : sT G' N' b := by
  have g0 : G'.1 b = G.1 b := (hG 0 (by decide)).1
  have n0 : N'.1 b = N.1 b := (hN 0 (by decide)).1
  refine ⟨sR_cong h.1 hG hN, ?_, ?_, ?_⟩
  · rw [g0, n0]; exact h.2.1
  · unfold sA; rw [g0, n0, (hN 11 (by decide)).1]; exact h.2.2.1
  · rw [n0]; exact h.2.2.2
theorem sA_cut {G N G' N' : vM} {b E k : Nat} (hA : sA G N b E) (huq : ∀ j q, j < E → q < E → N.1 (b + 11) j = 0 → N.1 (b + 11) q = 0 → j = q) (hk : k ≤ E) (hE : E ≤ 24) (g13 : G'.1 b 13 = if nI k ≤ G.1 b 13 then -1 else G.1 b 13) (n11 : N'.1 (b + 11) = N.1 (b + 11)) : sA G' N' b k := by
  unfold sA
  rw [g13, n11]
  rcases hA with ⟨a, ha, h0, h13⟩ | ⟨h13, hn⟩
  · rw [h13]
    by_cases hka : k ≤ a
    · rw [if_pos (nI_le hka (by omega))]
      exact Or.inr ⟨rfl, fun q hq z9 => absurd (huq q a (by omega) ha z9 h0) (by omega)⟩
    · rw [if_neg (fun z9 => hka (le_of_nI z9 (by omega) (by omega)))]
      exact Or.inl ⟨a, by omega, h0, rfl⟩
  · rw [h13, if_neg (fun z9 => absurd (Int32.le_trans (nI_pos' (n := k) (by omega)) z9) (by decide))]
    exact Or.inr ⟨rfl, fun q hq => hn q (by omega)⟩
theorem sT_of {G N G' N' : vM} {b : Nat} (h : sT G N b) (hR : sR G' N' b) (g12 : G'.1 b 12 = G.1 b 12) (g13 : G'.1 b 13 = G.1 b 13) (n4 : N'.1 b 4 = N.1 b 4) (n11 : N'.1 (b + 11) = N.1 (b + 11)) (hc : N'.1 b 0 = 1 ∨ N'.1 b 0 = 2 → N'.1 b 1 = 0) : sT G' N' b := by
  refine ⟨hR, by rw [g12, n4]; exact h.2.1, ?_, hc⟩
  unfold sA
  rw [g13, n4, n11]
  exact h.2.2.1
/-- .. where the nests become k -/
theorem sT_cut {G N G' N' : vM} {b E k : Nat} (hA : sA G N b E) (huq : ∀ j q, j < E → q < E → N.1 (b + 11) j = 0 → N.1 (b + 11) q = 0 → j = q) (hk : k ≤ E) (hE : E ≤ 24) (hR : sR G' N' b) (g12 : G'.1 b 12 = nI k) (g13 : G'.1 b 13 = if nI k ≤ G.1 b 13 then -1 else G.1 b 13) (n4 : N'.1 b 4 = nI k) (n11 : N'.1 (b + 11) = N.1 (b + 11)) (hc : N'.1 b 0 = 1 ∨ N'.1 b 0 = 2 → N'.1 b 1 = 0) : sT G' N' b :=
  ⟨hR, g12.trans n4.symm, by rw [n4, nn_nI (by omega)]; exact sA_cut hA huq hk hE g13 n11, hc⟩
theorem sT_pc {G N : vM} {b : Nat} {v : Int32} (h : sT G N b) : sT (mI G b 10 v) (mI N b 2 v) b := sT_of h (sR_pc h.1) (by simp [mI, mL, mRI, mRL, va_up, upd, vp_updL]) (by simp [mI, mL, mRI, mRL, va_up, upd, vp_updL]) (by simp [mI, mL, mRI, mRL, va_up, upd, vp_updL]) (by simp [mI, mL, mRI, mRL, va_up, upd, vp_updL]) (by simp [mI, mL, mRI, mRL, va_up, upd, vp_updL]; exact h.2.2.2)
theorem sT_reg {G N : vM} {b : Nat} {j : Nat} {v : Int64} (h : sT G N b) : sT (mL G (b + 8) j v) (mL N (b + 8) j v) b := sT_of h (sR_reg h.1) (by simp [mI, mL, mRI, mRL, va_up, upd, vp_updL]) (by simp [mI, mL, mRI, mRL, va_up, upd, vp_updL]) (by simp [mI, mL, mRI, mRL, va_up, upd, vp_updL]) (by simp [mI, mL, mRI, mRL, va_up, upd, vp_updL]) (by simp [mI, mL, mRI, mRL, va_up, upd, vp_updL]; exact h.2.2.2)
theorem sT_enter {G N : vM} {b : Nat} {ca : Nat} {x v : Int32} (h : sT G N b) (hv : nI (ca + 1) = v) : sT (gEnter G b ca x) (mI (mI (mI N (b + 10) ca (N.1 b 2)) b 3 v) b 2 x) b := sT_of h (sR_enter h.1 hv) (by simp [gEnter, mI, mL, mRI, mRL, va_up, upd, vp_updL]) (by simp [gEnter, mI, mL, mRI, mRL, va_up, upd, vp_updL]) (by simp [gEnter, mI, mL, mRI, mRL, va_up, upd, vp_updL]) (by simp [gEnter, mI, mL, mRI, mRL, va_up, upd, vp_updL]) (by simp [mI, mL, mRI, mRL, va_up, upd, vp_updL]; exact h.2.2.2)
theorem sT_leave {G N : vM} {b : Nat} {ca : Nat} {v : Int32} (h : sT G N b) (hv : nI (ca - 1) = v) : sT (gLeave G b ca) (mI (mI N b 3 v) b 2 (N.1 (b + 10) (ca - 1))) b := sT_of h (sR_leave h.1 hv) (by simp [gLeave, mI, mL, mRI, mRL, va_up, upd, vp_updL]) (by simp [gLeave, mI, mL, mRI, mRL, va_up, upd, vp_updL]) (by simp [gLeave, mI, mL, mRI, mRL, va_up, upd, vp_updL]) (by simp [gLeave, mI, mL, mRI, mRL, va_up, upd, vp_updL]) (by simp [mI, mL, mRI, mRL, va_up, upd, vp_updL]; exact h.2.2.2)
theorem sT_addR {G N : vM} {b : Nat} {r : Nat} {v : Int64} {x : Int32} (h : sT G N b) : sT (mI (mI G (b + 15) r v.toInt32) (b + 18) 3 x) (mI (mL N (b + 15) r v) b 5 x) b := sT_of h (sR_addR h.1) (by simp [mI, mL, mRI, mRL, va_up, upd, vp_updL]) (by simp [mI, mL, mRI, mRL, va_up, upd, vp_updL]) (by simp [mI, mL, mRI, mRL, va_up, upd, vp_updL]) (by simp [mI, mL, mRI, mRL, va_up, upd, vp_updL]) (by simp [mI, mL, mRI, mRL, va_up, upd, vp_updL]; exact h.2.2.2)
theorem sT_addW {G N : vM} {b : Nat} {w : Nat} {v y : Int64} {x : Int32} (h : sT G N b) : sT (mI (mL (mI G (b + 16) w v.toInt32) (b + 17) w y) (b + 18) 4 x) (mI (mL (mL N (b + 16) w v) (b + 17) w y) b 6 x) b := sT_of h (sR_addW h.1) (by simp [mI, mL, mRI, mRL, va_up, upd, vp_updL]) (by simp [mI, mL, mRI, mRL, va_up, upd, vp_updL]) (by simp [mI, mL, mRI, mRL, va_up, upd, vp_updL]) (by simp [mI, mL, mRI, mRL, va_up, upd, vp_updL]) (by simp [mI, mL, mRI, mRL, va_up, upd, vp_updL]; exact h.2.2.2)
theorem sT_park {G N : vM} {b : Nat} (h : sT G N b) (h1 : N.1 b 0 = 1) : sT (mI G b 8 2) (mI N b 0 2) b := sT_of h (sR_park h.1) (by simp [mI, mL, mRI, mRL, va_up, upd, vp_updL]) (by simp [mI, mL, mRI, mRL, va_up, upd, vp_updL]) (by simp [mI, mL, mRI, mRL, va_up, upd, vp_updL]) (by simp [mI, mL, mRI, mRL, va_up, upd, vp_updL]) (by simp [mI, mL, mRI, mRL, va_up, upd, vp_updL]; exact h.2.2.2 (Or.inl h1))
theorem sT_stop {G N : vM} {b : Nat} (h : sT G N b) (h1 : N.1 b 0 = 1) (h4 : N.1 b 4 = 0) (q5 : N.1 b 5 = 0) (q6 : N.1 b 6 = 0) : sT (mI G b 8 3) (fEnd N b 3 0) b := by
  refine sT_of h (sR_stop h.1 (h.2.2.2 (Or.inl h1)) q5 q6) (by simp [mI, mL, mRI, mRL, va_up, upd, vp_updL]) (by simp [mI, mL, mRI, mRL, va_up, upd, vp_updL]) (by simp [fEnd, h4, mI, mL, mRI, mRL, va_up, upd, vp_updL]) (by simp [fEnd, mI, mL, mRI, mRL, va_up, upd, vp_updL]) ?_
  simp [fEnd, mI, mL, mRI, mRL, va_up, upd, vp_updL]
theorem sA_13 {G N : vM} {b e : Nat} (h : sA G N b e) (he : e ≤ 24) : G.1 b 13 = -1 ∨ 0 ≤ G.1 b 13 := by
  rcases h with ⟨a, ha, -, h13⟩ | ⟨h13, -⟩
  · exact Or.inr (by rw [h13]; exact nI_pos' (by omega))
  · exact Or.inl h13
theorem sT_end {G N : vM} {b : Nat} {why : Int32} (h : sR G N b) (h13 : G.1 b 13 = -1 ∨ 0 ≤ G.1 b 13) : sT (gFail G b why) (fEnd N b 4 why) b := by
  refine ⟨sR_end h, ?_, ?_, ?_⟩
  · simp [gFail, gClear, fEnd, gDrop_12, mI, mL, mRI, mRL, va_up, upd, vp_updL]
  · refine Or.inr ⟨?_, fun k hk => ?_⟩
    · have e1 : (gFail G b why).1 b 13 = if (0 : Int32) ≤ G.1 b 13 then -1 else G.1 b 13 := by
        simp [gFail, gClear, gDrop_13, mI, mL, mRI, mRL, va_up, upd, vp_updL]
      rw [e1]
      rcases h13 with h13 | h13
      · rw [h13]; decide
      · rw [if_pos h13]
    · have e2 : (fEnd N b 4 why).1 b 4 = 0 := by simp [fEnd, mI, mL, mRI, mRL, va_up, upd, vp_updL]
      rw [e2] at hk
      exact absurd hk (Nat.not_lt_zero k)
  · simp [fEnd, mI, mL, mRI, mRL, va_up, upd, vp_updL]
theorem sT_open {G N : vM} {b e : Nat} {kd al : Int32} (h : sT G N b) (h4 : N.1 b 4 = nI e) (he : e < 24) (hk : kd = 0 → ∀ k, k < e → N.1 (b + 11) k ≠ 0) : sT (gOpen G b e kd al) (fNest N b e kd al) b := by
  have e4 : (fNest N b e kd al).1 b 4 = nI (e + 1) := by simp [fNest, mI, mL, mRI, mRL, va_up, upd, vp_updL]
  have e11 : (fNest N b e kd al).1 (b + 11) = upd (N.1 (b + 11)) e kd := by simp [fNest, mI, mL, mRI, mRL, va_up, upd, vp_updL]
  have hA := h.2.2.1
  rw [h4, nn_nI (by omega)] at hA
  refine ⟨sR_open h.1, ?_, ?_, ?_⟩
  · rw [e4]; simp [gOpen, mI, mL, mRI, mRL, va_up, upd, vp_updL]
  · rw [e4, nn_nI (by omega)]
    by_cases h0 : kd = 0
    · subst h0
      refine Or.inl ⟨e, by omega, by rw [e11]; exact pk_us, ?_⟩
      simp [gOpen, mI, mL, mRI, mRL, va_up, upd, vp_updL]
    · have e13 : (gOpen G b e kd al).1 b 13 = G.1 b 13 := by simp [gOpen, h0, mI, mL, mRI, mRL, va_up, upd, vp_updL]
      unfold sA
      rw [e13, e11]
      rcases hA with ⟨a, ha, q0, q13⟩ | ⟨q13, hn⟩
      · exact Or.inl ⟨a, by omega, by rw [pk_un (by omega)]; exact q0, q13⟩
      · refine Or.inr ⟨q13, fun k hk9 => ?_⟩
        by_cases hke : k = e
        · subst hke; rw [pk_us]; exact h0
        · rw [pk_un hke]; exact hn k (by omega)
  · simp [fNest, mI, mL, mRI, mRL, va_up, upd, vp_updL]; exact h.2.2.2
theorem sT_begin {G N : vM} {b : Nat} {c : Int32} (h : sT G N b) (q5 : N.1 b 5 = 0) (q6 : N.1 b 6 = 0) : sT (gBegin G b c) (mI N b 7 c) b := sT_of h (sR_begin h.1 q5 q6) (by simp [gBegin, mI, mL, mRI, mRL, va_up, upd, vp_updL]) (by simp [gBegin, mI, mL, mRI, mRL, va_up, upd, vp_updL]) (by simp [mI, mL, mRI, mRL, va_up, upd, vp_updL]) (by simp [mI, mL, mRI, mRL, va_up, upd, vp_updL]) (by simp [mI, mL, mRI, mRL, va_up, upd, vp_updL]; exact h.2.2.2)
theorem gRest_o {M : vM} {b k q : Nat} (h1 : q ≠ 10) (h2 : q ≠ 11) : (gRest M b k).1 b q = M.1 b q := by
  unfold gRest; rw [mRL_1, mI_o _ _ _ _ h1, mI_o _ _ _ _ h2]
theorem sT_roll {G N : vM} {b E k : Nat} (hR : sR G N b) (hA : sA G N b E) (huq : ∀ j q, j < E → q < E → N.1 (b + 11) j = 0 → N.1 (b + 11) q = 0 → j = q) (hk : k ≤ E) (hE : E ≤ 24) (hc : N.1 b 0 = 1 ∨ N.1 b 0 = 2 → N.1 b 1 = 0) : sT (gBack G b k) (fRollBack N b k) b := by
  refine sT_cut hA huq hk hE (sR_roll hR) ?_ ?_ ?_ ?_ ?_
  · unfold gBack; rw [gDrop_12]
  · unfold gBack; rw [gDrop_13, mI_n _ _ _ _ (by omega), gRest_o (by decide) (by decide)]
  · simp [fRollBack, fRestore, mI, mL, mRI, mRL, va_up, upd, vp_updL]
  · simp [fRollBack, fRestore, mI, mL, mRI, mRL, va_up, upd, vp_updL]
  · simp [fRollBack, fRestore, mI, mL, mRI, mRL, va_up, upd, vp_updL]; exact hc
theorem gAgain_12 {G : vM} {b k : Nat} {c : Int32} : (gAgain G b k c).1 b 12 = nI (k + 1) := by
  unfold gAgain; rw [gBegin_n (by omega), gDrop_12]
theorem gAgain_13 {G : vM} {b k : Nat} {c : Int32} : (gAgain G b k c).1 b 13 = if nI (k + 1) ≤ G.1 b 13 then -1 else G.1 b 13 := by
  unfold gAgain; rw [gBegin_n (by omega), gDrop_13, gRest_o (by decide) (by decide)]
theorem sT_again {G N : vM} {b E k : Nat} {c : Int32} (hR : sR G N b) (hA : sA G N b E) (huq : ∀ j q, j < E → q < E → N.1 (b + 11) j = 0 → N.1 (b + 11) q = 0 → j = q) (hk : k < E) (hE : E ≤ 24) (h1 : N.1 b 0 = 1) (hc : N.1 b 1 = 0) : sT (gAgain G b k c) (fAgain N b k c) b := by
  refine sT_cut hA huq hk hE (sR_again hR h1) gAgain_12 gAgain_13 ?_ ?_ ?_
  · simp [fAgain, fRestore, mI, mL, mRI, mRL, va_up, upd, vp_updL]
  · simp [fAgain, fRestore, mI, mL, mRI, mRL, va_up, upd, vp_updL]
  · simp [fAgain, fRestore, mI, mL, mRI, mRL, va_up, upd, vp_updL]; exact hc
theorem sT_wake {G N : vM} {b E k : Nat} {c : Int32} (hR : sR G N b) (hA : sA G N b E) (huq : ∀ j q, j < E → q < E → N.1 (b + 11) j = 0 → N.1 (b + 11) q = 0 → j = q) (hk : k < E) (hE : E ≤ 24) (hc : N.1 b 1 = 0) : sT (gAgain (mI G b 8 1) b k c) (fAgain N b k c) b := by
  refine sT_cut hA huq hk hE (sR_wake hR) gAgain_12 ?_ ?_ ?_ ?_
  · rw [gAgain_13, mI_o _ _ _ _ (by decide)]
  · simp [fAgain, fRestore, mI, mL, mRI, mRL, va_up, upd, vp_updL]
  · simp [fAgain, fRestore, mI, mL, mRI, mRL, va_up, upd, vp_updL]
  · simp [fAgain, fRestore, mI, mL, mRI, mRL, va_up, upd, vp_updL]; exact hc
theorem sT_drop {G N : vM} {b E k : Nat} {v : Int32} (h : sT G N b) (hE4 : N.1 b 4 = nI E) (huq : ∀ j q, j < E → q < E → N.1 (b + 11) j = 0 → N.1 (b + 11) q = 0 → j = q) (hk : k ≤ E) (hE : E ≤ 24) (hv : v = nI k) : sT (gDrop G b (nI k)) (mI N b 4 v) b := by
  have hA := h.2.2.1
  rw [hE4, nn_nI (by omega)] at hA
  subst hv
  refine sT_cut hA huq hk hE (sR_drop h.1) gDrop_12 gDrop_13 ?_ ?_ ?_
  · simp [mI, mL, mRI, mRL, va_up, upd, vp_updL]
  · simp [mI, mL, mRI, mRL, va_up, upd, vp_updL]
  · simp [mI, mL, mRI, mRL, va_up, upd, vp_updL]; exact h.2.2.2
theorem sT_clr {G N : vM} {b : Nat} (h : sT G N b) : sT (gClear G b) (mI (mI N b 5 0) b 6 0) b := sT_of h (sR_clr h.1) (by simp [gClear, mI, mL, mRI, mRL, va_up, upd, vp_updL]) (by simp [gClear, mI, mL, mRI, mRL, va_up, upd, vp_updL]) (by simp [mI, mL, mRI, mRL, va_up, upd, vp_updL]) (by simp [mI, mL, mRI, mRL, va_up, upd, vp_updL]) (by simp [mI, mL, mRI, mRL, va_up, upd, vp_updL]; exact h.2.2.2)
