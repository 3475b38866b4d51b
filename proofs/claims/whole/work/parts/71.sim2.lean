/-! CLASS AND REFERENCE: the whole relation -/
def sH (G N : vM) (us : Nat) : Prop := ∀ p, p < us → G.1 17 p = (if N.1 17 p = 0 then 2 else 1) ∧ G.2 15 p = N.2 15 p ∧ G.2 16 p = (if N.1 17 p = 0 then (N.1 19 p).toInt64 else N.2 16 p)
def sC (G N : vM) : Prop := G.1 0 5 = N.1 0 4 ∧ G.1 0 6 = N.1 0 5 ∧ G.1 0 7 = N.1 0 6 ∧ G.1 0 8 = N.1 0 7
def sP (G N : vM) (pd od : Nat) : Prop := G.1 2 1 = nI od ∧ od < 200 ∧ G.1 2 2 = nI pd ∧ pd ≤ 200 ∧ N.1 0 8 = nI pd ∧ ∀ k, k < pd → G.1 21 ((od + k) % 200) = N.1 21 k
def sO (G N : vM) (s : Nat) : Prop := ∀ k, k < s → G.1 (ib k) 0 = N.1 9 k ∧ G.1 (ib k) 1 = N.1 10 k ∧ G.1 (ib k) 2 = N.1 11 k ∧ G.1 (ib k) 3 = N.1 12 k
def sOk (G : vM) : Prop := ∀ p, p < 200 → ok1 (G.2 15 p) ∧ ok1 (G.2 16 p)
def Sm (G N : vM) (n s : Nat) : Prop := sC G N ∧ (∃ us, N.1 0 3 = nI us ∧ us ≤ 200 ∧ G.1 1 5 = nI us ∧ sH G N us) ∧ sOk G ∧ (∃ pd od, sP G N pd od) ∧ (G.1 3 2 = nI s ∧ N.1 0 1 = nI s ∧ s ≤ 1000) ∧ (G.1 5 2 = nI n ∧ N.1 0 2 = nI n ∧ n ≤ 16) ∧ G.2 14 = N.2 14 ∧ sO G N s ∧ ∀ i, i < n → sT G N (tb i)
/-- nothing changes but a strand's rows and the object's numbers -/
def sameK (G G' : vM) (b : Nat) : Prop := ∀ x, x ≠ 0 → ¬ (b ≤ x ∧ x < b + 20) → G'.1 x = G.1 x ∧ G'.2 x = G.2 x
theorem sameK.refl (G : vM) (b : Nat) : sameK G G b := fun _ _ _ => ⟨rfl, rfl⟩
theorem sameK.trans {G G' G2 : vM} {b : Nat} (h : sameK G G' b) (g : sameK G' G2 b) : sameK G G2 b := fun x h0 hx => ⟨(g x h0 hx).1.trans (h x h0 hx).1, (g x h0 hx).2.trans (h x h0 hx).2⟩
theorem sameK_mI {G : vM} {b c k : Nat} {v : Int32} (h : b ≤ c ∧ c < b + 20) : sameK G (mI G c k v) b := fun x _ hx => ⟨mI_n _ _ _ _ (by omega), rfl⟩
theorem sameK_mL {G : vM} {b c k : Nat} {v : Int64} (h : b ≤ c ∧ c < b + 20) : sameK G (mL G c k v) b := fun x _ hx => ⟨rfl, mL_n _ _ _ _ (by omega)⟩
theorem sameK_mRL {G : vM} {b c : Nat} {f : Nat → Int64} (h : b ≤ c ∧ c < b + 20) : sameK G (mRL G c f) b := fun x _ hx => ⟨rfl, mRL_n _ _ _ (by omega)⟩
theorem sameK_c {G : vM} {b k : Nat} {v : Int32} : sameK G (mI G 0 k v) b := fun x h0 _ => ⟨mI_n _ _ _ _ h0, rfl⟩
theorem sameK_drop {G : vM} {b : Nat} {k : Int32} : sameK G (gDrop G b k) b := fun x _ hx => ⟨gDrop_n (by omega), by rw [gDrop_2]⟩
theorem sameK_rest {G : vM} {b k : Nat} : sameK G (gRest G b k) b := fun x _ hx => ⟨gRest_n (by omega), gRest_2 (by omega)⟩
theorem sameK_begin {G : vM} {b : Nat} {c : Int32} : sameK G (gBegin G b c) b := fun x _ hx => ⟨gBegin_n (by omega), by rw [gBegin_2]⟩
theorem sameK_clear {G : vM} {b : Nat} : sameK G (gClear G b) b := (sameK_mI ⟨by omega, by omega⟩).trans (sameK_mI ⟨by omega, by omega⟩)
theorem sameK_again {G : vM} {b k : Nat} {c : Int32} : sameK G (gAgain G b k c) b := (sameK_rest.trans sameK_drop).trans sameK_begin
theorem sameK_back {G : vM} {b k : Nat} : sameK G (gBack G b k) b := (sameK_rest.trans (sameK_mI ⟨by omega, by omega⟩)).trans sameK_drop
theorem sameK_fail {G : vM} {b : Nat} {w : Int32} : sameK G (gFail G b w) b := (((sameK_mI ⟨by omega, by omega⟩).trans (sameK_mI ⟨by omega, by omega⟩)).trans sameK_drop).trans sameK_clear
theorem sameK_abort {G : vM} {b k : Nat} : sameK G (gAbort G b k) b := sameK_c.trans sameK_again
theorem sameK_open {G : vM} {b e : Nat} {kd al : Int32} : sameK G (gOpen G b e kd al) b := fun x _ hx => ⟨gOpen_n (by omega) (by omega) (by omega) (by omega) (by omega), by
  unfold gOpen
  dsimp only
  split
  · show (mRL _ (b + 9) _).2 x = _
    rw [mRL_n _ _ _ (by omega)]; rfl
  · show (mRL _ (b + 9) _).2 x = _
    rw [mRL_n _ _ _ (by omega)]; rfl⟩
theorem sameK.g0 {G G' : vM} {i : Nat} (h : sameK G G' (tb i)) {x : Nat} (h0 : x ≠ 0) (hx : x < 30) : G'.1 x = G.1 x ∧ G'.2 x = G.2 x := h x h0 (by unfold tb; omega)
theorem sameK.gi {G G' : vM} {i : Nat} (h : sameK G G' (tb i)) (hi : i < 16) {k : Nat} : G'.1 (ib k) = G.1 (ib k) := (h (ib k) (by unfold ib; omega) (by unfold ib tb; omega)).1
theorem sameK.o {G G' : vM} {i j : Nat} (h : sameK G G' (tb i)) (hj : j ≠ i) : ∀ k, k < 20 → G'.1 (tb j + k) = G.1 (tb j + k) ∧ G'.2 (tb j + k) = G.2 (tb j + k) := fun k hk => h _ (by unfold tb; omega) (by unfold tb; omega)
theorem sameT.o {N N' : vM} {i j : Nat} (h : sameT N N' (tb i)) (hj : j ≠ i) : ∀ k, k < 20 → N'.1 (tb j + k) = N.1 (tb j + k) ∧ N'.2 (tb j + k) = N.2 (tb j + k) := fun k hk => h.1 _ (by unfold tb; omega) (by unfold tb; omega)
theorem Sm.t {G G' N N' : vM} {n s i : Nat} (h : Sm G N n s) (hi : i < n) (hG : sameK G G' (tb i)) (hN : sameT N N' (tb i)) (hc : sC G' N') (ht : sT G' N' (tb i)) : Sm G' N' n s := by
  obtain ⟨-, ⟨us, h3, hu, h5, hH⟩, hok, ⟨pd, od, p1, p2, p3, p4, p5, p6⟩, ⟨s1, s2, s3⟩, ⟨n1, n2, n3⟩, hg, hO, hT⟩ := h
  have nx : ∀ x, x ≠ 0 → x < 30 → N'.1 x = N.1 x ∧ N'.2 x = N.2 x := fun x h0 hx => hN.1 x h0 (by unfold tb; omega)
  refine ⟨hc, ⟨us, by rw [hN.2.2.2.1]; exact h3, hu, by rw [(hG.g0 (by decide) (by decide)).1]; exact h5, fun p hp => ?_⟩, fun p hp => ?_, ⟨pd, od, ?_, p2, ?_, p4, by rw [hN.2.2.2.2]; exact p5, fun k hk => ?_⟩, ⟨?_, by rw [hN.2.1]; exact s2, s3⟩, ⟨?_, by rw [hN.2.2.1]; exact n2, n3⟩, ?_, fun k hk => ?_, fun j hj => ?_⟩
  · rw [(hG.g0 (x := 17) (by decide) (by decide)).1, (hG.g0 (x := 15) (by decide) (by decide)).2, (hG.g0 (x := 16) (by decide) (by decide)).2, (nx 17 (by decide) (by decide)).1, (nx 15 (by decide) (by decide)).2, (nx 16 (by decide) (by decide)).2, (nx 19 (by decide) (by decide)).1]
    exact hH p hp
  · rw [(hG.g0 (x := 15) (by decide) (by decide)).2, (hG.g0 (x := 16) (by decide) (by decide)).2]; exact hok p hp
  · rw [(hG.g0 (x := 2) (by decide) (by decide)).1]; exact p1
  · rw [(hG.g0 (x := 2) (by decide) (by decide)).1]; exact p3
  · rw [(hG.g0 (x := 21) (by decide) (by decide)).1, (nx 21 (by decide) (by decide)).1]; exact p6 k hk
  · rw [(hG.g0 (x := 3) (by decide) (by decide)).1]; exact s1
  · rw [(hG.g0 (x := 5) (by decide) (by decide)).1]; exact n1
  · rw [(hG.g0 (x := 14) (by decide) (by decide)).2, (nx 14 (by decide) (by decide)).2]; exact hg
  · rw [hG.gi (by omega), (nx 9 (by decide) (by decide)).1, (nx 10 (by decide) (by decide)).1, (nx 11 (by decide) (by decide)).1, (nx 12 (by decide) (by decide)).1]
    exact hO k hk
  · by_cases hji : j = i
    · subst hji; exact ht
    · exact sT_cong (hT j hj) (hG.o hji) (hN.o hji)
theorem Sm.T {G N : vM} {n s i : Nat} (h : Sm G N n s) (hi : i < n) : sT G N (tb i) := h.2.2.2.2.2.2.2.2 i hi
theorem Sm.c {G N : vM} {n s : Nat} (h : Sm G N n s) : sC G N := h.1
theorem Sm.gl {G N : vM} {n s : Nat} (h : Sm G N n s) : G.2 14 = N.2 14 := h.2.2.2.2.2.2.1
theorem Sm.reg {G N : vM} {n s i : Nat} (h : Sm G N n s) (hi : i < n) : G.2 (tb i + 8) = N.2 (tb i + 8) := by
  obtain ⟨⟨-, -, -, -, -, -, -, -, -, -, -, -, h8, -⟩, -⟩ := h.T hi
  exact h8
theorem Sm.u {G N : vM} {n s us : Nat} (h : Sm G N n s) (hU : N.1 0 3 = nI us) (hu : us ≤ 200) : G.1 1 5 = nI us ∧ sH G N us := by
  obtain ⟨us2, h3, hu2, h5, hH⟩ := h.2.1
  have e9 : us = us2 := eq_of_nI (hU.symm.trans h3) (by omega) (by omega)
  subst e9
  exact ⟨h5, hH⟩
theorem sC_o {G G' N N' : vM} (h : sC G N) (hG : G'.1 0 = G.1 0) (hN : N'.1 0 = N.1 0) : sC G' N' := by
  unfold sC; rw [hG, hN]; exact h
