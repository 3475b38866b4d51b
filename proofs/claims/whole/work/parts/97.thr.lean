/-! THE REFERENCE: what a step leaves of the answer's code -/
section T00
variable {N : vM} {n i : Nat} {x y z : Int32}
theorem mI_00 {M : vM} {k : Nat} {v : Int32} (h : k ≠ 0) : (mI M 0 k v).1 0 0 = M.1 0 0 := mI_o _ _ _ _ (Ne.symm h)
theorem mI_b0 {M : vM} {c k : Nat} {v : Int32} (h : c ≠ 0) : (mI M c k v).1 0 0 = M.1 0 0 := congrFun (mI_n _ _ _ _ (Ne.symm h)) 0
theorem abt_00 : (fAborted N (tb i)).1 0 0 = N.1 0 0 := by
  unfold fAborted; rw [fAgain_0]; exact mI_00 (by decide)
theorem gat_00 {us : Nat} : (fGather N n us).1 0 0 = N.1 0 0 := by
  unfold fGather; dsimp only
  rw [fSlide_0 (by decide), mRI_n _ _ _ (by decide)]; exact fRoots_10 (by decide)
theorem made_00 {ip : Bool} : (fMade N n (tb i) ip x y z).1.1 0 0 = N.1 0 0 := by
  have h0 : (if N.1 0 3 = 200 then fGather N n 200 else N).1 0 0 = N.1 0 0 := by
    split
    · exact gat_00
    · rfl
  unfold fMade
  dsimp only
  generalize (if N.1 0 3 = 200 then fGather N n 200 else N) = N2 at h0 ⊢
  split
  · exact h0
  · show (mI _ 0 3 _).1 0 0 = _
    rw [mI_00 (by decide), mL_1, mI_b0 (by decide), mL_1, mL_1, mI_b0 (by decide)]; exact h0
theorem plain_00 : ∀ o, (fPlain N n (tb i) o x y z).1.1 0 0 = N.1 0 0 := by
  intro o
  unfold fPlain
  split
  · split
    · rfl
    · exact congrFun fEnd_0 0
  all_goals first | rfl | exact made_00 | skip
  · exact mI_b0 z00.symm
  · split
    · exact mI_b0 z00.symm
    · rfl
  · split
    · rfl
    · show (mI _ (tb i) _ _).1 0 0 = _
      rw [mI_b0 z00.symm, mI_b0 z00.symm, mI_b0 z0k.symm]
  · split
    · rfl
    · show (mI _ (tb i) _ _).1 0 0 = _
      rw [mI_b0 z00.symm, mI_b0 z00.symm]
theorem nest_00 {M : vM} {e : Nat} {a c : Int32} : (fNest M (tb i) e a c).1 0 0 = M.1 0 0 := congrFun fNest_0 0
theorem roll_00 {M : vM} {k : Nat} : (fRollBack M (tb i) k).1 0 0 = M.1 0 0 := congrFun fRoll_0 0
theorem throw_00 {code : Int32} : ∀ (e : Nat) (M : vM), (fThrow (tb i) code e M).1 0 0 = M.1 0 0
  | 0, M => by rw [fThrow]; exact congrFun fEnd_0 0
  | e + 1, M => by
    rw [fThrow]
    split
    · exact roll_00
    · split
      · split
        · rw [throw_00 e]
          rw [mI_b0 z00.symm, mI_b0 z00.symm, mI_b0 z00.symm]
        · exact abt_00
      · rw [throw_00 e]; exact mI_b0 z00.symm
theorem com_00 : (fCommitted N n (tb i)).1 0 0 = N.1 0 0 := by
  unfold fCommitted
  dsimp only
  split
  · rw [mI_b0 z00.symm, mI_b0 z00.symm, mI_b0 z00.symm]
  · rw [fWakes_1 (fun j _ => z00), fWr_1 (by decide), mI_00 (by decide), mI_b0 z00.symm, mI_b0 z00.symm, mI_b0 z00.symm]
theorem guard_00 : ∀ o, (fGuard N n (tb i) o x y).1.1 0 0 = N.1 0 0 := by
  intro o
  unfold fGuard
  split
  · unfold fReading
    split
    · rfl
    · split
      · exact abt_00
      · split
        · rfl
        · split
          · rfl
          · show (mI _ (tb i) _ _).1 0 0 = _
            rw [mI_b0 z00.symm]; rfl
  · split
    · rfl
    · show (mI _ (tb i) _ _).1 0 0 = _
      rw [mI_b0 z00.symm]; rfl
  · split
    · rfl
    · show (fNest _ _ _ _ _).1 0 0 = _
      rw [nest_00, mI_b0 z00.symm]
  · split
    · by_cases hv : fValid N (tb i)
      · rw [if_pos hv]; exact com_00
      · rw [if_neg hv]; exact abt_00
    · rfl
  · split
    · rfl
    · exact nest_00
  · split
    · rfl
    · show (mI _ (tb i) _ _).1 0 0 = _
      rw [mI_b0 z00.symm, mI_b0 z00.symm]
  · split
    · rfl
    · exact nest_00
  · show (fRetried N (tb i)).1 0 0 = _
    unfold fRetried
    dsimp only
    split
    · exact roll_00
    · split
      · exact mI_b0 z00.symm
      · exact abt_00
  · exact throw_00 _ _
theorem outer_00 : ∀ o, (fOuter N n (tb i) o x y).1.1 0 0 = N.1 0 0 := by
  intro o
  unfold fOuter
  split
  · show (fFork N n (tb i) x y).1 0 0 = _
    unfold fFork
    split
    · rfl
    · show (mI _ 0 2 _).1 0 0 = _
      rw [mI_00 (by decide)]
      show (if 0 = tb n then _ else if tb n + 10 ≤ 0 ∧ 0 ≤ tb n + 14 then _ else N.1 0) 0 = _
      rw [if_neg z00, if_neg (by omega)]
  · show (fPrint N _).1 0 0 = _
    unfold fPrint
    split
    · rw [mI_00 (by decide), mI_b0 (by decide), mI_00 (by decide), mRI_n _ _ _ (by decide)]
    · rw [mI_00 (by decide), mI_b0 (by decide)]
  · rfl
  · rfl
theorem rest_00 {o : Nat} : (fRest N n (tb i) o x y z).1.1 0 0 = N.1 0 0 := by
  unfold fRest
  split
  · exact plain_00 _
  · split
    · exact guard_00 _
    · exact outer_00 _
theorem known_00 {o : Nat} : (fKnown N n (tb i) o x y z).1.1 0 0 = N.1 0 0 := by
  unfold fKnown
  split
  · rfl
  · split
    · split
      · rfl
      · exact rest_00
    · split
      · rfl
      · exact rest_00
theorem end_00 {M : vM} {a c : Int32} : (fEnd M (tb i) a c).1 0 0 = M.1 0 0 := congrFun fEnd_0 0
theorem step_00 : (fStep N n (tb i)).1 0 0 = N.1 0 0 := by
  have h1 : (mI (mI N 0 7 (N.1 0 7 + 1)) (tb i) 2 (N.1 (tb i) 2 + 1)).1 0 0 = N.1 0 0 := by rw [mI_b0 z00.symm, mI_00 (by decide)]
  unfold fStep
  dsimp only
  split
  · rw [end_00]; exact h1
  · split
    · rw [end_00]; exact h1
    · split
      · rw [end_00, known_00]; exact h1
      · rw [known_00]; exact h1
theorem runK_00 : ∀ (d : Nat) (M : vM), (fRunK (tb i) d M).1.1 0 0 = M.1 0 0
  | 0, M => rfl
  | d + 1, M => by
    rw [fRunK]
    split
    · show (fRunK (tb i) d _).1.1 0 0 = _
      rw [runK_00 d, step_00]
    · rfl
end T00
theorem turnI_00 : ∀ (d p : Nat) (M : vM), (fTurnI d p M).1 0 0 = M.1 0 0
  | 0, _, M => rfl
  | d + 1, p, M => by
    rw [fTurnI]
    split
    · rw [turnI_00 d]
      split
      · exact step_00
      · rfl
    · rfl
theorem turnK_00 : ∀ (k : Nat) (M : vM), (fTurnK k M).1 0 0 = M.1 0 0
  | 0, _ => rfl
  | k + 1, M => by rw [fTurnK, turnK_00 k, turnI_00]
theorem run_00 {N : vM} {n : Nat} {k c : Int32} (h1 : ¬ (k < 0 ∨ nI n ≤ k)) (h2 : ¬ (c < 1 ∨ 500 < c)) : (fRun N n k c).1.1 0 0 = 0 := by
  unfold fRun
  rw [if_neg h1, if_neg h2]
  show (fRunK _ _ _).1.1 0 0 = _
  rw [runK_00, mI_s]
theorem turn_00 {N : vM} {k : Int32} (h : ¬ (k < 1 ∨ 100 < k)) : (fTurn N k).1.1 0 0 = 0 := by
  unfold fTurn
  rw [if_neg h]
  show (fTurnK _ _).1 0 0 = _
  rw [turnK_00, mI_s]
theorem put_00 {N : vM} {s : Nat} {o x y z : Int32} (hs : N.1 0 1 = nI s) (h : s < 1000) : (fPut N o x y z).1.1 0 0 = 0 := by
  rw [put_eq hs h]
  show (mI _ 0 1 _).1 0 0 = _
  rw [mI_00 (by decide), mI_b0 (by decide), mI_b0 (by decide), mI_b0 (by decide), mI_b0 (by decide), mI_s]
/-- the invariant behind a put -/
theorem iu_put {N : vM} {n us s : Nat} {o x y z : Int32} (h : IU N n us) (hs : N.1 0 1 = nI s) (hs9 : s < 1000) : IU (fPut N o x y z).1 n us := by
  rw [put_eq hs hs9]
  refine h.far (fun c hc => ⟨?_, rfl⟩) ?_ (fun sz pd hg => ⟨s + 1, pd, ?_⟩)
  · show (mI _ 0 1 _).1 c = _
    rw [mI_n _ _ _ _ (by omega), mI_n _ _ _ _ (by omega), mI_n _ _ _ _ (by omega), mI_n _ _ _ _ (by omega), mI_n _ _ _ _ (by omega), mI_n _ _ _ _ (by omega)]
  · show (mI _ 0 1 _).1 17 = _
    rw [mI_n _ _ _ _ (by decide), mI_n _ _ _ _ (by decide), mI_n _ _ _ _ (by decide), mI_n _ _ _ _ (by decide), mI_n _ _ _ _ (by decide), mI_n _ _ _ _ (by decide)]
  · obtain ⟨g1, g2, g3, g4, g5, g6, g7, g8, g9, g10, g11, g12, g13⟩ := hg
    have e0 : ∀ k, k ≠ 0 → k ≠ 1 → (mI (mI (mI (mI (mI (mI N 0 0 0) 9 s o) 10 s x) 11 s y) 12 s z) 0 1 (nI (s + 1))).1 0 k = N.1 0 k := fun k q0 q1 => by
      rw [mI_o _ _ _ _ q1, mI_n _ _ _ _ (by decide), mI_n _ _ _ _ (by decide), mI_n _ _ _ _ (by decide), mI_n _ _ _ _ (by decide), mI_o _ _ _ _ q0]
    have e17 : (mI (mI (mI (mI (mI (mI N 0 0 0) 9 s o) 10 s x) 11 s y) 12 s z) 0 1 (nI (s + 1))).1 17 = N.1 17 := by
      rw [mI_n _ _ _ _ (by decide), mI_n _ _ _ _ (by decide), mI_n _ _ _ _ (by decide), mI_n _ _ _ _ (by decide), mI_n _ _ _ _ (by decide), mI_n _ _ _ _ (by decide)]
    refine ⟨mI_s _ _ _ _, by omega, (e0 2 (by decide) (by decide)).trans g3, g4, g5, (e0 3 (by decide) (by decide)).trans g6, g7, (e0 8 (by decide) (by decide)).trans g8, g9, ?_, ?_, ?_, ?_⟩
    · show row01 ((mI _ 0 1 _).1 17); rw [e17]; exact g10
    · show ∀ p, p < us → vO us ((mI _ 0 1 _).1 17) _ ∧ vO us ((mI _ 0 1 _).1 17) _; rw [e17]; exact g11
    · show ∀ p, p < us → (mI _ 0 1 _).1 17 p = 0 → _; rw [e17]; exact g12
    · show ∀ k, k < 8 → vO us ((mI _ 0 1 _).1 17) _; rw [e17]; exact g13
/-- at the start -/
theorem sm_0 : Sm vG0 vM0 1 0 := by
  refine ⟨⟨rfl, rfl, rfl, rfl⟩, ⟨0, rfl, by omega, rfl, fun p hp => absurd hp (Nat.not_lt_zero p)⟩, fun p _ => ⟨Or.inl isI_0, Or.inl isI_0⟩, ⟨0, 0, rfl, by omega, rfl, by omega, rfl, fun k hk => absurd hk (Nat.not_lt_zero k)⟩, ⟨rfl, rfl, by omega⟩, ⟨rfl, rfl, by omega⟩, rfl, fun k hk => absurd hk (Nat.not_lt_zero k), fun j hj => ?_⟩
  obtain rfl : j = 0 := by omega
  exact ⟨⟨rfl, rfl, rfl, rfl, rfl, rfl, rfl, rfl, rfl, rfl, rfl, rfl, rfl, rfl, rfl, rfl, rfl⟩, rfl, Or.inr ⟨rfl, fun k hk => absurd hk (Nat.not_lt_zero k)⟩, fun _ => rfl⟩
