/-! WHAT THE REFERENCE'S INSTRUCTIONS DO -/
theorem nrg_not {x : Int32} (h : ¬ nrg x) : x = nI (nn x) ∧ nn x < 16 := by
  have h1 : ¬ x < 0 := fun z9 => h (Or.inl z9)
  have h2 : ¬ 15 < x := fun z9 => h (Or.inr z9)
  obtain ⟨j, hj, rfl⟩ := nI_of h1
  rw [nn_nI hj]
  refine ⟨rfl, ?_⟩
  rcases Nat.lt_or_ge j 16 with q9 | q9
  · exact q9
  · exact absurd (nI_lt (a := 15) (b := j) (by omega) hj) h2
theorem ngl_not {x : Int32} (h : ¬ ngl x) : x = nI (nn x) ∧ nn x < 8 := by
  have h1 : ¬ x < 0 := fun z9 => h (Or.inl z9)
  have h2 : ¬ 7 < x := fun z9 => h (Or.inr z9)
  obtain ⟨j, hj, rfl⟩ := nI_of h1
  rw [nn_nI hj]
  refine ⟨rfl, ?_⟩
  rcases Nat.lt_or_ge j 8 with q9 | q9
  · exact q9
  · exact absurd (nI_lt (a := 7) (b := j) (by omega) hj) h2
noncomputable def fMade (M : vM) (n b : Nat) (ip : Bool) (x y z : Int32) : vM × Int32 :=
  let N := if M.1 0 3 = 200 then fGather M n 200 else M
  if N.1 0 3 = 200 then (N, -3) else
    let us := nn (N.1 0 3)
    (mI (mL (mI (mL (mL (mI N 17 us (if ip then 1 else 0)) 15 us (rgx N b y)) 16 us (if ip then rgx N b z else 0)) 19 us 0) (b + 8) (nn x) ((if ip then 8589934592 else 17179869184) + (N.1 0 3).toInt64)) 0 3 (N.1 0 3 + 1), 0)
def fLim (M : vM) (b : Nat) : Int32 := if M.1 b 4 = 0 then 0 else M.1 (b + 13) (nn (M.1 b 4) - 1)
noncomputable def fPlain (M : vM) (n b o : Nat) (x y z : Int32) : vM × Int32 := match o with
  | 0 => if 0 < M.1 b 4 then (M, -4) else (fEnd M b 3 0, 0)
  | 1 => (mL M (b + 8) (nn x) y.toInt64, 0)
  | 2 => (mL M (b + 8) (nn x) (rgx M b y), 0)
  | 3 => (mL M (b + 8) (nn x) ((rgx M b y + rgx M b z).toInt32.toInt64), 0)
  | 4 => (mL M (b + 8) (nn x) ((rgx M b y - rgx M b z).toInt32.toInt64), 0)
  | 5 => (mL M (b + 8) (nn x) ((rgx M b y * rgx M b z).toInt32.toInt64), 0)
  | 6 => (mL M (b + 8) (nn x) (if rgx M b y < rgx M b z then 1 else 0), 0)
  | 7 => (mL M (b + 8) (nn x) (if rgx M b y = rgx M b z then 1 else 0), 0)
  | 8 => (mI M b 2 x, 0)
  | 9 => (if rgx M b x = 0 then mI M b 2 y else M, 0)
  | 10 => if M.1 b 3 = 40 then (M, -2) else (mI (mI (mI M (b + 10) (nn (M.1 b 3)) (M.1 b 2)) b 3 (M.1 b 3 + 1)) b 2 x, 0)
  | 11 => if M.1 b 3 = fLim M b then (M, -2) else (mI (mI M b 3 (M.1 b 3 - 1)) b 2 (M.1 (b + 10) (nn (M.1 b 3 - 1))), 0)
  | 12 => fMade M n b true x y z
  | 13 => (mL M (b + 8) (nn x) (M.2 15 (pl (rgx M b y))), 0)
  | 14 => (mL M (b + 8) (nn x) (M.2 16 (pl (rgx M b y))), 0)
  | 15 => fMade M n b false x y z
  | _ => (mL M (b + 8) (nn x) (@ite _ (isI (rgx M b y)) (Classical.propDecidable _) 0 (@ite _ (isP (rgx M b y)) (Classical.propDecidable _) 1 2)), 0)
noncomputable def fGuard (M : vM) (n b o : Nat) (x y : Int32) : vM × Int32 := match o with
  | 16 => fReading M b (nn x) (rgx M b y)
  | 17 => if M.1 b 6 = 40 then (M, -5) else (mI (mL (mL M (b + 16) (nn (M.1 b 6)) (rgx M b x)) (b + 17) (nn (M.1 b 6)) (rgx M b y)) b 6 (M.1 b 6 + 1), 0)
  | 18 => if M.1 b 4 = 24 then (M, -4) else (fNest (mI M b 7 (M.1 0 4)) b (nn (M.1 b 4)) 0 (M.1 b 2), 0)
  | 19 => if M.1 (b + 11) (nn (M.1 b 4) - 1) = 0 then (@ite _ (fValid M b) (Classical.propDecidable _) (fCommitted M n b) (fAborted M b), 0) else (M, -4)
  | 20 => if M.1 b 4 = 24 then (M, -4) else (fNest M b (nn (M.1 b 4)) 1 x, 0)
  | 21 => if M.1 b 4 = 0 ∨ M.1 (b + 11) (nn (M.1 b 4) - 1) = 0 then (M, -4) else (mI (mI M b 4 (M.1 b 4 - 1)) b 2 x, 0)
  | 22 => if M.1 b 4 = 24 then (M, -4) else (fNest M b (nn (M.1 b 4)) 2 x, 0)
  | 23 => (fRetried M b, 0)
  | _ => (fThrow b (rgx M b x).toInt32 (nn (M.1 b 4)) M, 0)
/-- the rows of a new task -/
def fNewT (N : vM) (b : Nat) (reg : Nat → Int64) (pc : Int32) : vM :=
  (fun c => if c = b then (fun k => if k = 0 then 1 else if k = 2 then pc else 0) else if b + 10 ≤ c ∧ c ≤ b + 14 then (fun _ => 0) else N.1 c,
   fun c => if c = b + 8 then reg else if c = b + 9 ∨ (b + 15 ≤ c ∧ c ≤ b + 17) then (fun _ => 0) else N.2 c)
def fFork (M : vM) (n b : Nat) (x y : Int32) : vM :=
  if n = 16 then mL M (b + 8) (nn x) (-1) else
    let N := mL M (b + 8) (nn x) (nI n).toInt64
    mI (fNewT N (tb n) (fun k => if k < 16 then N.2 (b + 8) k else 0) y) 0 2 (nI (n + 1))
def fOuter (M : vM) (n b o : Nat) (x y : Int32) : vM × Int32 := match o with
  | 25 => (fFork M n b x y, 0)
  | 26 => (fPrint M (rgx M b x).toInt32, 0)
  | 27 => (mL M 14 (nn x) (rgx M b y), 0)
  | _ => (mL M (b + 8) (nn x) (M.2 14 (nn y)), 0)
noncomputable def fRest (M : vM) (n b o : Nat) (x y z : Int32) : vM × Int32 :=
  if o ≤ 15 ∨ o = 29 then fPlain M n b o x y z else if o ≤ 24 then fGuard M n b o x y else fOuter M n b o x y
noncomputable def fKnown (M : vM) (n b o : Nat) (x y z : Int32) : vM × Int32 :=
  @ite _ (fWrong M b o x y z) (Classical.propDecidable _) (M, -1)
    (@ite _ (fIn M b) (Classical.propDecidable _)
      (if o = 0 ∨ o = 18 ∨ o = 25 ∨ o = 26 ∨ o = 27 then (M, -4) else fRest M n b o x y z)
      (if o = 16 ∨ o = 17 ∨ o = 19 ∨ o = 20 ∨ o = 23 then (M, -4) else fRest M n b o x y z))
/-- one step of the task at b -/
noncomputable def fStep (M : vM) (n b : Nat) : vM :=
  let M1 := mI (mI M 0 7 (M.1 0 7 + 1)) b 2 (M.1 b 2 + 1)
  let at' := M.1 b 2
  if at' < 0 ∨ M.1 0 1 ≤ at' then fEnd M1 b 4 (-1) else
    let o := M.1 9 (nn at')
    if o < 0 ∨ 29 < o then fEnd M1 b 4 (-1) else
      let q := fKnown M1 n b (nn o) (M.1 10 (nn at')) (M.1 11 (nn at')) (M.1 12 (nn at'))
      if q.2 < 0 then fEnd q.1 b 4 q.2 else q.1
/-- how many tasks there are behind a step -/
noncomputable def fStepN (M : vM) (n b : Nat) : Nat := nn ((fStep M n b).1 0 2)
