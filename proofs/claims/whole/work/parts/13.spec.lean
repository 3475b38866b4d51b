/-! WHAT THE REFERENCE'S METHODS DO to its memory (b: the task's code; a register by its number) -/
noncomputable def bP (c : Prop) : Int32 := @ite _ c (Classical.propDecidable c) 1 0
theorem bP_t {c : Prop} (h : c) : bP c = 1 := by unfold bP; exact if_pos h
theorem bP_f {c : Prop} (h : ¬ c) : bP c = 0 := by unfold bP; exact if_neg h
theorem bP_0 {c : Prop} : bP c = 0 ↔ ¬ c := by
  by_cases h : c
  · rw [bP_t h]; exact ⟨fun q => absurd q (by decide), fun q => absurd h q⟩
  · rw [bP_f h]; exact ⟨fun _ => h, fun _ => rfl⟩
theorem bP_1 {c : Prop} : ¬ bP c = 0 ↔ c := by rw [bP_0]; exact Classical.not_not
theorem bP_nar (c : Prop) : narrow .boolean (.int (bP c)) = .int (bP c) := by
  by_cases h : c
  · rw [bP_t h]; decide
  · rw [bP_f h]; decide
theorem bP_congr {c d : Prop} (h : c ↔ d) : bP c = bP d := by rw [propext h]
abbrev nn (x : Int32) : Nat := x.toNatClampNeg
def isI (v : Int64) : Prop := v < 8589934592
def isP (v : Int64) : Prop := 8589934592 ≤ v ∧ v < 17179869184
def isV (v : Int64) : Prop := 17179869184 ≤ v
def nrg (x : Int32) : Prop := x < 0 ∨ 15 < x
def ngl (x : Int32) : Prop := x < 0 ∨ 7 < x
abbrev rgx (M : vM) (b : Nat) (x : Int32) : Int64 := M.2 (b + 8) (nn x)
/-- wrong(t, o, x, y, z) -/
def fWrong (M : vM) (b : Nat) (o : Nat) (x y z : Int32) : Prop := match o with
  | 1 => nrg x
  | 2 => nrg x ∨ nrg y
  | 3 => nrg x ∨ nrg y ∨ nrg z ∨ ¬ isI (rgx M b y) ∨ ¬ isI (rgx M b z)
  | 4 => nrg x ∨ nrg y ∨ nrg z ∨ ¬ isI (rgx M b y) ∨ ¬ isI (rgx M b z)
  | 5 => nrg x ∨ nrg y ∨ nrg z ∨ ¬ isI (rgx M b y) ∨ ¬ isI (rgx M b z)
  | 6 => nrg x ∨ nrg y ∨ nrg z ∨ ¬ isI (rgx M b y) ∨ ¬ isI (rgx M b z)
  | 7 => nrg x ∨ nrg y ∨ nrg z
  | 9 => nrg x
  | 12 => nrg x ∨ nrg y ∨ nrg z
  | 13 => nrg x ∨ nrg y ∨ ¬ isP (rgx M b y)
  | 14 => nrg x ∨ nrg y ∨ ¬ isP (rgx M b y)
  | 15 => nrg x ∨ nrg y
  | 16 => nrg x ∨ nrg y ∨ ¬ isV (rgx M b y)
  | 17 => nrg x ∨ nrg y ∨ ¬ isV (rgx M b x)
  | 24 => nrg x ∨ ¬ isI (rgx M b x) ∨ rgx M b x < 0
  | 25 => nrg x
  | 26 => nrg x ∨ ¬ isI (rgx M b x)
  | 27 => ngl x ∨ nrg y
  | 28 => nrg x ∨ ngl y
  | 29 => nrg x ∨ nrg y
  | _ => False
/-- the first of e places that holds 0 -/
def aIdx (s : Nat → Int32) (e : Nat) : Nat := ((List.range e).find? (fun k => decide (s k = 0))).getD 0
theorem aIdx_eq {s : Nat → Int32} {e k : Nat} (hk : k < e) (h0 : s k = 0) (hj : ∀ j, j < k → s j ≠ 0) : aIdx s e = k := by
  unfold aIdx
  have hh : (List.range e).find? (fun k => decide (s k = 0)) = some k := by
    rw [List.find?_range_eq_some]
    exact ⟨by simpa using h0, by simpa using hk, fun j hjk => by simpa using hj j hjk⟩
  rw [hh]; rfl
def fIn (M : vM) (b : Nat) : Prop := ∃ k, k < nn (M.1 b 4) ∧ M.1 (b + 11) k = 0
def fAborted (M : vM) (b : Nat) : vM := fAgain (mI M 0 5 (M.1 0 5 + 1)) b (aIdx (M.1 (b + 11)) (nn (M.1 b 4))) (M.1 0 4)
abbrev pl (v : Int64) : Nat := nn v.toInt32
def fValid (M : vM) (b : Nat) : Prop := ∀ k, k < nn (M.1 b 5) → ¬ M.1 b 7 < M.1 19 (pl (M.2 (b + 15) k))
/-- the last of the first e places that holds v -/
def lastW (f : Nat → Int64) : Nat → Int64 → Option Nat
  | 0, _ => none
  | k + 1, v => if f k = v then some k else lastW f k v
noncomputable def fReading (M : vM) (b : Nat) (x : Nat) (v : Int64) : vM × Int32 :=
  match lastW (M.2 (b + 16)) (nn (M.1 b 6)) v with
  | some k => (mL M (b + 8) x (M.2 (b + 17) k), 0)
  | none => if M.1 b 7 < M.1 19 (pl v) then (fAborted M b, 0) else
      @ite _ (∃ k, k < nn (M.1 b 5) ∧ M.2 (b + 15) k = v) (Classical.propDecidable _) (mL M (b + 8) x (M.2 15 (pl v)), 0)
        (if M.1 b 5 = 40 then (M, -5) else (mL (mI (mL M (b + 15) (nn (M.1 b 5)) v) b 5 (M.1 b 5 + 1)) (b + 8) x (M.2 15 (pl v)), 0))
/-- the writes of a commit: the first k of them -/
def fWr (wr va : Nat → Int64) (clock : Int32) : Nat → vM → vM
  | 0, M => M
  | k + 1, M => mI (mL (fWr wr va clock k M) 15 (pl (wr k)) (va k)) 19 (pl (wr k)) clock
/-- a task that waits for one of the writes runs again -/
noncomputable def fWake (M : vM) (b : Nat) (wr : Nat → Int64) (nw : Nat) : vM :=
  @ite _ (M.1 b 0 = 2 ∧ ∃ k q, k < nw ∧ q < nn (M.1 b 5) ∧ M.2 (b + 15) q = wr k) (Classical.propDecidable _) (fAgain M b (aIdx (M.1 (b + 11)) (nn (M.1 b 4))) (M.1 0 4)) M
noncomputable def fWakes (wr : Nat → Int64) (nw : Nat) : Nat → vM → vM
  | 0, M => M
  | i + 1, M => fWake (fWakes wr nw i M) (tb i) wr nw
noncomputable def fCommitted (M : vM) (n b : Nat) : vM :=
  let nw := nn (M.1 b 6)
  let M2 := mI (mI (mI M b 4 (M.1 b 4 - 1)) b 5 0) b 6 0
  if nw = 0 then M2 else fWakes (M.2 (b + 16)) nw n (fWr (M.2 (b + 16)) (M.2 (b + 17)) (M.1 0 4 + 1) nw (mI M2 0 4 (M.1 0 4 + 1)))
/-- the highest of the places below e that isn't 2 -/
def topN (s : Nat → Int32) : Nat → Nat
  | 0 => 0
  | k + 1 => if s k = 2 then topN s k else k
noncomputable def fRetried (M : vM) (b : Nat) : vM :=
  let k := topN (M.1 (b + 11)) (nn (M.1 b 4))
  if M.1 (b + 11) k = 1 then fRollBack M b k else @ite _ (fValid M b) (Classical.propDecidable _) (mI M b 0 2) (fAborted M b)
noncomputable def fThrow (b : Nat) (code : Int32) : Nat → vM → vM
  | 0, M => fEnd M b 4 code
  | e + 1, M => if M.1 (b + 11) e = 2 then mL (fRollBack M b e) (b + 8) 15 code.toInt64
      else if M.1 (b + 11) e = 0 then @ite _ (fValid M b) (Classical.propDecidable _) (fThrow b code e (mI (mI (mI M b 5 0) b 6 0) b 4 (nI e))) (fAborted M b)
      else fThrow b code e (mI M b 4 (nI e))
def fPrint (M : vM) (v : Int32) : vM :=
  if M.1 0 8 = 200 then mI (mI (mI (mRI M 21 (fun k => if k < 199 then M.1 21 (k + 1) else M.1 21 k)) 0 8 199) 21 199 v) 0 8 200
  else mI (mI M 21 (nn (M.1 0 8)) v) 0 8 (M.1 0 8 + 1)
section VB
variable {K : vKt} {cc : ByteArray} {own : String} {nL n1 n2 pc pc' : Nat} {ws : va_W} {lv : List (Nat × Value)} {st : List Value}
theorem v_ifB_eq (X : vOk K cc own nL) {c : Prop} {off : Int} {tgt : Nat} (d : decode cc pc = .ok (.ifCond .eq off, 3)) (ht : (pc : Int) + off = (tgt : Int)) (e : pc + 3 = pc') (kt : ¬ c → V K nL ws n1 n2 tgt lv st) (kf : c → V K nL ws n1 n2 pc' lv st) : V K nL ws n1 n2 pc lv (.int (bP c) :: st) := v_if_eq X d ht e (fun h => kt (bP_0.mp h)) (fun h => kf (bP_1.mp h))
theorem v_ifB_ne (X : vOk K cc own nL) {c : Prop} {off : Int} {tgt : Nat} (d : decode cc pc = .ok (.ifCond .ne off, 3)) (ht : (pc : Int) + off = (tgt : Int)) (e : pc + 3 = pc') (kt : c → V K nL ws n1 n2 tgt lv st) (kf : ¬ c → V K nL ws n1 n2 pc' lv st) : V K nL ws n1 n2 pc lv (.int (bP c) :: st) := v_if_ne X d ht e (fun h => kt (bP_1.mp h)) (fun h => kf (bP_0.mp h))
theorem v_lif_eq (X : vOk K cc own nL) {x y : Int64} {off : Int} {tgt : Nat} (d : decode cc pc = .ok (.ifCond .eq off, 3)) (ht : (pc : Int) + off = (tgt : Int)) (e : pc + 3 = pc') (kt : x = y → V K nL ws n1 n2 tgt lv st) (kf : ¬ x = y → V K nL ws n1 n2 pc' lv st) : V K nL ws n1 n2 pc lv (.int (lg_cmp x y) :: st) := v_if_eq X d ht e (fun h => kt ((lg_cmp_eq _ _).mp h)) (fun h => kf (fun z9 => h ((lg_cmp_eq _ _).mpr z9)))
theorem v_lif_ne (X : vOk K cc own nL) {x y : Int64} {off : Int} {tgt : Nat} (d : decode cc pc = .ok (.ifCond .ne off, 3)) (ht : (pc : Int) + off = (tgt : Int)) (e : pc + 3 = pc') (kt : ¬ x = y → V K nL ws n1 n2 tgt lv st) (kf : x = y → V K nL ws n1 n2 pc' lv st) : V K nL ws n1 n2 pc lv (.int (lg_cmp x y) :: st) := v_if_ne X d ht e (fun h => kt (fun z9 => h ((lg_cmp_eq _ _).mpr z9))) (fun h => kf ((lg_cmp_eq _ _).mp h))
theorem v_lif_lt (X : vOk K cc own nL) {x y : Int64} {off : Int} {tgt : Nat} (d : decode cc pc = .ok (.ifCond .lt off, 3)) (ht : (pc : Int) + off = (tgt : Int)) (e : pc + 3 = pc') (kt : x < y → V K nL ws n1 n2 tgt lv st) (kf : y ≤ x → V K nL ws n1 n2 pc' lv st) : V K nL ws n1 n2 pc lv (.int (lg_cmp x y) :: st) := v_if_lt X d ht e (fun h => kt ((lg_cmp_lt _ _).mp h)) (fun h => kf (Int64.not_lt.mp (fun z9 => h ((lg_cmp_lt _ _).mpr z9))))
theorem v_lif_ge (X : vOk K cc own nL) {x y : Int64} {off : Int} {tgt : Nat} (d : decode cc pc = .ok (.ifCond .ge off, 3)) (ht : (pc : Int) + off = (tgt : Int)) (e : pc + 3 = pc') (kt : y ≤ x → V K nL ws n1 n2 tgt lv st) (kf : x < y → V K nL ws n1 n2 pc' lv st) : V K nL ws n1 n2 pc lv (.int (lg_cmp x y) :: st) := v_if_ge X d ht e (fun h => kt ((lg_cmp_ge _ _).mp h)) (fun h => kf (Int64.not_le.mp (fun z9 => h ((lg_cmp_ge _ _).mpr z9))))
theorem v_lif_gt (X : vOk K cc own nL) {x y : Int64} {off : Int} {tgt : Nat} (d : decode cc pc = .ok (.ifCond .gt off, 3)) (ht : (pc : Int) + off = (tgt : Int)) (e : pc + 3 = pc') (kt : y < x → V K nL ws n1 n2 tgt lv st) (kf : x ≤ y → V K nL ws n1 n2 pc' lv st) : V K nL ws n1 n2 pc lv (.int (lg_cmp x y) :: st) := v_if_gt X d ht e (fun h => kt ((lg_cmp_gt _ _).mp h)) (fun h => kf (Int64.not_lt.mp (fun z9 => h ((lg_cmp_gt _ _).mpr z9))))
theorem v_lif_le (X : vOk K cc own nL) {x y : Int64} {off : Int} {tgt : Nat} (d : decode cc pc = .ok (.ifCond .le off, 3)) (ht : (pc : Int) + off = (tgt : Int)) (e : pc + 3 = pc') (kt : x ≤ y → V K nL ws n1 n2 tgt lv st) (kf : y < x → V K nL ws n1 n2 pc' lv st) : V K nL ws n1 n2 pc lv (.int (lg_cmp x y) :: st) := v_if_le X d ht e (fun h => kt ((lg_cmp_le _ _).mp h)) (fun h => kf (Int64.not_le.mp (fun z9 => h ((lg_cmp_le _ _).mpr z9))))
end VB
theorem pl_pair {p : Nat} (h : p < 200) : pl (8589934592 + lN p) = p := by
  have e1 : (8589934592 + lN p).toInt32 = nI p := by
    rw [show (8589934592 : Int64) = lN 8589934592 from rfl, lN_add, lN_i]
    apply Int32.toBitVec_inj.mp
    show BitVec.ofNat 32 (8589934592 + p) = BitVec.ofNat 32 p
    apply BitVec.eq_of_toNat_eq
    simp only [BitVec.toNat_ofNat]; omega
  unfold pl nn; rw [e1, nI_clamp (by omega)]
theorem pl_var {p : Nat} (h : p < 200) : pl (17179869184 + lN p) = p := by
  have e1 : (17179869184 + lN p).toInt32 = nI p := by
    rw [show (17179869184 : Int64) = lN 17179869184 from rfl, lN_add, lN_i]
    apply Int32.toBitVec_inj.mp
    show BitVec.ofNat 32 (17179869184 + p) = BitVec.ofNat 32 p
    apply BitVec.eq_of_toNat_eq
    simp only [BitVec.toNat_ofNat]; omega
  unfold pl nn; rw [e1, nI_clamp (by omega)]
theorem nn_nI {k : Nat} (h : k < 2 ^ 31) : nn (nI k) = k := nI_clamp h
