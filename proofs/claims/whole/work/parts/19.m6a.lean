/-! GATHERING (reference) -/
noncomputable def rzR (st : Int32) (row : Nat → Int64) (e : Nat) : Nat → Int64 := fun k => @ite _ (k < e ∧ (st = 3 ∨ st = 4) ∧ ¬ isI (row k) ∧ (st = 4 ∨ 0 < k)) (Classical.propDecidable _) 0 (row k)
theorem rzR_0 {st : Int32} {row : Nat → Int64} : rzR st row 0 = row := by
  funext k; exact if_neg (fun z9 => Nat.not_lt_zero k z9.1)
theorem rzR_off {st : Int32} {row : Nat → Int64} {e : Nat} (h : ¬ (st = 3 ∨ st = 4)) : rzR st row e = row := by
  funext k; exact if_neg (fun z9 => h z9.2.1)
theorem rzR_k {st : Int32} {row : Nat → Int64} {k : Nat} (h1 : st = 3 ∨ st = 4) (h2 : ¬ isI (row k)) (h3 : st = 4 ∨ 0 < k) : vp_updL (rzR st row k) k 0 = rzR st row (k + 1) := by
  funext q
  show (if q = k then (0 : Int64) else rzR st row k q) = _
  unfold rzR
  by_cases hq : q = k
  · subst hq; rw [if_pos rfl, if_pos ⟨by omega, h1, h2, h3⟩]
  · rw [if_neg hq]
    by_cases hq2 : q < k
    · by_cases h4 : (st = 3 ∨ st = 4) ∧ ¬ isI (row q) ∧ (st = 4 ∨ 0 < q)
      · rw [if_pos ⟨hq2, h4⟩, if_pos ⟨by omega, h4⟩]
      · rw [if_neg (fun z9 => h4 z9.2), if_neg (fun z9 => h4 z9.2)]
    · rw [if_neg (fun z9 => hq2 z9.1), if_neg (fun z9 => by have := z9.1; omega)]
theorem rzR_n {st : Int32} {row : Nat → Int64} {k : Nat} (h : ¬ (¬ isI (row k) ∧ (st = 4 ∨ 0 < k))) : rzR st row k = rzR st row (k + 1) := by
  funext q
  unfold rzR
  by_cases hq : q = k
  · subst hq; rw [if_neg (fun z9 => Nat.lt_irrefl _ z9.1), if_neg (fun z9 => h z9.2.2)]
  · by_cases hq2 : q < k
    · by_cases h4 : (st = 3 ∨ st = 4) ∧ ¬ isI (row q) ∧ (st = 4 ∨ 0 < q)
      · rw [if_pos ⟨hq2, h4⟩, if_pos ⟨by omega, h4⟩]
      · rw [if_neg (fun z9 => h4 z9.2), if_neg (fun z9 => h4 z9.2)]
    · rw [if_neg (fun z9 => hq2 z9.1), if_neg (fun z9 => by have := z9.1; omega)]
theorem rzR_ge {st : Int32} {row : Nat → Int64} {k : Nat} : rzR st row k k = row k := if_neg (fun z9 => Nat.lt_irrefl _ z9.1)
theorem isI_0 : isI 0 := by unfold isI; decide
theorem rzR_ok {st : Int32} {row : Nat → Int64} {e k : Nat} (h : ok1 (row k)) : ok1 (rzR st row e k) := by
  unfold rzR
  split
  · exact Or.inl isI_0
  · exact h
def zr (f : Nat → Int32) (e : Nat) : Nat → Int32 := fun p => if p < e then 0 else f p
theorem zr_0 {f : Nat → Int32} : zr f 0 = f := by
  funext p; exact if_neg (Nat.not_lt_zero p)
theorem zr_s {f : Nat → Int32} {k : Nat} : upd (zr f k) k 0 = zr f (k + 1) := by
  funext q
  show (if q = k then (0 : Int32) else zr f k q) = _
  unfold zr
  by_cases h1 : q = k
  · subst h1; rw [if_pos rfl, if_pos (by omega)]
  · rw [if_neg h1]
    by_cases h2 : q < k
    · rw [if_pos h2, if_pos (by omega)]
    · rw [if_neg h2, if_neg (by omega)]
theorem zr_01 {f : Nat → Int32} : row01 (zr f 200) := fun p hp => Or.inl (if_pos hp)
/-- the roots of one task -/
noncomputable def fRootF (f : Nat → Int32) (N : vM) (b : Nat) (reg : Nat → Int64) : Nat → Int32 :=
  mkR (mkR (mkR (mkR (mkR f reg 16) (N.2 (b + 9)) (16 * nn (N.1 b 4))) (N.2 (b + 15)) (nn (N.1 b 5))) (N.2 (b + 16)) (nn (N.1 b 6))) (N.2 (b + 17)) (nn (N.1 b 6))
noncomputable def fRootT (N : vM) (b : Nat) : vM :=
  mRI (mRL N (b + 8) (rzR (N.1 b 0) (N.2 (b + 8)) 16)) 18 (fRootF (N.1 18) N b (rzR (N.1 b 0) (N.2 (b + 8)) 16))
noncomputable def fRoots (M : vM) : Nat → vM
  | 0 => mRI (mI M 0 6 (M.1 0 6 + 1)) 18 (mkR (zr (M.1 18) 200) (M.2 14) 8)
  | q + 1 => fRootT (fRoots M q) (tb q)
theorem fRoots_01 {M : vM} : ∀ q, row01 ((fRoots M q).1 18)
  | 0 => by
    show row01 ((mRI _ 18 _).1 18)
    rw [mRI_r]; exact mkR_01 zr_01 _ _
  | q + 1 => by
    show row01 ((mRI _ 18 _).1 18)
    rw [mRI_r]; exact mkR_01 (mkR_01 (mkR_01 (mkR_01 (mkR_01 (fRoots_01 q) _ _) _ _) _ _) _ _) _ _
theorem fRoots_1 {M : vM} {x : Nat} (h0 : x ≠ 0) (h : x ≠ 18) : ∀ {q : Nat}, (fRoots M q).1 x = M.1 x
  | 0 => (mRI_n _ _ _ h).trans (mI_n _ _ _ _ h0)
  | q + 1 => by
    show (mRI (mRL (fRoots M q) _ _) 18 _).1 x = _
    rw [mRI_n _ _ _ h]; exact fRoots_1 h0 h (q := q)
theorem fRoots_10 {M : vM} {k : Nat} (hk : k ≠ 6) : ∀ {q : Nat}, (fRoots M q).1 0 k = M.1 0 k
  | 0 => (congrFun (mRI_n _ _ _ (by decide)) k).trans (mI_o _ _ _ _ hk)
  | q + 1 => by
    show (mRI (mRL (fRoots M q) _ _) 18 _).1 0 k = _
    rw [mRI_n _ _ _ (by decide)]; exact fRoots_10 hk (q := q)
theorem fRoots_2 {M : vM} {x : Nat} : ∀ {q : Nat}, (∀ j, j < q → x ≠ tb j + 8) → (fRoots M q).2 x = M.2 x
  | 0, _ => rfl
  | q + 1, h => (mRL_n (fRoots M q) _ _ (h q (Nat.lt_succ_self q))).trans (fRoots_2 (fun j hj => h j (Nat.lt_succ_of_lt hj)))
theorem fRoots_reg {M : vM} {j k : Nat} (h : ok1 (M.2 (tb j + 8) k)) : ∀ {q : Nat}, ok1 ((fRoots M q).2 (tb j + 8) k)
  | 0 => h
  | q + 1 => by
    by_cases hq : j = q
    · subst hq
      show ok1 ((mRL (fRoots M j) (tb j + 8) _).2 (tb j + 8) k)
      rw [mRL_r]; exact rzR_ok (fRoots_reg h (q := j))
    · show ok1 ((mRL (fRoots M q) (tb q + 8) _).2 (tb j + 8) k)
      rw [mRL_n _ _ _ (by unfold tb; omega)]; exact fRoots_reg h (q := q)
theorem tOK_roots {M : vM} {j q : Nat} (h : tOK M (tb j)) : tOK (fRoots M q) (tb j) := by
  obtain ⟨e, r, w, h4, he, h5, hr, h6, hw, h8, h9, h15, h16, h17⟩ := h
  have e1 : (fRoots M q).1 (tb j) = M.1 (tb j) := fRoots_1 (by unfold tb; omega) (by unfold tb; omega)
  exact ⟨e, r, w, by rw [e1]; exact h4, he, by rw [e1]; exact h5, hr, by rw [e1]; exact h6, hw, fun k hk => fRoots_reg (h8 k hk), fun k hk => by rw [fRoots_2 (fun j hj => by unfold tb; omega)]; exact h9 k hk, fun k hk => by rw [fRoots_2 (fun j hj => by unfold tb; omega)]; exact h15 k hk, fun k hk => by rw [fRoots_2 (fun j hj => by unfold tb; omega)]; exact h16 k hk, fun k hk => by rw [fRoots_2 (fun j hj => by unfold tb; omega)]; exact h17 k hk⟩
theorem gOK_roots {M : vM} {n us q : Nat} (h : gOK M n us) : gOK (fRoots M q) n us := by
  obtain ⟨hus, hus2, hn, hn16, hfs, hgl, hts, h17⟩ := h
  exact ⟨(fRoots_10 (by decide)).trans hus, hus2, (fRoots_10 (by decide)).trans hn, hn16, fun p hp => by rw [fRoots_2 (fun j hj => by unfold tb; omega), fRoots_2 (fun j hj => by unfold tb; omega)]; exact hfs p hp, fun k hk => by rw [fRoots_2 (fun j hj => by unfold tb; omega)]; exact hgl k hk, fun j hj => tOK_roots (hts j hj), by rw [fRoots_1 (by decide) (by decide)]; exact h17⟩
theorem gOK_18 {M : vM} {n us : Nat} {f : Nat → Int32} (h : gOK M n us) : gOK (mRI M 18 f) n us := by
  obtain ⟨hus, hus2, hn, hn16, hfs, hgl, hts, h17⟩ := h
  refine ⟨by rw [mRI_n _ _ _ (by decide)]; exact hus, hus2, by rw [mRI_n _ _ _ (by decide)]; exact hn, hn16, hfs, hgl, fun j hj => ?_, by rw [mRI_n _ _ _ (by decide)]; exact h17⟩
  obtain ⟨e, r, w, h4, he, h5, hr, h6, hw, h8⟩ := hts j hj
  have e1 : (mRI M 18 f).1 (tb j) = M.1 (tb j) := mRI_n _ _ _ (by unfold tb; omega)
  exact ⟨e, r, w, by rw [e1]; exact h4, he, by rw [e1]; exact h5, hr, by rw [e1]; exact h6, hw, h8⟩
/-- what is reached from f0 -/
def Cl (f0 : Nat → Int32) (fs sn : Nat → Int64) (us p : Nat) : Prop := ∀ S : Nat → Prop, (∀ q, f0 q = 1 → S q) → (∀ q, q < us → S q → (¬ isI (fs q) → S (pl (fs q))) ∧ (¬ isI (sn q) → S (pl (sn q)))) → S p
noncomputable def fClose (f0 : Nat → Int32) (fs sn : Nat → Int64) (us : Nat) : Nat → Int32 := fun p => if p < 200 then bP (Cl f0 fs sn us p) else f0 p
def zcnt (f : Nat → Int32) : Nat → Nat
  | 0 => 0
  | k + 1 => zcnt f k + (if f k = 0 then 1 else 0)
theorem zcnt_upd {f : Nat → Int32} {i : Nat} (h : f i = 0) : ∀ k, (i < k → zcnt (upd f i 1) k < zcnt f k) ∧ (k ≤ i → zcnt (upd f i 1) k = zcnt f k)
  | 0 => ⟨fun z9 => absurd z9 (Nat.not_lt_zero i), fun _ => rfl⟩
  | k + 1 => by
    obtain ⟨h1, h2⟩ := zcnt_upd h k
    refine ⟨fun z9 => ?_, fun z9 => ?_⟩
    · rw [zcnt, zcnt]
      by_cases hk : k = i
      · subst hk
        rw [h2 (Nat.le_refl k), pk_us, h, if_pos rfl, if_neg (by decide)]; omega
      · rw [pk_un hk]
        have := h1 (by omega)
        omega
    · rw [zcnt, zcnt, h2 (by omega), pk_un (by omega)]
def ec (fs sn : Nat → Int64) (g : Nat → Int32) (p : Nat) : Prop := (¬ isI (fs p) → g (pl (fs p)) = 1) ∧ (¬ isI (sn p) → g (pl (sn p)) = 1)
def PX (fs sn : Nat → Int64) (x : Int32) (g f : Nat → Int32) (p : Nat) : Prop := (x = 0 ∧ g = f ∧ ∀ q, q < p → g q = 1 → ec fs sn g q) ∨ (x = 1 ∧ zcnt g 200 < zcnt f 200)
theorem mk1_lt {g : Nat → Int32} {v : Int64} (hv : ok1 v) (h : ¬ isI v ∧ g (pl v) = 0) : zcnt (mk1 g v) 200 < zcnt g 200 := by
  rw [mk1_n h.1]
  exact (zcnt_upd h.2 200).1 (hv.resolve_left h.1).1
theorem mk1_eq {g : Nat → Int32} {v : Int64} (hv : ok1 v) (h01 : row01 g) (h : ¬ (¬ isI v ∧ g (pl v) = 0)) : mk1 g v = g := by
  by_cases h1 : isI v
  · exact mk1_i h1
  · exact mk1_k ((h01 _ (hv.resolve_left h1).1).resolve_left (fun z9 => h ⟨h1, z9⟩))
theorem PX_step {fs sn : Nat → Int64} {x : Int32} {g f : Nat → Int32} {p : Nat} (h : PX fs sn x g f p) (h01 : row01 g) (ha : ok1 (fs p)) (hb : ok1 (sn p)) : PX fs sn ((x ||| bP (¬ isI (fs p) ∧ g (pl (fs p)) = 0)) ||| bP (¬ isI (sn p) ∧ (mk1 g (fs p)) (pl (sn p)) = 0)) (mk1 (mk1 g (fs p)) (sn p)) f (p + 1) := by
  have h02 : row01 (mk1 g (fs p)) := mk1_01 h01 _
  by_cases c1 : ¬ isI (fs p) ∧ g (pl (fs p)) = 0
  · have l1 := mk1_lt ha c1
    rw [bP_t c1]
    have hz : zcnt (mk1 (mk1 g (fs p)) (sn p)) 200 ≤ zcnt (mk1 g (fs p)) 200 := by
      by_cases c2 : ¬ isI (sn p) ∧ (mk1 g (fs p)) (pl (sn p)) = 0
      · exact Nat.le_of_lt (mk1_lt hb c2)
      · rw [mk1_eq hb h02 c2]; exact Nat.le_refl _
    refine Or.inr ⟨?_, ?_⟩
    · rcases h with ⟨rfl, -⟩ | ⟨rfl, -⟩
      · by_cases c2 : ¬ isI (sn p) ∧ (mk1 g (fs p)) (pl (sn p)) = 0
        · rw [bP_t c2]; decide
        · rw [bP_f c2]; decide
      · by_cases c2 : ¬ isI (sn p) ∧ (mk1 g (fs p)) (pl (sn p)) = 0
        · rw [bP_t c2]; decide
        · rw [bP_f c2]; decide
    · rcases h with ⟨-, rfl, -⟩ | ⟨-, h⟩ <;> omega
  · have e1 := mk1_eq ha h01 c1
    rw [bP_f c1, e1]
    by_cases c2 : ¬ isI (sn p) ∧ g (pl (sn p)) = 0
    · have l2 := mk1_lt hb c2
      rw [bP_t c2]
      refine Or.inr ⟨?_, ?_⟩
      · rcases h with ⟨rfl, -⟩ | ⟨rfl, -⟩ <;> decide
      · rcases h with ⟨-, rfl, -⟩ | ⟨-, h⟩ <;> omega
    · rw [bP_f c2, mk1_eq hb h01 c2]
      rcases h with ⟨rfl, hg, hq⟩ | ⟨rfl, h⟩
      · refine Or.inl ⟨by decide, hg, fun q hqp hq1 => ?_⟩
        by_cases hqe : q = p
        · subst hqe
          exact ⟨fun z9 => (h01 _ (ha.resolve_left z9).1).resolve_left (fun y9 => c1 ⟨z9, y9⟩), fun z9 => (h01 _ (hb.resolve_left z9).1).resolve_left (fun y9 => c2 ⟨z9, y9⟩)⟩
        · exact hq q (by omega) hq1
      · exact Or.inr ⟨by decide, h⟩
theorem PX_skip {fs sn : Nat → Int64} {x : Int32} {g f : Nat → Int32} {p : Nat} (h : PX fs sn x g f p) (h0 : g p = 0) : PX fs sn x g f (p + 1) := by
  rcases h with ⟨h1, h2, h3⟩ | h
  · refine Or.inl ⟨h1, h2, fun q hq hq1 => ?_⟩
    by_cases hqe : q = p
    · subst hqe; rw [h0] at hq1; exact absurd hq1 (by decide)
    · exact h3 q (by omega) hq1
  · exact Or.inr h
/-- a row of marks between f0 and what is reached from it -/
def btw (f0 : Nat → Int32) (fs sn : Nat → Int64) (us : Nat) (g : Nat → Int32) : Prop := row01 g ∧ (∀ p, p < 200 → f0 p = 1 → g p = 1) ∧ (∀ p, ¬ p < 200 → g p = f0 p) ∧ ∀ p, p < 200 → g p = 1 → Cl f0 fs sn us p
theorem btw_mk {f0 g : Nat → Int32} {fs sn : Nat → Int64} {us : Nat} {v : Int64} (h : btw f0 fs sn us g) (hv : ok1 v) (hc : ¬ isI v → Cl f0 fs sn us (pl v)) : btw f0 fs sn us (mk1 g v) := by
  obtain ⟨h1, h2, h3, h4⟩ := h
  by_cases hi : isI v
  · rw [mk1_i hi]; exact ⟨h1, h2, h3, h4⟩
  · have hp := (hv.resolve_left hi).1
    refine ⟨mk1_01 h1 v, fun p hp0 h0 => ?_, fun p hp0 => ?_, fun p hp0 h0 => ?_⟩
    · rw [mk1_n hi]
      by_cases hq : p = pl v
      · subst hq; exact pk_us
      · rw [pk_un hq]; exact h2 p hp0 h0
    · rw [mk1_n hi, pk_un (by omega)]; exact h3 p hp0
    · rw [mk1_n hi] at h0
      by_cases hq : p = pl v
      · subst hq; exact hc hi
      · rw [pk_un hq] at h0; exact h4 p hp0 h0
theorem Cl_e {f0 : Nat → Int32} {fs sn : Nat → Int64} {us p : Nat} (hp : p < us) (h : Cl f0 fs sn us p) : (¬ isI (fs p) → Cl f0 fs sn us (pl (fs p))) ∧ (¬ isI (sn p) → Cl f0 fs sn us (pl (sn p))) :=
  ⟨fun z9 S h1 h2 => (h2 p hp (h S h1 h2)).1 z9, fun z9 S h1 h2 => (h2 p hp (h S h1 h2)).2 z9⟩
theorem btw_end {f0 g : Nat → Int32} {fs sn : Nat → Int64} {us : Nat} (hus : us ≤ 200) (h : btw f0 fs sn us g) (hc : ∀ q, q < us → g q = 1 → ec fs sn g q) : g = fClose f0 fs sn us := by
  obtain ⟨h1, h2, h3, h4⟩ := h
  funext p
  unfold fClose
  by_cases hp : p < 200
  · rw [if_pos hp]
    rcases h1 p hp with h0 | h0
    · rw [bP_f, h0]
      intro hcl
      rcases hcl (fun q => g q = 1 ∨ ¬ q < 200) (fun q hq => by
        by_cases hq2 : q < 200
        · exact Or.inl (h2 q hq2 hq)
        · exact Or.inr hq2) (fun q hq hs => by
        have hg1 := hs.resolve_right (fun z9 => z9 (by omega))
        exact ⟨fun z9 => Or.inl ((hc q hq hg1).1 z9), fun z9 => Or.inl ((hc q hq hg1).2 z9)⟩) with hh | hh
      · rw [h0] at hh; exact absurd hh (by decide)
      · exact hh hp
    · rw [bP_t (h4 p hp h0), h0]
  · rw [if_neg hp]; exact h3 p hp
noncomputable def fGather (M : vM) (n us : Nat) : vM :=
  let N := fRoots M n
  fSlide (mRI N 18 (fClose (N.1 18) (N.2 15) (N.2 16) us)) n us
