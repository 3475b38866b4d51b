/-! MEMORY. A system's cells by codes: M.1 c k the int in slot k of the object (place k of the row) with code c, M.2 c k the long. 'cell' says what kind of cell a code is. -/
abbrev vM : Type := (Nat → Nat → Int32) × (Nat → Nat → Int64)
def mI (M : vM) (c k : Nat) (v : Int32) : vM := (va_up M.1 c (upd (M.1 c) k v), M.2)
def mL (M : vM) (c k : Nat) (v : Int64) : vM := (M.1, va_up M.2 c (vp_updL (M.2 c) k v))
def mRI (M : vM) (c : Nat) (f : Nat → Int32) : vM := (va_up M.1 c f, M.2)
def mRL (M : vM) (c : Nat) (f : Nat → Int64) : vM := (M.1, va_up M.2 c f)
theorem mI_r (M : vM) (c k : Nat) (v : Int32) : (mI M c k v).1 c = upd (M.1 c) k v := va_up_self _ _ _
theorem mI_n (M : vM) (c k : Nat) (v : Int32) {x : Nat} (h : x ≠ c) : (mI M c k v).1 x = M.1 x := va_up_ne _ _ h
theorem mI_s (M : vM) (c k : Nat) (v : Int32) : (mI M c k v).1 c k = v := by rw [mI_r]; exact pk_us
theorem mI_o (M : vM) (c k : Nat) (v : Int32) {j : Nat} (h : j ≠ k) : (mI M c k v).1 c j = M.1 c j := by rw [mI_r]; exact pk_un h
theorem mI_2 (M : vM) (c k : Nat) (v : Int32) : (mI M c k v).2 = M.2 := rfl
theorem mL_r (M : vM) (c k : Nat) (v : Int64) : (mL M c k v).2 c = vp_updL (M.2 c) k v := va_up_self _ _ _
theorem mL_n (M : vM) (c k : Nat) (v : Int64) {x : Nat} (h : x ≠ c) : (mL M c k v).2 x = M.2 x := va_up_ne _ _ h
theorem mL_s (M : vM) (c k : Nat) (v : Int64) : (mL M c k v).2 c k = v := by rw [mL_r]; exact pk_uLs
theorem mL_o (M : vM) (c k : Nat) (v : Int64) {j : Nat} (h : j ≠ k) : (mL M c k v).2 c j = M.2 c j := by rw [mL_r]; exact pk_uLn h
theorem mL_1 (M : vM) (c k : Nat) (v : Int64) : (mL M c k v).1 = M.1 := rfl
theorem mRI_r (M : vM) (c : Nat) (f : Nat → Int32) : (mRI M c f).1 c = f := va_up_self _ _ _
theorem mRI_n (M : vM) (c : Nat) (f : Nat → Int32) {x : Nat} (h : x ≠ c) : (mRI M c f).1 x = M.1 x := va_up_ne _ _ h
theorem mRI_2 (M : vM) (c : Nat) (f : Nat → Int32) : (mRI M c f).2 = M.2 := rfl
theorem mRL_r (M : vM) (c : Nat) (f : Nat → Int64) : (mRL M c f).2 c = f := va_up_self _ _ _
theorem mRL_n (M : vM) (c : Nat) (f : Nat → Int64) {x : Nat} (h : x ≠ c) : (mRL M c f).2 x = M.2 x := va_up_ne _ _ h
theorem mRL_1 (M : vM) (c : Nat) (f : Nat → Int64) : (mRL M c f).1 = M.1 := rfl
abbrev vCell : Type := Nat → (Nat → Int32) → (Nat → Int64) → va_E
def pM (cell : vCell) (cs : List Nat) (ad : Nat → Nat) (M : vM) : va_W := pw cs ad (fun c => cell c (M.1 c) (M.2 c))
theorem pM_at {cell : vCell} {cs : List Nat} {ad : Nat → Nat} {M : vM} {c : Nat} {e : va_E} (h : c ∈ cs) (he : cell c (M.1 c) (M.2 c) = e) : ∃ k : Nat, cs[k]? = some c ∧ (pM cell cs ad M)[k]? = some (ad c, e) := by
  obtain ⟨k, h1, h2⟩ := pw_get (ad := ad) (G := fun c => cell c (M.1 c) (M.2 c)) h
  exact ⟨k, h1, by rw [pM, h2]; exact congrArg (fun e => some (ad c, e)) he⟩
theorem pM_set1 {A : Nat → Prop} {cell : vCell} {cs : List Nat} {ad : Nat → Nat} {M : vM} (hD : va_D A (pM cell cs ad M)) {k c : Nat} (hk : cs[k]? = some c) {e : va_E} {f : Nat → Int32} (he : cell c f (M.2 c) = e) : (pM cell cs ad M).set k (ad c, e) = pM cell cs ad (mRI M c f) := by
  rw [pM, pw_set hD hk]
  refine pw_congr (fun _ _ => rfl) (fun x _ => ?_)
  by_cases hx : x = c
  · subst hx; rw [va_up_self]; show e = cell x ((mRI M x f).1 x) (M.2 x); rw [mRI_r, he]
  · rw [va_up_ne _ _ hx]; show _ = cell x ((mRI M c f).1 x) (M.2 x); rw [mRI_n _ _ _ hx]
theorem pM_set2 {A : Nat → Prop} {cell : vCell} {cs : List Nat} {ad : Nat → Nat} {M : vM} (hD : va_D A (pM cell cs ad M)) {k c : Nat} (hk : cs[k]? = some c) {e : va_E} {f : Nat → Int64} (he : cell c (M.1 c) f = e) : (pM cell cs ad M).set k (ad c, e) = pM cell cs ad (mRL M c f) := by
  rw [pM, pw_set hD hk]
  refine pw_congr (fun _ _ => rfl) (fun x _ => ?_)
  by_cases hx : x = c
  · subst hx; rw [va_up_self]; show e = cell x (M.1 x) ((mRL M x f).2 x); rw [mRL_r, he]
  · rw [va_up_ne _ _ hx]; show _ = cell x (M.1 x) ((mRL M c f).2 x); rw [mRL_n _ _ _ hx]
section PROWS
variable {K : vKt} {cc : ByteArray} {own : String} {nL n1 n2 pc pc' : Nat} {lv lv' : List (Nat × Value)} {st : List Value} {cell : vCell} {cs : List Nat} {ad : Nat → Nat} {M : vM} {c : Nat}
theorem v_atD {ws : va_W} (k : va_D (kA K) ws → V K nL ws n1 n2 pc lv st) : V K nL ws n1 n2 pc lv st := fun H locs ls hP hD hS hl => k hD H locs ls hP hD hS hl
theorem p_get (X : vOk K cc own nL) {ref C : String} {T : u_T} {N ci index : Nat} (hin : ∀ w ∈ u_ws C T N, w ∈ gw) (hm : c ∈ cs) {fs : List Value} (he : cell c (M.1 c) (M.2 c) = .inr (ci, fs)) (hc : vwCl[ci]? = some (C, T, N)) (k : Nat) (hk : k < N) (hlink : Cond.fieldLink own index ref (T k).2.1 (T k).2.2.1 ∈ gw) (hr : (T k).1 = ref) {v : Value} (hv : fs[k]? = some v) (d : decode cc pc = .ok (.getfield index, 3)) (e : pc + 3 = pc') (kk : V K nL (pM cell cs ad M) n1 n2 pc' lv (v :: st)) : V K nL (pM cell cs ad M) n1 n2 pc lv (.ref (ad c) :: st) := by
  obtain ⟨q0, -, h2⟩ := pM_at (ad := ad) hm he
  exact v_get X hin q0 h2 hc k hk hlink hr hv d e kk
theorem p_getN (X : vOk K cc own nL) {ref C host : String} {T : u_T} {N ci index : Nat} (hin : ∀ w ∈ u_ws C T N, w ∈ gw) (hm : c ∈ cs) {fs : List Value} (he : cell c (M.1 c) (M.2 c) = .inr (ci, fs)) (hc : vwCl[ci]? = some (C, T, N)) (k : Nat) (hk : k < N) (hlink : (own, index, ref, (T k).2.1, (T k).2.2.1, host) ∈ vNF) (hr : (T k).1 = ref) {v : Value} (hv : fs[k]? = some v) (d : decode cc pc = .ok (.getfield index, 3)) (e : pc + 3 = pc') (kk : V K nL (pM cell cs ad M) n1 n2 pc' lv (v :: st)) : V K nL (pM cell cs ad M) n1 n2 pc lv (.ref (ad c) :: st) := by
  obtain ⟨q0, -, h2⟩ := pM_at (ad := ad) hm he
  exact v_getN X hin q0 h2 hc k hk hlink hr hv d e kk
/-- putfield of an int: slot k of the object -/
theorem p_put (X : vOk K cc own nL) {ref C : String} {T : u_T} {N ci index : Nat} (hin : ∀ w ∈ u_ws C T N, w ∈ gw) (ty0 : Nat → FieldType) (hty : ∀ k, k < N → parseFieldDescriptor (T k).2.2.1 = some (ty0 k)) (hnm : ∀ a, a < N → ∀ b, b < N → a ≠ b → (T a).2.1 ≠ (T b).2.1) (hm : c ∈ cs) {F : (Nat → Int32) → List Value} (he : ∀ f g, cell c f g = .inr (ci, F f)) (hc : vwCl[ci]? = some (C, T, N)) (k : Nat) (hk : k < N) (hlink : Cond.fieldLink own index ref (T k).2.1 (T k).2.2.1 ∈ gw) (hr : (T k).1 = ref) (hfin : (T k).2.2.2 = false) {v : Int32} (hd : parseFieldDescriptor (T k).2.2.1 = some .int) (hset : ∀ f, F (upd f k v) = (F f).set k (.int v)) (hl : ∀ f, k < (F f).length) (d : decode cc pc = .ok (.putfield index, 3)) (e : pc + 3 = pc')
    (kk : V K nL (pM cell cs ad (mI M c k v)) n1 n2 pc' lv st) : V K nL (pM cell cs ad M) n1 n2 pc lv (.int v :: .ref (ad c) :: st) := by
  refine v_atD (fun hD => ?_)
  obtain ⟨q0, h1, h2⟩ := pM_at (ad := ad) hm (he (M.1 c) (M.2 c))
  refine v_put X hin ty0 hty hnm q0 h2 hc k hk hlink hr hfin hd rfl rfl (hl _) d e ?_
  rw [pM_set1 hD h1 (f := upd (M.1 c) k v) (by rw [he, hset])]
  exact kk
theorem p_putN (X : vOk K cc own nL) {ref C host : String} {T : u_T} {N ci index : Nat} (hin : ∀ w ∈ u_ws C T N, w ∈ gw) (ty0 : Nat → FieldType) (hty : ∀ k, k < N → parseFieldDescriptor (T k).2.2.1 = some (ty0 k)) (hnm : ∀ a, a < N → ∀ b, b < N → a ≠ b → (T a).2.1 ≠ (T b).2.1) (hm : c ∈ cs) {F : (Nat → Int32) → List Value} (he : ∀ f g, cell c f g = .inr (ci, F f)) (hc : vwCl[ci]? = some (C, T, N)) (k : Nat) (hk : k < N) (hlink : (own, index, ref, (T k).2.1, (T k).2.2.1, host) ∈ vNF) (hr : (T k).1 = ref) (hfin : (T k).2.2.2 = false) {v : Int32} (hd : parseFieldDescriptor (T k).2.2.1 = some .int) (hset : ∀ f, F (upd f k v) = (F f).set k (.int v)) (hl : ∀ f, k < (F f).length) (d : decode cc pc = .ok (.putfield index, 3)) (e : pc + 3 = pc')
    (kk : V K nL (pM cell cs ad (mI M c k v)) n1 n2 pc' lv st) : V K nL (pM cell cs ad M) n1 n2 pc lv (.int v :: .ref (ad c) :: st) := by
  refine v_atD (fun hD => ?_)
  obtain ⟨q0, h1, h2⟩ := pM_at (ad := ad) hm (he (M.1 c) (M.2 c))
  refine v_putN X hin ty0 hty hnm q0 h2 hc k hk hlink hr hfin hd rfl rfl (hl _) d e ?_
  rw [pM_set1 hD h1 (f := upd (M.1 c) k v) (by rw [he, hset])]
  exact kk
theorem p_iald (X : vOk K cc own nL) (hm : c ∈ cs) {n : Nat} (he : ∀ f g, cell c f g = .inl (kY K 0, n, .inl f)) {i : Int32} (j : Nat) (hj : i = nI j) (hn : j < n) (hN : n < 2 ^ 31) {v : Int32} (hv : M.1 c j = v) (d : decode cc pc = .ok (.iaload, 1)) (e : pc + 1 = pc') (kk : V K nL (pM cell cs ad M) n1 n2 pc' lv (.int v :: st)) : V K nL (pM cell cs ad M) n1 n2 pc lv (.int i :: .ref (ad c) :: st) := by
  obtain ⟨q0, -, h2⟩ := pM_at (ad := ad) hm (he (M.1 c) (M.2 c))
  subst hj
  exact v_iald X q0 h2 (vp_in_nI hn hN) (by rw [nI_clamp (Nat.lt_trans hn hN)]; exact hv) d e kk
theorem p_zald (X : vOk K cc own nL) (hm : c ∈ cs) {n : Nat} (he : ∀ f g, cell c f g = .inl (kY K 2, n, .inl f)) {i : Int32} (j : Nat) (hj : i = nI j) (hn : j < n) (hN : n < 2 ^ 31) {v : Int32} (hv : M.1 c j = v) (d : decode cc pc = .ok (.baload, 1)) (e : pc + 1 = pc') (kk : V K nL (pM cell cs ad M) n1 n2 pc' lv (.int v :: st)) : V K nL (pM cell cs ad M) n1 n2 pc lv (.int i :: .ref (ad c) :: st) := by
  obtain ⟨q0, -, h2⟩ := pM_at (ad := ad) hm (he (M.1 c) (M.2 c))
  subst hj
  exact v_zald X q0 h2 (vp_in_nI hn hN) (by rw [nI_clamp (Nat.lt_trans hn hN)]; exact hv) d e kk
theorem p_lald (X : vOk K cc own nL) (hm : c ∈ cs) {n : Nat} (he : ∀ f g, cell c f g = .inl (kY K 1, n, .inr (.inl g))) {i : Int32} (j : Nat) (hj : i = nI j) (hn : j < n) (hN : n < 2 ^ 31) {v : Int64} (hv : M.2 c j = v) (d : decode cc pc = .ok (.laload, 1)) (e : pc + 1 = pc') (kk : V K nL (pM cell cs ad M) n1 n2 pc' lv (.long v :: st)) : V K nL (pM cell cs ad M) n1 n2 pc lv (.int i :: .ref (ad c) :: st) := by
  obtain ⟨q0, -, h2⟩ := pM_at (ad := ad) hm (he (M.1 c) (M.2 c))
  subst hj
  exact v_lald X q0 h2 (vp_in_nI hn hN) (by rw [nI_clamp (Nat.lt_trans hn hN)]; exact hv) d e kk
theorem p_iast (X : vOk K cc own nL) (hm : c ∈ cs) {n : Nat} (he : ∀ f g, cell c f g = .inl (kY K 0, n, .inl f)) {i x : Int32} (j : Nat) (hj : i = nI j) (hn : j < n) (hN : n < 2 ^ 31) (d : decode cc pc = .ok (.iastore, 1)) (e : pc + 1 = pc') (kk : V K nL (pM cell cs ad (mI M c j x)) n1 n2 pc' lv st) : V K nL (pM cell cs ad M) n1 n2 pc lv (.int x :: .int i :: .ref (ad c) :: st) := by
  refine v_atD (fun hD => ?_)
  obtain ⟨q0, h1, h2⟩ := pM_at (ad := ad) hm (he (M.1 c) (M.2 c))
  subst hj
  refine v_iast X q0 h2 (vp_in_nI hn hN) (nI_clamp (Nat.lt_trans hn hN)) d e ?_
  rw [pM_set1 hD h1 (f := upd (M.1 c) j x) (he _ _)]
  exact kk
theorem p_zast (X : vOk K cc own nL) (hm : c ∈ cs) {n : Nat} (he : ∀ f g, cell c f g = .inl (kY K 2, n, .inl f)) {i x y : Int32} (hxy : vp_nar .boolean x = y) (j : Nat) (hj : i = nI j) (hn : j < n) (hN : n < 2 ^ 31) (d : decode cc pc = .ok (.bastore, 1)) (e : pc + 1 = pc') (kk : V K nL (pM cell cs ad (mI M c j y)) n1 n2 pc' lv st) : V K nL (pM cell cs ad M) n1 n2 pc lv (.int x :: .int i :: .ref (ad c) :: st) := by
  refine v_atD (fun hD => ?_)
  obtain ⟨q0, h1, h2⟩ := pM_at (ad := ad) hm (he (M.1 c) (M.2 c))
  subst hj
  refine v_zast X q0 h2 hxy (vp_in_nI hn hN) (nI_clamp (Nat.lt_trans hn hN)) d e ?_
  rw [pM_set1 hD h1 (f := upd (M.1 c) j y) (he _ _)]
  exact kk
theorem p_last (X : vOk K cc own nL) (hm : c ∈ cs) {n : Nat} (he : ∀ f g, cell c f g = .inl (kY K 1, n, .inr (.inl g))) {i : Int32} {x : Int64} (j : Nat) (hj : i = nI j) (hn : j < n) (hN : n < 2 ^ 31) (d : decode cc pc = .ok (.lastore, 1)) (e : pc + 1 = pc') (kk : V K nL (pM cell cs ad (mL M c j x)) n1 n2 pc' lv st) : V K nL (pM cell cs ad M) n1 n2 pc lv (.long x :: .int i :: .ref (ad c) :: st) := by
  refine v_atD (fun hD => ?_)
  obtain ⟨q0, h1, h2⟩ := pM_at (ad := ad) hm (he (M.1 c) (M.2 c))
  subst hj
  refine v_last X q0 h2 (vp_in_nI hn hN) (nI_clamp (Nat.lt_trans hn hN)) d e ?_
  rw [pM_set2 hD h1 (f := vp_updL (M.2 c) j x) (he _ _)]
  exact kk
theorem p_aald (X : vOk K cc own nL) (hm : c ∈ cs) (t0 : Nat) {cA : ClassId} {C : String} {n : Nat} {F : Nat → Option Nat} (he : ∀ f g, cell c f g = .inl (cA, n, .inr (.inr (.inr (.inr F))))) (ht : (vTy (kY K))[t0]? = some (cA, .object C)) {i : Int32} (j : Nat) (hj : i = nI j) (hn : j < n) (hN : n < 2 ^ 31) {v : Nat} (hv : F j = some v) (d : decode cc pc = .ok (.aaload, 1)) (e : pc + 1 = pc') (kk : V K nL (pM cell cs ad M) n1 n2 pc' lv (.ref v :: st)) : V K nL (pM cell cs ad M) n1 n2 pc lv (.int i :: .ref (ad c) :: st) := by
  obtain ⟨q0, -, h2⟩ := pM_at (ad := ad) hm (he (M.1 c) (M.2 c))
  subst hj
  exact v_aald X q0 t0 h2 ht (vp_in_nI hn hN) (v := some v) (by rw [nI_clamp (Nat.lt_trans hn hN)]; exact hv) d e kk
theorem p_recv (hm : c ∈ cs) {ci : Nat} {fs : List Value} (he : cell c (M.1 c) (M.2 c) = .inr (ci, fs)) {q : vw_C} (hc : vwCl[ci]? = some q) {C : String} (hC : q.1 = C) : ∃ (q0 ci : Nat) (fs : List Value) (q : vw_C), (pM cell cs ad M)[q0]? = some (ad c, .inr (ci, fs)) ∧ vwCl[ci]? = some q ∧ q.1 = C := by
  obtain ⟨q0, -, h2⟩ := pM_at (ad := ad) hm he
  exact ⟨q0, ci, fs, q, h2, hc, hC⟩
end PROWS
section VVAR
variable {K : vKt} {cc : ByteArray} {own : String} {nL n1 n2 pc pc' : Nat} {ws : va_W} {lv : List (Nat × Value)} {st : List Value}
theorem v_iaddV (X : vOk K cc own nL) {x y v : Int32} (hv : x + y = v) (d : decode cc pc = .ok (.iadd, 1)) (e : pc + 1 = pc') (k : V K nL ws n1 n2 pc' lv (.int v :: st)) : V K nL ws n1 n2 pc lv (.int y :: .int x :: st) := v_iadd X d e (hv ▸ k)
theorem v_isubV (X : vOk K cc own nL) {x y v : Int32} (hv : x - y = v) (d : decode cc pc = .ok (.isub, 1)) (e : pc + 1 = pc') (k : V K nL ws n1 n2 pc' lv (.int v :: st)) : V K nL ws n1 n2 pc lv (.int y :: .int x :: st) := v_isub X d e (hv ▸ k)
theorem v_imulV (X : vOk K cc own nL) {x y v : Int32} (hv : x * y = v) (d : decode cc pc = .ok (.imul, 1)) (e : pc + 1 = pc') (k : V K nL ws n1 n2 pc' lv (.int v :: st)) : V K nL ws n1 n2 pc lv (.int y :: .int x :: st) := v_imul X d e (hv ▸ k)
theorem v_lcmpV (X : vOk K cc own nL) {x y : Int64} {v : Int32} (hv : lg_cmp x y = v) (d : decode cc pc = .ok (.lcmp, 1)) (e : pc + 1 = pc') (k : V K nL ws n1 n2 pc' lv (.int v :: st)) : V K nL ws n1 n2 pc lv (.long y :: .long x :: st) := v_lcmp X d e (hv ▸ k)
theorem v_st1 {a b : Value} (h : a = b) (k : V K nL ws n1 n2 pc lv (b :: st)) : V K nL ws n1 n2 pc lv (a :: st) := h ▸ k
end VVAR
theorem nI_dec {a : Nat} (k : Nat) (h : k ≤ a) : nI a + Int32.ofInt (-(k : Int)) = nI (a - k) := by
  have e1 := pk_sub (a := a) (b := k) h
  rw [← e1, Int32.sub_eq_add_neg]
  congr 1
  apply Int32.toBitVec_inj.mp
  simp [nI, Int32.toBitVec_ofInt]
theorem le_of_nI {a b : Nat} (h : nI a ≤ nI b) (ha : a < 2 ^ 31) (hb : b < 2 ^ 31) : a ≤ b := (nI_leI ha hb).mp h
theorem lt_of_nI {a b : Nat} (h : nI a < nI b) (ha : a < 2 ^ 31) (hb : b < 2 ^ 31) : a < b := (nI_ltI ha hb).mp h
theorem eq_of_nI {a b : Nat} (h : nI a = nI b) (ha : a < 2 ^ 31) (hb : b < 2 ^ 31) : a = b := (nI_eq ha hb).mp h
theorem mRL_self (M : vM) (c : Nat) : mRL M c (M.2 c) = M := by
  show (M.1, va_up M.2 c (M.2 c)) = M
  have e1 : va_up M.2 c (M.2 c) = M.2 := by
    funext x
    by_cases hx : x = c
    · subst hx; exact va_up_self _ _ _
    · exact va_up_ne _ _ hx
  rw [e1]
theorem mRI_self (M : vM) (c : Nat) : mRI M c (M.1 c) = M := by
  show (va_up M.1 c (M.1 c), M.2) = M
  have e1 : va_up M.1 c (M.1 c) = M.1 := by
    funext x
    by_cases hx : x = c
    · subst hx; exact va_up_self _ _ _
    · exact va_up_ne _ _ hx
  rw [e1]
theorem mL_mRL (M : vM) (c : Nat) (f : Nat → Int64) (k : Nat) (v : Int64) : mL (mRL M c f) c k v = mRL M c (vp_updL f k v) := by
  show (M.1, va_up (va_up M.2 c f) c (vp_updL (va_up M.2 c f c) k v)) = _
  rw [bx_uu, va_up_self]; rfl
theorem mI_mRI (M : vM) (c : Nat) (f : Nat → Int32) (k : Nat) (v : Int32) : mI (mRI M c f) c k v = mRI M c (upd f k v) := by
  show (va_up (va_up M.1 c f) c (upd (va_up M.1 c f c) k v), M.2) = _
  rw [bx_uu, va_up_self]; rfl
/-- d with its places o .. o + j - 1 taken from s's p .. -/
def vcp {α : Type} (s : Nat → α) (p o j : Nat) (d : Nat → α) : Nat → α := fun q => if o ≤ q ∧ q < o + j then s (p + (q - o)) else d q
theorem vcp_0 {α : Type} (s : Nat → α) (p o : Nat) (d : Nat → α) : vcp s p o 0 d = d := by
  funext q; exact if_neg (by omega)
theorem vcp_sL (s : Nat → Int64) (p o j : Nat) (d : Nat → Int64) : vp_updL (vcp s p o j d) (o + j) (s (p + j)) = vcp s p o (j + 1) d := by
  funext q
  show (if q = o + j then s (p + j) else vcp s p o j d q) = _
  unfold vcp
  by_cases h1 : q = o + j
  · subst h1; rw [if_pos rfl, if_pos (by omega)]; congr 1; omega
  · rw [if_neg h1]
    by_cases h2 : o ≤ q ∧ q < o + j
    · rw [if_pos h2, if_pos (by omega)]
    · rw [if_neg h2, if_neg (by omega)]
theorem vcp_sI (s : Nat → Int32) (p o j : Nat) (d : Nat → Int32) : upd (vcp s p o j d) (o + j) (s (p + j)) = vcp s p o (j + 1) d := by
  funext q
  show (if q = o + j then s (p + j) else vcp s p o j d q) = _
  unfold vcp
  by_cases h1 : q = o + j
  · subst h1; rw [if_pos rfl, if_pos (by omega)]; congr 1; omega
  · rw [if_neg h1]
    by_cases h2 : o ≤ q ∧ q < o + j
    · rw [if_pos h2, if_pos (by omega)]
    · rw [if_neg h2, if_neg (by omega)]
