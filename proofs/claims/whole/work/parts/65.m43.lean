/-! LISTS: ADDING (any world) -/
abbrev aQ (cA : ClassId) (n : Nat) (f : Nat → Option Nat) : va_E := .inl (cA, n, .inr (.inr (.inr (.inr f))))
abbrev lQ (mc : Int32) (b : Nat) (sz : Int32) : va_E := .inr (0, [.int mc, .ref b, .int sz])
theorem app_l {α : Type} {a b : List α} {k : Nat} {x : α} (h : a[k]? = some x) : (a ++ b)[k]? = some x := by
  rw [List.getElem?_append_left (List.getElem?_eq_some_iff.mp h).1]; exact h
theorem app_r {α : Type} {a : List α} {x : α} : (a ++ [x])[a.length]? = some x := by
  rw [List.getElem?_append_right (Nat.le_refl _), Nat.sub_self]; rfl
theorem set_app {α : Type} {a b : List α} {k : Nat} {x y : α} (h : a[k]? = some x) : (a ++ b).set k y = a.set k y ++ b := List.set_append_left _ _ (List.getElem?_eq_some_iff.mp h).1
theorem set_end {α : Type} {a : List α} {x y : α} : (a ++ [x]).set a.length y = a ++ [y] := by
  rw [List.set_append_right _ _ (Nat.le_refl _), Nat.sub_self]; rfl
theorem set_at {α : Type} {a : List α} {k : Nat} {x y : α} (h : a[k]? = some x) : (a.set k y)[k]? = some y := by
  rw [List.getElem?_set_self (List.getElem?_eq_some_iff.mp h).1]
theorem set_ne {α : Type} {a : List α} {j k : Nat} {x y : α} (hne : j ≠ k) (h : a[j]? = some x) : (a.set k y)[j]? = some x := by
  rw [List.getElem?_set_ne (fun z9 => hne z9.symm)]; exact h
section LROWS
variable {K : vKt} {cc : ByteArray} {own : String} {nL n1 n2 pc pc' : Nat} {ws : va_W} {lv : List (Nat × Value)} {st st0 : List Value}
theorem v_getSf (X : vOk K cc own nL) {a : Nat} {ref C : String} {T : u_T} {N ci index : Nat} (hin : ∀ w ∈ u_ws C T N, w ∈ gw) (q0 : Nat) {fs : List Value} (he : ws[q0]? = some (a, .inr (ci, fs))) (hc : vwCl[ci]? = some (C, T, N)) (k : Nat) (hk : k < N) (hlink : Cond.fieldLink own index ref (T k).2.1 (T k).2.2.1 ∈ gw) (hsf : Cond.sameField ref (T k).1 (T k).2.1 (T k).2.2.1 ∈ gw) {v : Value} (hv : fs[k]? = some v) (d : decode cc pc = .ok (.getfield index, 3)) (e : pc + 3 = pc') (kk : V K nL ws n1 n2 pc' lv (v :: st)) : V K nL ws n1 n2 pc lv (.ref a :: st) := by
  subst e
  exact fun H locs ls hP hD hS hl => va_get X.x X.b X.g hin X.o X.k hP q0 he hc k hk (X.w hlink) (fun x h9 => u_same (X.w hsf) x h9) hv d (kk H locs ls hP hD hS hl)
theorem v_putSf (X : vOk K cc own nL) {a : Nat} {ref C : String} {T : u_T} {N ci index : Nat} (hin : ∀ w ∈ u_ws C T N, w ∈ gw) (ty0 : Nat → FieldType) (hty : ∀ k, k < N → parseFieldDescriptor (T k).2.2.1 = some (ty0 k)) (hnm : ∀ a, a < N → ∀ b, b < N → a ≠ b → (T a).2.1 ≠ (T b).2.1) (q0 : Nat) {fs : List Value} (he : ws[q0]? = some (a, .inr (ci, fs))) (hc : vwCl[ci]? = some (C, T, N)) (k : Nat) (hk : k < N) (hlink : Cond.fieldLink own index ref (T k).2.1 (T k).2.2.1 ∈ gw) (hsf : Cond.sameField ref (T k).1 (T k).2.1 (T k).2.2.1 ∈ gw) (hfin : (T k).2.2.2 = false) {ty : FieldType} {v : Value} (hd : parseFieldDescriptor (T k).2.2.1 = some ty) (hn : narrow ty v = v) (hfit : fits ty v = true) (hl : k < fs.length) (d : decode cc pc = .ok (.putfield index, 3)) (e : pc + 3 = pc')
    (kk : V K nL (ws.set q0 (a, .inr (ci, fs.set k v))) n1 n2 pc' lv st) : V K nL ws n1 n2 pc lv (v :: .ref a :: st) := by
  subst e
  exact fun H locs ls hP hD hS hl9 => va_put X.x X.b X.g hin ty0 hty hnm X.o X.k hP hD hS q0 he hc k hk (X.w hlink) (fun x h9 => u_same (X.w hsf) x h9) hfin hd hn hfit hl d (fun H1 locs1 hP hD hS => kk H1 locs1 ls hP hD hS hl9)
theorem v_ldcM (X : vOk K cc own nL) {C : String} {index mi : Nat} (hl : Cond.classLink own index C ∈ gw) (hM : va_Mi C mi (kS K)) (d : decode cc pc = .ok (.ldc index, 2)) (e : pc + 2 = pc') (kk : V K nL ws n1 n2 pc' lv (.ref mi :: st)) : V K nL ws n1 n2 pc lv st := by
  subst e
  exact fun H locs ls hP hD hS hl9 => va_ldcM X.x X.b X.o (X.w hl) hM d (kk H locs ls hP hD hS hl9)
theorem v_getC (X : vOk K cc own nL) {a index q0 n : Nat} {f : Nat → Option Nat} (h : ws[q0]? = some (a, aQ (kY K 4) n f)) (hl : Cond.methodLink own index (⟨"java/lang/Object", "getClass", "()Ljava/lang/Class;"⟩ : MethodName) ∈ gw) (hf : 1 ≤ (kR K).frames) (hlo : (st.map fun v => v.category).sum + 14 ≤ (kR K).locals) (d : decode cc pc = .ok (.invokevirtual index, 3)) (e : pc + 3 = pc') (kk : V K nL ws n1 n2 pc' lv (.ref (kZ K 33) :: st)) : V K nL ws n1 n2 pc lv (.ref a :: st) := by
  subst e
  intro H locs ls hP hD hS hl9
  refine va_getC X.x X.b (X.1.2.2.1.trans hl9.1.symm) X.o (X.w hl) (va_Dc.use X.n.2.2.2.2.2.1) (X.w w_se__Ljava_lang_Object__Object_getClass_651) (X.w w_im_Object_getClass_651) (X.w w_na_Object_getClass_651) X.n.2.2.2.2.2.2 ?_ hf hlo d (kk H locs ls hP hD hS hl9)
  have hc0 : H[a]? = some (vp_cell (kY K 4) (n, .inr (.inr (.inr (.inr f))))) := hP q0 _ h
  exact ⟨_, hc0, rfl, va_nmO (X.k.2 4 _ rfl).2 (by decide +kernel)⟩
theorem v_copyM (X : vOk K cc own nL) {index a0 a n0 m1 : Nat} (q0 q1 : Nat) {f g : Nat → Option Nat} (hlink : Cond.methodLink own index arraycopyName ∈ gw) (ha0 : ws[q0]? = some (a0, aQ (kY K 4) n0 f)) (ha1 : ws[q1]? = some (a, aQ (kY K 4) m1 g)) {ix iy iz : Int32} (sp dp nq : Nat) (hx : ix = nI sp) (hy : iy = nI dp) (hz : iz = nI nq) (h4 : sp + nq ≤ n0) (h5 : dp + nq ≤ m1) (h6 : n0 < 2 ^ 31) (h7 : m1 < 2 ^ 31) (hel : ∀ i, i < nq → ∀ y, f (sp + i) = some y → ∃ (q ci : Nat) (vs : List Value) (r : vw_C), ws[q]? = some (y, .inr (ci, vs)) ∧ vwCl[ci]? = some r ∧ (r.1, "java/lang/Object") ∈ vNC) (hframes : 1 ≤ (kR K).frames) (hlocals : (st.map fun v => v.category).sum + (nativeFrameWords "java/lang/System" "arraycopy" 5 + 11) ≤ (kR K).locals) (d : decode cc pc = .ok (.invokestatic index, 3)) (e : pc + 3 = pc')
    (kk : V K nL (ws.set q1 (a, aQ (kY K 4) m1 (va_cpy f g sp dp nq))) n1 n2 pc' lv st) : V K nL ws n1 n2 pc lv (.int iz :: .int iy :: .ref a :: .int ix :: .ref a0 :: st) := by
  subst e hx hy hz
  intro H locs ls hP hD hS hl9
  refine va_copyM X.x X.b (X.1.2.2.1.trans hl9.1.symm) X.o (X.w hlink) (X.w w_na_System_arraycopy_723) (X.w w_st_System_arraycopy_723) (X.w w_in_Sys) X.k hP hD hS q0 q1 4 4 ha0 ha1 rfl rfl (nI_pos (by omega)) (nI_pos (by omega)) (nI_pos (by omega)) (by rw [nI_clamp (by omega), nI_clamp (by omega)]; exact h4) (by rw [nI_clamp (by omega), nI_clamp (by omega)]; exact h5) (fun i hi y hy => ?_) hframes hlocals d (fun H1 locs1 hP1 hD1 hS1 => ?_)
  · rw [nI_clamp (by omega)] at hi hy
    obtain ⟨q, ci, vs, r, h1, h2, h3⟩ := hel i hi y hy
    exact va_rAny X.k hP h1 h2 (fun comp c0 g1 g2 => vb_asgC (X.n.2.2.1 _ h3) comp c0 g1 g2)
  · rw [nI_clamp (by omega), nI_clamp (by omega), nI_clamp (by omega)] at hP1 hD1
    exact kk H1 locs1 ls hP1 hD1 hS1 hl9
theorem v_aastO (X : vOk K cc own nL) {a : Nat} (q0 qk ci : Nat) {r : vw_C} {n v : Nat} {vs : List Value} {f : Nat → Option Nat} (ha : ws[q0]? = some (a, aQ (kY K 4) n f)) (hca : (r.1, "java/lang/Object") ∈ vNC) (hv : ws[qk]? = some (v, .inr (ci, vs))) (hc : vwCl[ci]? = some r) {i : Int32} (j : Nat) (hj : i = nI j) (hn : j < n) (hN : n < 2 ^ 31) (d : decode cc pc = .ok (.aastore, 1)) (e : pc + 1 = pc') (kk : V K nL (ws.set q0 (a, aQ (kY K 4) n (va_up f j (some v)))) n1 n2 pc' lv st) : V K nL ws n1 n2 pc lv (.ref v :: .int i :: .ref a :: st) := by
  subst e hj
  intro H locs ls hP hD hS hl9
  refine va_astqO X.x X.b X.k hP hD hS q0 4 qk ci ha rfl (X.n.2.2.1 _ hca) hv hc (vp_in_nI hn hN) d (fun H1 locs1 hP1 hD1 hS1 => ?_)
  rw [nI_clamp (Nat.lt_trans hn hN)] at hP1 hD1
  exact kk H1 locs1 ls hP1 hD1 hS1 hl9
/-- what is new takes the place of what goes -/
theorem v_mv {q1 : Nat} {x y : Nat × va_E} (h : ws[q1]? = some x) (kk : V K nL (ws.set q1 y) n1 n2 pc lv st) : V K nL (ws ++ [y]) n1 n2 pc lv st := by
  intro H locs ls hP hD hS hl9
  have hlt : q1 < ws.length := (List.getElem?_eq_some_iff.mp h).1
  have hg : ∀ (k : Nat) (q : Nat × va_E), (ws.set q1 y)[k]? = some q → (ws ++ [y])[if k = q1 then ws.length else k]? = some q := by
    intro k q hk
    by_cases hkq : k = q1
    · subst hkq
      rw [if_pos rfl, app_r]
      rw [set_at h] at hk; exact hk
    · rw [if_neg hkq]
      rw [List.getElem?_set_ne (fun z9 => hkq z9.symm)] at hk
      exact app_l hk
  refine kk H locs ls (hP.by _ hg) (hD.by _ hg (fun i j hi hj hij => ?_)) hS hl9
  rw [List.length_set] at hi hj
  split at hij <;> split at hij <;> omega
theorem v_swap {a b c : va_W} (kk : V K nL ((a ++ c) ++ b) n1 n2 pc lv st) : V K nL ((a ++ b) ++ c) n1 n2 pc lv st := fun H locs ls hP hD hS hl9 => kk H locs ls hP.swap hD.swap hS hl9
theorem v_mmax (X : vOk K cc own nL) {index a b : Nat} (ha : a < 2 ^ 31) (hb9 : b < 2 ^ 31) (hl : Cond.methodLink own index yJ9_max_7cf53 ∈ gw) (hf : 1 ≤ (kR K).frames) (hlo : (st.map fun v => v.category).sum + 13 ≤ (kR K).locals) (h1 : n1 ≤ (kR K).cells) (h2 : n2 ≤ (kR K).slots) (d : decode cc pc = .ok (.invokestatic index, 3)) (e : pc + 3 = pc') (kk : V K nL ws n1 n2 pc' lv (.int (nI (max a b)) :: st)) : V K nL ws n1 n2 pc lv (.int (nI b) :: .int (nI a) :: st) := by
  subst e
  intro H locs ls hP hD hS hl9
  refine va_mmax X.x X.b (X.1.2.2.1.trans hl9.1.symm) X.o (X.w hl) (X.w w_st_J9_max_7cf53) (X.w w_in_J9) (X.w w_co_J9_max_7cf53) hf hlo h1 h2 d ?_
  have hm : (if nI a < nI b then nI b else nI a) = nI (max a b) := by
    by_cases h : a < b
    · rw [if_pos (nI_lt h hb9), Nat.max_eq_right (by omega)]
    · rw [if_neg (fun z9 => h (lt_of_nI z9 ha hb9)), Nat.max_eq_left (by omega)]
  rw [hm]
  exact kk H locs ls hP hD hS hl9
theorem v_mmin (X : vOk K cc own nL) {index a b : Nat} (hab : a ≤ b) (hb9 : b < 2 ^ 31) (hl : Cond.methodLink own index yJ9_min_7cf53 ∈ gw) (hf : 1 ≤ (kR K).frames) (hlo : (st.map fun v => v.category).sum + 13 ≤ (kR K).locals) (h1 : n1 ≤ (kR K).cells) (h2 : n2 ≤ (kR K).slots) (d : decode cc pc = .ok (.invokestatic index, 3)) (e : pc + 3 = pc') (kk : V K nL ws n1 n2 pc' lv (.int (nI a) :: st)) : V K nL ws n1 n2 pc lv (.int (nI b) :: .int (nI a) :: st) := by
  subst e
  intro H locs ls hP hD hS hl9
  refine va_mmin X.x X.b (X.1.2.2.1.trans hl9.1.symm) X.o (X.w hl) (X.w w_st_J9_min_7cf53) (X.w w_in_J9) (X.w w_co_J9_min_7cf53) hf hlo h1 h2 d ?_
  rw [if_neg (fun z9 => absurd (lt_of_nI z9 hb9 (by omega)) (by omega))]
  exact kk H locs ls hP hD hS hl9
end LROWS
theorem c_newLength {l : Launch} {D : va_G} {Y : Nat → ClassId} {zz : Nat → Nat} {ws : va_W} {a b c : Nat} (ha : a < 2 ^ 28) (hb : b < 2 ^ 28) (hc : c < 2 ^ 28) (h0 : 0 < a) : Ct l D Y zz yJ8_newLength_cabcc cJ8_newLength_cabcc 4 (some FieldType.int) 1 40 [.int (nI a), .int (nI b), .int (nI c)] ws 0 0 (fun r w => r = some (.int (nI (a + max b c))) ∧ w = ws) := by
  refine v_entry (by decide +kernel) (Nat.le_of_ble_eq_true rfl) ?_
  intro K X R hR hnm hl hD hY hz
  subst hl hD hY hz
  have hmx : max b c < 2 ^ 28 := Nat.max_lt.mpr ⟨hb, hc⟩
  refine v_sub (lv' := [(0, .int (nI a)), (1, .int (nI b)), (2, .int (nI c))]) [0, 1, 2] rfl ?_
  refine v_iload_n (pc' := 1) (i := 0) (j := 0) X dJ8_newLength_cabcc_0 rfl rfl rfl ?_
  refine v_iload_n (pc' := 2) (i := 1) (j := 1) X dJ8_newLength_cabcc_1 rfl rfl rfl ?_
  refine v_iload_n (pc' := 3) (i := 2) (j := 2) X dJ8_newLength_cabcc_2 rfl rfl rfl ?_
  refine v_mmax (pc' := 6) X (by omega) (by omega) w_ml_J8_194 (by rw [hR]; exact Nat.le_of_ble_eq_true rfl) (by rw [hR]; exact Nat.le_of_ble_eq_true rfl) (Nat.zero_le _) (Nat.zero_le _) dJ8_newLength_cabcc_3 rfl ?_
  refine v_iaddV (pc' := 7) (v := nI (a + max b c)) X (nI_add a (max b c)) dJ8_newLength_cabcc_6 rfl ?_
  refine v_istore_n (pc' := 8) (i := 3) (lv' := [(3, .int (nI (a + max b c))), (0, .int (nI a)), (1, .int (nI b)), (2, .int (nI c))]) X dJ8_newLength_cabcc_7 rfl (by decide) rfl rfl ?_
  refine v_iconst (pc' := 9) (v := nI 0) X dJ8_newLength_cabcc_8 (by decide) rfl ?_
  refine v_iload_n (pc' := 10) (i := 3) (j := 0) X dJ8_newLength_cabcc_9 rfl rfl rfl ?_
  refine v_icmp_ge (pc' := 13) (tgt := 21) X dJ8_newLength_cabcc_10 (by decide) rfl (fun hc => absurd (le_of_nI hc (by omega) (by omega)) (by omega)) (fun _ => ?_)
  refine v_iload_n (pc' := 14) (i := 3) (j := 0) X dJ8_newLength_cabcc_13 rfl rfl rfl ?_
  refine v_ldc (pc' := 16) X dJ8_newLength_cabcc_14 w_ki_J8_200 rfl ?_
  refine v_icmp_gt (pc' := 19) (tgt := 21) X dJ8_newLength_cabcc_16 (by decide) rfl (fun hc => absurd (lt_of_nI (a := 2147483639) hc (by decide) (by omega)) (by omega)) (fun _ => ?_)
  refine v_iload_n (pc' := 20) (i := 3) (j := 0) X dJ8_newLength_cabcc_19 rfl rfl rfl ?_
  refine v_ireturn X R (Nat.zero_le _) (Nat.zero_le _) dJ8_newLength_cabcc_20 ?_
  exact ⟨rfl, rfl⟩
/-- the elements that a row holds are objects of the pool -/
def eOK (ws : va_W) (f : Nat → Option Nat) (k : Nat) : Prop := ∀ i, i < k → ∀ y, f i = some y → ∃ (q ci : Nat) (vs : List Value) (r : vw_C), ws[q]? = some (y, .inr (ci, vs)) ∧ vwCl[ci]? = some r ∧ (r.1, "java/lang/Object") ∈ vNC
theorem eOK.app {ws tl : va_W} {f : Nat → Option Nat} {k : Nat} (h : eOK ws f k) : eOK (ws ++ tl) f k := fun i hi y hy => by
  obtain ⟨q, ci, vs, r, h1, h2, h3⟩ := h i hi y hy
  exact ⟨q, ci, vs, r, app_l h1, h2, h3⟩
/-- .. also when another object's cell or a row changes -/
theorem eOK.set {ws : va_W} {f : Nat → Option Nat} {k q0 a : Nat} {e0 e : va_E} (h : eOK ws f k) (h0 : ws[q0]? = some (a, e0)) (he : ∀ ci vs, e0 = .inr (ci, vs) → ∃ vs', e = .inr (ci, vs')) : eOK (ws.set q0 (a, e)) f k := fun i hi y hy => by
  obtain ⟨q, ci, vs, r, h1, h2, h3⟩ := h i hi y hy
  by_cases hq : q = q0
  · subst hq
    have h9 := h0.symm.trans h1
    cases h9
    obtain ⟨vs', rfl⟩ := he ci vs rfl
    exact ⟨q, ci, vs', r, set_at h0, h2, h3⟩
  · exact ⟨q, ci, vs, r, set_ne hq h1, h2, h3⟩
theorem c_copyOf3 {l : Launch} {D : va_G} {Y : Nat → ClassId} {zz : Nat → Nat} {ws : va_W} {a q0 cap nc : Nat} {F : Nat → Option Nat} (h0 : ws[q0]? = some (a, aQ (Y 4) cap F)) (hle : cap ≤ nc) (hnc : nc < 2 ^ 26) (hel : eOK ws F cap) : Ct l D Y zz yJ7_copyOf_6403c cJ7_copyOf_6403c 4 (some (FieldType.array (FieldType.object "java/lang/Object"))) 1 80 [.ref a, .int (nI nc), .ref (zz 33)] ws 1 nc (fun r w => ∃ b, r = some (.ref b) ∧ w = ws ++ [(b, aQ (Y 4) nc (va_cpy F (fun _ => none) 0 0 cap))]) := by
  refine v_entry (by decide +kernel) (Nat.le_of_ble_eq_true rfl) ?_
  intro K X R hR hnm hl hD hY hz
  subst hl hD hY hz
  refine v_sub (lv' := [(0, .ref a), (1, .int (nI nc)), (2, .ref (kZ K 33))]) [0, 1, 2] rfl ?_
  refine v_aload_n (pc' := 1) (i := 2) (j := 2) X dJ7_copyOf_6403c_0 rfl rfl rfl ?_
  refine v_ldcM (pc' := 3) X w_cl_J7_110 X.n.2.2.2.2.2.2 dJ7_copyOf_6403c_1 rfl ?_
  refine v_acmp_ne (rx := some (kZ K 33)) (ry := some (kZ K 33)) (pc' := 6) (tgt := 13) X dJ7_copyOf_6403c_3 (by decide) rfl (fun h9 => absurd rfl h9) (fun _ => ?_)
  refine v_iload_n (pc' := 7) (i := 1) (j := 1) X dJ7_copyOf_6403c_6 rfl rfl rfl ?_
  refine v_newq (pc' := 10) X 4 rfl w_cl_J7_2 X.n.2.2.2.2.1 (N' := nc) (nI_pos (by omega)) (nI_clamp (by omega)) (by omega) (by rw [hR]; exact Nat.le_of_ble_eq_true rfl) (by rw [hR]; show 0 + nc ≤ nc; omega) dJ7_copyOf_6403c_7 rfl (fun b => ?_)
  refine v_goto (pc' := 24) X dJ7_copyOf_6403c_10 (by decide) ?_
  refine v_astore_n (pc' := 25) (i := 3) (lv' := [(3, .ref b), (0, .ref a), (1, .int (nI nc)), (2, .ref (kZ K 33))]) X dJ7_copyOf_6403c_24 rfl (by decide) rfl rfl ?_
  refine v_aload_n (pc' := 26) (i := 0) (j := 1) X dJ7_copyOf_6403c_25 rfl rfl rfl ?_
  refine v_iconst (pc' := 27) (v := nI 0) X dJ7_copyOf_6403c_26 (by decide) rfl ?_
  refine v_aload_n (pc' := 28) (i := 3) (j := 0) X dJ7_copyOf_6403c_27 rfl rfl rfl ?_
  refine v_iconst (pc' := 29) (v := nI 0) X dJ7_copyOf_6403c_28 (by decide) rfl ?_
  refine v_aload_n (pc' := 30) (i := 0) (j := 1) X dJ7_copyOf_6403c_29 rfl rfl rfl ?_
  refine v_alen (pc' := 31) (v := nI cap) X q0 4 (app_l h0) rfl rfl dJ7_copyOf_6403c_30 rfl ?_
  refine v_iload_n (pc' := 32) (i := 1) (j := 2) X dJ7_copyOf_6403c_31 rfl rfl rfl ?_
  refine v_mmin (pc' := 35) X hle (by omega) w_ml_J7_304 (by rw [hR]; exact Nat.le_of_ble_eq_true rfl) (by rw [hR]; exact Nat.le_of_ble_eq_true rfl) (by rw [hR]; exact Nat.le_of_ble_eq_true rfl) (by rw [hR]; show 0 + nc ≤ nc; omega) dJ7_copyOf_6403c_32 rfl ?_
  refine v_copyM (pc' := 38) X q0 ws.length w_ml_J7_150 (app_l h0) app_r 0 0 cap rfl rfl rfl (by omega) (by omega) (by omega) (by omega) (fun i hi y hy => hel.app i hi y (by rwa [Nat.zero_add] at hy)) (by rw [hR]; exact Nat.le_of_ble_eq_true rfl) (by rw [hR]; exact Nat.le_of_ble_eq_true rfl) dJ7_copyOf_6403c_35 rfl ?_
  refine v_eqw set_end ?_
  refine v_aload_n (pc' := 39) (i := 3) (j := 0) X dJ7_copyOf_6403c_38 rfl rfl rfl ?_
  refine v_areturn X R (Or.inr ⟨_, rfl⟩) (Or.inr ⟨_, rfl⟩) (by omega) (by omega) dJ7_copyOf_6403c_39 ?_
  exact ⟨b, rfl, rfl⟩
theorem c_copyOf2 {l : Launch} {D : va_G} {Y : Nat → ClassId} {zz : Nat → Nat} {ws : va_W} {a q0 cap nc : Nat} {F : Nat → Option Nat} (h0 : ws[q0]? = some (a, aQ (Y 4) cap F)) (hle : cap ≤ nc) (hnc : nc < 2 ^ 26) (hel : eOK ws F cap) : Ct l D Y zz yJ7_copyOf_1904c cJ7_copyOf_1904c 2 (some (FieldType.array (FieldType.object "java/lang/Object"))) 2 103 [.ref a, .int (nI nc)] ws 1 nc (fun r w => ∃ b, r = some (.ref b) ∧ w = ws ++ [(b, aQ (Y 4) nc (va_cpy F (fun _ => none) 0 0 cap))]) := by
  refine v_entry (by decide +kernel) (Nat.le_of_ble_eq_true rfl) ?_
  intro K X R hR hnm hl hD hY hz
  subst hl hD hY hz
  refine v_sub (lv' := [(0, .ref a), (1, .int (nI nc))]) [0, 1] rfl ?_
  refine v_aload_n (pc' := 1) (i := 0) (j := 0) X dJ7_copyOf_1904c_0 rfl rfl rfl ?_
  refine v_iload_n (pc' := 2) (i := 1) (j := 1) X dJ7_copyOf_1904c_1 rfl rfl rfl ?_
  refine v_aload_n (pc' := 3) (i := 0) (j := 0) X dJ7_copyOf_1904c_2 rfl rfl rfl ?_
  refine v_getC (pc' := 6) X h0 w_ml_J7_86 (by rw [hR]; exact Nat.le_of_ble_eq_true rfl) (by rw [hR]; exact Nat.le_of_ble_eq_true rfl) dJ7_copyOf_1904c_3 rfl ?_
  refine v_callS (pc' := 9) X (st := []) (c_copyOf3 h0 hle hnc hel) k_J7_copyOf_6403c w_ml_J7_300 w_st_J7_copyOf_6403c (by rw [hR]; exact ⟨Nat.le_of_ble_eq_true rfl, Nat.le_of_ble_eq_true rfl⟩) rfl rfl (Nat.le_of_ble_eq_true rfl) dJ7_copyOf_1904c_6 rfl (by rw [hR]; exact ⟨Nat.le_of_ble_eq_true rfl, by show 0 + nc ≤ nc; omega⟩) ?_
  rintro _ _ ⟨b, rfl, rfl⟩
  refine v_areturn X R (Or.inr ⟨_, rfl⟩) (Or.inr ⟨_, rfl⟩) (by omega) (by omega) dJ7_copyOf_1904c_9 ?_
  exact ⟨b, rfl, rfl⟩
