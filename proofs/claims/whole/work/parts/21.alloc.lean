/-! WHAT IS NEW. A world with a tail: what a constructor makes stands behind ws0. -/
theorem vY_prim {K : vKt} {cc : ByteArray} {own : String} {nL : Nat} (X : vOk K cc own nL) {t0 : Nat} {cT cA : ClassId} {ty : FieldType} (ht : (vTy (kY K))[t0]? = some (cT, ty)) (hp : ∀ C, ty ≠ .object C) (hA : va_RA (kS K) cA ty) : cA = cT := by
  have h1 := (X.k.2 t0 (cT, ty) ht).2
  cases ty <;> first | exact absurd rfl (hp _) | exact Option.some.inj (hA.symm.trans h1)
theorem vY_obj {K : vKt} {cc : ByteArray} {own : String} {nL : Nat} (X : vOk K cc own nL) {t0 : Nat} {cT cA : ClassId} {C : String} (ht : (vTy (kY K))[t0]? = some (cT, .object C)) (hA : va_RA (kS K) cA (.object C)) : cA = cT := by
  obtain ⟨_, _, _, _, _, h1⟩ := (X.k.2 t0 (cT, .object C) ht).2
  obtain ⟨_, _, _, _, _, h2⟩ := hA
  exact Option.some.inj (h2.symm.trans h1)
section VNEW
variable {K : vKt} {cc : ByteArray} {own : String} {nL n1 n2 pc pc' : Nat} {ws ws0 tl tl' : va_W} {lv lv' : List (Nat × Value)} {st : List Value}
theorem v_newa (X : vOk K cc own nL) {atype : ArrayType} {ty : FieldType} (t0 : Nat) {cT : ClassId} (hty : newarray.typeOf atype = ty) (ht : (vTy (kY K))[t0]? = some (cT, ty)) (hp : ∀ C, ty ≠ .object C) (hac : Cond.arrayClass ty ∈ gw) {n : Int32} {N' : Nat} {a0 : vp_A} (ha : ∀ cA : ClassId, vp_cell cA a0 = arrV cA N' (fun _ => defaultValue ty)) (hn : ¬ n < 0) (hN : n.toNatClampNeg = N') (hbytes : N' * componentBytes ty ≤ 536870912) (hcells : n1 + 1 ≤ (kR K).cells) (hslots : n2 + N' ≤ (kR K).slots) (d : decode cc pc = .ok (.newarray atype, 2)) (e : pc + 2 = pc')
    (kk : ∀ q : Nat, V K nL (ws ++ [(q, .inl (cT, a0))]) (n1 + 1) (n2 + N') pc' lv (.ref q :: st)) : V K nL ws n1 n2 pc lv (.int n :: st) := by
  subst e
  intro H locs ls hP hD hS hl
  refine va_newa X.x X.b (by rw [hty]; exact X.w hac) hty X.k hP hD hS X.a ha hn hN hbytes hcells hslots d (fun q cA H1 hK1 hP hD hS => ?_)
  have hc : cA = cT := vY_prim X ht hp (hK1.2 (vTy (kY K)).length (cA, ty) (by rw [List.getElem?_append_right (Nat.le_refl _), Nat.sub_self]; rfl)).2
  subst hc
  exact kk q H1 locs ls hP hD hS hl
theorem v_newq (X : vOk K cc own nL) {C : String} {index : Nat} (t0 : Nat) {cT : ClassId} (ht : (vTy (kY K))[t0]? = some (cT, .object C)) (hcl : Cond.classLink own index C ∈ gw) (hover : va_AO C (kS K)) {n : Int32} {N' : Nat} (hn : ¬ n < 0) (hN : n.toNatClampNeg = N') (hbytes : N' * 4 ≤ 536870912) (hcells : n1 + 1 ≤ (kR K).cells) (hslots : n2 + N' ≤ (kR K).slots) (d : decode cc pc = .ok (.anewarray index, 3)) (e : pc + 3 = pc')
    (kk : ∀ q : Nat, V K nL (ws ++ [(q, .inl (cT, N', .inr (.inr (.inr (.inr (fun _ => none))))))]) (n1 + 1) (n2 + N') pc' lv (.ref q :: st)) : V K nL ws n1 n2 pc lv (.int n :: st) := by
  subst e
  intro H locs ls hP hD hS hl
  refine va_newq X.x X.b X.o (X.w hcl) hover X.k hP hD hS X.a hn hN hbytes hcells hslots d (fun q cA H1 hK1 hP hD hS => ?_)
  have hc : cA = cT := vY_obj X ht (hK1.2 (vTy (kY K)).length (cA, .object C) (by rw [List.getElem?_append_right (Nat.le_refl _), Nat.sub_self]; rfl)).2
  subst hc
  exact kk q H1 locs ls hP hD hS hl
theorem tl_at {j : Nat} {x : Nat × va_E} (h : tl[j]? = some x) : (ws0 ++ tl)[ws0.length + j]? = some x := by
  rw [List.getElem?_append_right (Nat.le_add_right _ _), Nat.add_sub_cancel_left]; exact h
theorem tl_set {j : Nat} {x : Nat × va_E} : (ws0 ++ tl).set (ws0.length + j) x = ws0 ++ tl.set j x := by
  rw [List.set_append_right _ _ (Nat.le_add_right _ _), Nat.add_sub_cancel_left]
theorem t_get (X : vOk K cc own nL) {a : Nat} {ref C : String} {T : u_T} {N ci index : Nat} (hin : ∀ w ∈ u_ws C T N, w ∈ gw) (j : Nat) {fs : List Value} (he : tl[j]? = some (a, .inr (ci, fs))) (hc : vwCl[ci]? = some (C, T, N)) (k : Nat) (hk : k < N) (hlink : Cond.fieldLink own index ref (T k).2.1 (T k).2.2.1 ∈ gw) (hr : (T k).1 = ref) {v : Value} (hv : fs[k]? = some v) (d : decode cc pc = .ok (.getfield index, 3)) (e : pc + 3 = pc') (kk : V K nL (ws0 ++ tl) n1 n2 pc' lv (v :: st)) : V K nL (ws0 ++ tl) n1 n2 pc lv (.ref a :: st) :=
  v_get X hin _ (tl_at he) hc k hk hlink hr hv d e kk
theorem t_put (X : vOk K cc own nL) {a : Nat} {ref C : String} {T : u_T} {N ci index : Nat} (hin : ∀ w ∈ u_ws C T N, w ∈ gw) (ty0 : Nat → FieldType) (hty : ∀ k, k < N → parseFieldDescriptor (T k).2.2.1 = some (ty0 k)) (hnm : ∀ a, a < N → ∀ b, b < N → a ≠ b → (T a).2.1 ≠ (T b).2.1) (j : Nat) {fs : List Value} (he : tl[j]? = some (a, .inr (ci, fs))) (hc : vwCl[ci]? = some (C, T, N)) (k : Nat) (hk : k < N) (hlink : Cond.fieldLink own index ref (T k).2.1 (T k).2.2.1 ∈ gw) (hr : (T k).1 = ref) (hfin : (T k).2.2.2 = false) {ty : FieldType} {v : Value} (hd : parseFieldDescriptor (T k).2.2.1 = some ty) (hn : narrow ty v = v) (hfit : fits ty v = true) (hl : k < fs.length) (d : decode cc pc = .ok (.putfield index, 3)) (e : pc + 3 = pc') (hset : tl.set j (a, .inr (ci, fs.set k v)) = tl')
    (kk : V K nL (ws0 ++ tl') n1 n2 pc' lv st) : V K nL (ws0 ++ tl) n1 n2 pc lv (v :: .ref a :: st) := by
  refine v_put X hin ty0 hty hnm _ (tl_at he) hc k hk hlink hr hfin hd hn hfit hl d e ?_
  rw [tl_set, hset]; exact kk
theorem t_putF (X : vOk K cc own nL) {a : Nat} {ref C : String} {T : u_T} {N ci index : Nat} (hin : ∀ w ∈ u_ws C T N, w ∈ gw) (ty0 : Nat → FieldType) (hty : ∀ k, k < N → parseFieldDescriptor (T k).2.2.1 = some (ty0 k)) (hnm : ∀ a, a < N → ∀ b, b < N → a ≠ b → (T a).2.1 ≠ (T b).2.1) (j : Nat) {fs : List Value} (he : tl[j]? = some (a, .inr (ci, fs))) (hc : vwCl[ci]? = some (C, T, N)) (k : Nat) (hk : k < N) (hlink : Cond.fieldLink own index ref (T k).2.1 (T k).2.2.1 ∈ gw) (hr : (T k).1 = ref) (hfin : (T k).2.2.2 = true) (hin2 : (kMe K).name = "<init>") (hdecl : (T k).1 = own) {ty : FieldType} {v : Value} (hd : parseFieldDescriptor (T k).2.2.1 = some ty) (hn : narrow ty v = v) (hfit : fits ty v = true) (hl : k < fs.length) (d : decode cc pc = .ok (.putfield index, 3)) (e : pc + 3 = pc') (hset : tl.set j (a, .inr (ci, fs.set k v)) = tl')
    (kk : V K nL (ws0 ++ tl') n1 n2 pc' lv st) : V K nL (ws0 ++ tl) n1 n2 pc lv (v :: .ref a :: st) := by
  refine v_putF X hin ty0 hty hnm _ (tl_at he) hc k hk hlink hr hfin hin2 hdecl hd hn hfit hl d e ?_
  rw [tl_set, hset]; exact kk
theorem t_newa (X : vOk K cc own nL) {atype : ArrayType} {ty : FieldType} (t0 : Nat) {cT : ClassId} (hty : newarray.typeOf atype = ty) (ht : (vTy (kY K))[t0]? = some (cT, ty)) (hp : ∀ C, ty ≠ .object C) (hac : Cond.arrayClass ty ∈ gw) {n : Int32} {N' : Nat} {a0 : vp_A} (ha : ∀ cA : ClassId, vp_cell cA a0 = arrV cA N' (fun _ => defaultValue ty)) (hn : ¬ n < 0) (hN : n.toNatClampNeg = N') (hbytes : N' * componentBytes ty ≤ 536870912) (hcells : n1 + 1 ≤ (kR K).cells) (hslots : n2 + N' ≤ (kR K).slots) (d : decode cc pc = .ok (.newarray atype, 2)) (e : pc + 2 = pc')
    (kk : ∀ q : Nat, V K nL (ws0 ++ (tl ++ [(q, .inl (cT, a0))])) (n1 + 1) (n2 + N') pc' lv (.ref q :: st)) : V K nL (ws0 ++ tl) n1 n2 pc lv (.int n :: st) :=
  v_newa X t0 hty ht hp hac ha hn hN hbytes hcells hslots d e (fun q => by rw [List.append_assoc]; exact kk q)
theorem t_newq (X : vOk K cc own nL) {C : String} {index : Nat} (t0 : Nat) {cT : ClassId} (ht : (vTy (kY K))[t0]? = some (cT, .object C)) (hcl : Cond.classLink own index C ∈ gw) (hover : va_AO C (kS K)) {n : Int32} {N' : Nat} (hn : ¬ n < 0) (hN : n.toNatClampNeg = N') (hbytes : N' * 4 ≤ 536870912) (hcells : n1 + 1 ≤ (kR K).cells) (hslots : n2 + N' ≤ (kR K).slots) (d : decode cc pc = .ok (.anewarray index, 3)) (e : pc + 3 = pc')
    (kk : ∀ q : Nat, V K nL (ws0 ++ (tl ++ [(q, .inl (cT, N', .inr (.inr (.inr (.inr (fun _ => none))))))])) (n1 + 1) (n2 + N') pc' lv (.ref q :: st)) : V K nL (ws0 ++ tl) n1 n2 pc lv (.int n :: st) :=
  v_newq X t0 ht hcl hover hn hN hbytes hcells hslots d e (fun q => by rw [List.append_assoc]; exact kk q)
theorem t_new (X : vOk K cc own nL) {C : String} {T : u_T} {N ci index : Nat} (hin : ∀ w ∈ u_ws C T N, w ∈ gw) (ty : Nat → FieldType) (hty : ∀ k, k < N → parseFieldDescriptor (T k).2.2.1 = some (ty k)) (hcl : Cond.classLink own index C ∈ gw) (hinst : Cond.instantiable C N ∈ gw) (hini : Cond.initialized C ∈ gw) (hc : vwCl[ci]? = some (C, T, N)) {fs : List Value} (hfs : ∀ j, j < N → defaultValue (ty j) = vp_V fs j) (hcells : n1 + 1 ≤ (kR K).cells) (hslots : n2 + N ≤ (kR K).slots) (d : decode cc pc = .ok (.new index, 3)) (e : pc + 3 = pc')
    (kk : ∀ q : Nat, V K nL (ws0 ++ (tl ++ [(q, .inr (ci, fs))])) (n1 + 1) (n2 + N) pc' lv (.ref q :: st)) : V K nL (ws0 ++ tl) n1 n2 pc lv st :=
  v_new X hin ty hty hcl hinst hini hc hfs hcells hslots d e (fun q => by rw [List.append_assoc]; exact kk q)
theorem v_objInit (X : vOk K cc own nL) {a idx : Nat} (hl : Cond.methodLink own idx objectInit ∈ gw) (d : decode cc pc = .ok (.invokespecial idx, 3)) (e : pc + 3 = pc') (hf : 1 ≤ (kR K).frames) (hlo : (st.map fun v => v.category).sum + 12 ≤ (kR K).locals) (kk : V K nL ws n1 n2 pc' lv st) : V K nL ws n1 n2 pc lv (.ref a :: st) := by
  subst e
  intro H locs ls hP hD hS hl9
  refine W.objInit X.x X.b X.o (X.w hl) (X.w w_im_Object__init_) (X.w w_co_Object__init_) rfl (by rw [X.1.2.2.1]; exact hl9.1) rfl d hf ?_ ?_
  · have : (F0 (kM K) pc ls (.ref a :: st)).monitorRoom = 0 := rfl
    rw [this]; omega
  · exact kk H locs ls hP hD hS hl9
end VNEW
