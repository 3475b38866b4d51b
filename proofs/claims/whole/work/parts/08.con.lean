/-! CONTRACTS. Ct: from every state whose heap holds ws (at the arguments As) the method y returns some r, the heap then holds some w with post r w. -/
def vB (D : va_G) (Y : Nat → ClassId) (A : Nat → Prop) (w : va_W) (t : State) : Prop := va_P D vwCl w t.heap ∧ va_K D vwCl (vTy Y) t ∧ va_D A w
def vPre (D : va_G) (Y : Nat → ClassId) (z : Nat → Nat) (sz : Nat) (As : List Value) (ws : va_W) : Array Value → State → Prop := va_Pc As (fun U => U.heap.size = sz ∧ va_P D vwCl ws U.heap ∧ va_K D vwCl (vTy Y) U ∧ va_D (fun _ => True) ws ∧ vN z U ∧ vZ z (va_A ws sz) U U.heap)
def vQ (D : va_G) (Y : Nat → ClassId) (A : Nat → Prop) (post : Option Value → va_W → Prop) : Array Value → State → Outcome → State → Prop := fun _ st oc t => (∃ (r : Option Value) (w : va_W), oc = .returned r ∧ post r w ∧ vB D Y A w t) ∧ va_F A st t
abbrev vRm (fr lo mc ms : Nat) : Room := { frames := fr, cells := mc, slots := ms, locals := lo }
def Ct (l : Launch) (D : va_G) (Y : Nat → ClassId) (z : Nat → Nat) (y : MethodName) (cc : ByteArray) (nL : Nat) (ret : Option FieldType) (fr lo : Nat) (As : List Value) (ws : va_W) (mc ms : Nat) (post : Option Value → va_W → Prop) : Prop :=
  ∀ sz : Nat, Met l y (wsM y cc nL ret) (vRm fr lo mc ms) (vPre D Y z sz As ws) (vQ D Y (va_A ws sz) post) mc ms (va_A ws sz)
theorem vPre.blind {D : va_G} {Y : Nat → ClassId} {z : Nat → Nat} {sz : Nat} {As : List Value} {ws : va_W} : FrameBlind (vPre D Y z sz As ws) := fun a U g mk q => ⟨q.1, q.2.1, q.2.2.1, va_K.moved (u := U) (U := U.calling g mk a) (Vm.Alike.refl U.vm) q.2.2.2.1, q.2.2.2.2.1, vN.warm (s := U) (U := U.calling g mk a) (State.WarmedH.refl U) q.2.2.2.2.2.1, vZ.moved (u := U) (U := U.calling g mk a) (Vm.Alike.refl U.vm) q.2.2.2.2.2.2⟩
/-- what the end of a body owes -/
def vRt (K : vKt) (ret : Option FieldType) (mc ms : Nat) (post : Option Value → va_W → Prop) : Prop :=
  (kMe K).sig.returnType = ret ∧ kQ K = MQ (kB K) (vQ (kD K) (kY K) (kA K) post) (kAr K) (kS K) mc ms (kA K)
theorem v_entry {l : Launch} {D : va_G} {Y : Nat → ClassId} {z : Nat → Nat} {y : MethodName} {cc : ByteArray} {nL : Nat} {ret : Option FieldType} {fr lo : Nat} {As : List Value} {ws : va_W} {mc ms : Nat} {post : Option Value → va_W → Prop} (hy : plainName y.cls = true) (hn : (lg_sl As).length ≤ nL)
    (body : ∀ K : vKt, vOk K cc y.cls nL → vRt K ret mc ms post → kR K = vRm fr lo mc ms → (kMe K).name = y.name → l = kL K → D = kD K → Y = kY K → z = kZ K → V K nL ws 0 0 0 (lv_args 0 As) []) : Ct l D Y z y cc nL ret fr lo As ws mc ms post := by
  intro sz
  refine Met.ofW (cc := cc) (maxL := nL) (ret := ret) hy rfl ?_
  intro p e s m args below meth c s₁ B hml hv
  obtain ⟨rfl, hsz, hP, hK, hD0, hN, hZ⟩ := hv
  subst hsz
  have hts := atoms_spec (ws := wsM y cc nL ret) B.pre
  have hl := lv_entry As (n := nL) hn
  rw [lg_entry_eq]
  exact body (p, l, e, vRm fr lo mc ms, s, m, As.toArray, below, meth, c, D, Y, va_A ws s.heap.size, z, MQ below (vQ D Y (va_A ws s.heap.size) post) As.toArray s mc ms (va_A ws s.heap.size))
    ⟨⟨B.exec, B.bytes, hml, findClass_of_methodNamed B.named⟩, fun w hw => hts w (List.mem_cons_of_mem _ hw), hK, hN, hZ, fun q h => Or.inr h, B.notSynchronized⟩
    ⟨B.returns, rfl⟩ rfl (name_of_methodNamed B.named B.method).1 rfl rfl rfl rfl s.heap [] _ hP (hD0.self (sz := s.heap.size)) va_S.rf hl
section VCON
variable {K : vKt} {cc : ByteArray} {own : String} {nL n1 n2 pc pc' : Nat} {ws : va_W} {lv lv' : List (Nat × Value)} {st st0 : List Value}
theorem v_end {mc ms : Nat} {post : Option Value → va_W → Prop} {r : Option Value} (X : vOk K cc own nL) {H : Heap} {locs : List Loc} (hP : va_P (kD K) vwCl ws H) (hD : va_D (kA K) ws) (hS : va_S (kA K) (kS K).heap H locs) (hp : post r ws) : ∀ t : State, t.heap = H → (kS K).WarmedH t.vm → vQ (kD K) (kY K) (kA K) post (kAr K) (kS K) (.returned r) t :=
  fun t ht hW => ⟨⟨r, ws, rfl, hp, by rw [ht]; exact hP, va_K.moved hW.alike X.k, hD⟩, hS.F ht⟩
theorem v_return (X : vOk K cc own nL) {mc ms : Nat} {post : Option Value → va_W → Prop} (R : vRt K none mc ms post) (h1 : n1 ≤ mc) (h2 : n2 ≤ ms) (d : decode cc pc = .ok (.return_, 1)) (hp : post none ws) : V K nL ws n1 n2 pc lv [] := by
  intro H locs ls hP hD hS hl
  refine W.widen h1 h2 ?_
  rw [R.2]
  exact W.vret X.x X.b R.1 (v_end (mc := mc) (ms := ms) X hP hD hS hp) hS.2.2 d X.l
theorem v_ireturn (X : vOk K cc own nL) {mc ms : Nat} {post : Option Value → va_W → Prop} {v : Int32} (R : vRt K (some .int) mc ms post) (h1 : n1 ≤ mc) (h2 : n2 ≤ ms) (d : decode cc pc = .ok (.ireturn, 1)) (hp : post (some (.int v)) ws) : V K nL ws n1 n2 pc lv [.int v] := by
  intro H locs ls hP hD hS hl
  refine W.widen h1 h2 ?_
  rw [R.2]
  exact W.iret X.x X.b R.1 (v_end (mc := mc) (ms := ms) X hP hD hS hp) hS.2.2 d X.l
theorem v_zreturn (X : vOk K cc own nL) {mc ms : Nat} {post : Option Value → va_W → Prop} {v : Int32} {ty : FieldType} (R : vRt K (some ty) mc ms post) (hn : narrow ty (.int v) = .int v) (h1 : n1 ≤ mc) (h2 : n2 ≤ ms) (d : decode cc pc = .ok (.ireturn, 1)) (hp : post (some (.int v)) ws) : V K nL ws n1 n2 pc lv [.int v] := by
  intro H locs ls hP hD hS hl
  refine W.widen h1 h2 ?_
  rw [R.2]
  exact W.zret X.x X.b R.1 hn (v_end (mc := mc) (ms := ms) X hP hD hS hp) hS.2.2 d X.l
theorem v_lreturn (X : vOk K cc own nL) {mc ms : Nat} {post : Option Value → va_W → Prop} {v : Int64} (R : vRt K (some .long) mc ms post) (h1 : n1 ≤ mc) (h2 : n2 ≤ ms) (d : decode cc pc = .ok (.lreturn, 1)) (hp : post (some (.long v)) ws) : V K nL ws n1 n2 pc lv [.long v] := by
  intro H locs ls hP hD hS hl
  refine W.widen h1 h2 ?_
  rw [R.2]
  exact W.lret X.x X.b R.1 (v_end (mc := mc) (ms := ms) X hP hD hS hp) hS.2.2 d X.l
theorem v_areturn (X : vOk K cc own nL) {mc ms : Nat} {post : Option Value → va_W → Prop} {v : Value} {rt : FieldType} (R : vRt K (some rt) mc ms post) (hrt : (∃ n, rt = .object n) ∨ ∃ t, rt = .array t) (hv : v = .null ∨ ∃ a, v = .ref a) (h1 : n1 ≤ mc) (h2 : n2 ≤ ms) (d : decode cc pc = .ok (.areturn, 1)) (hp : post (some v) ws) : V K nL ws n1 n2 pc lv [v] := by
  intro H locs ls hP hD hS hl
  refine W.widen h1 h2 ?_
  rw [R.2]
  exact W.aret X.x X.b R.1 hrt hv (v_end (mc := mc) (ms := ms) X hP hD hS hp) hS.2.2 d X.l
theorem v_free (X : vOk K cc own nL) {H : Heap} {locs : List Loc} (hD : va_D (kA K) ws) (hS : va_S (kA K) (kS K).heap H locs) : ∀ q, va_A ws H.size q → kA K q := by
  intro q h
  rcases h with ⟨k, e, h⟩ | h
  · exact hD.2 k (q, e) h
  · exact X.a q (Nat.le_trans hS.1 h)
/-- behind a call -/
theorem v_run (X : vOk K cc own nL) {mc ms : Nat} {post : Option Value → va_W → Prop} {a : Array Value} {H : Heap} {locs : List Loc} {ls : Array Slot} (hD : va_D (kA K) ws) (hS : va_S (kA K) (kS K).heap H locs) (hl : lv_has ls nL lv)
    (hr : va_Run (kP K) (kL K) (kE K) (kR K) (kS K) (kM K) (kAr K) (kB K) (kMe K) (kC K) H locs n1 n2 mc ms (F0 (kM K) pc ls st0) st (vQ (kD K) (kY K) (va_A ws H.size) post a) (va_A ws H.size)) (e : pc + 3 = pc')
    (kk : ∀ (r : Option Value) (w : va_W), post r w → V K nL w (n1 + mc) (n2 + ms) pc' lv (r.toList ++ st)) : W (kP K) (kL K) (kE K) (kR K) (kS K) (kM K) (kAr K) (kB K) (kMe K) (kC K) H locs n1 n2 (kQ K) (F0 (kM K) pc ls st0) := by
  subst e
  intro T hT XX
  obtain ⟨v, st₀, t, T', L, h0, X', hL, e1, e2, ⟨⟨r, w, hv, hp, hb⟩, hz, hk⟩, st9⟩ := hr T hT XX
  cases hv
  rw [h0] at hz hk
  have hf := v_free X hD hS
  obtain ⟨t2, a1, b1⟩ := kk _ w hp T'.heap (locs ++ L) ls (by rw [e1]; exact hb.1) (hb.2.2.weaken (fun _ q _ h => hf q.1 h)) ⟨Nat.le_trans hS.1 (by rw [e1]; exact hz), fun q h1 h2 => by
      rw [e1, hk q (Nat.lt_of_lt_of_le h1 hS.1) (fun z => h2 (hf q z))]; exact hS.2.1 q h1 h2, fun q hq => by
      rcases List.mem_append.mp hq with h | h
      · exact hS.2.2 q h
      · exact hf _ (hL q h)⟩ hl T' rfl X'
  exact ⟨t2, st9 t2 a1, b1⟩
/-- what a caller must know of a callee beside its contract -/
def vCe (y : MethodName) (bytes : ByteArray) (maxL : Nat) (ret : Option FieldType) (n : Nat) : Prop := Cond.code y bytes maxL ret ∈ gw ∧ Cond.initialized y.cls ∈ gw ∧ y.cls ≠ "java/lang/invoke/MethodHandle" ∧ y.cls ≠ "java/lang/invoke/VarHandle" ∧ (parseMethodDescriptor y.desc).map (fun d => d.parameters.length) = some n
theorem v_pre (X : vOk K cc own nL) {As : List Value} {H : Heap} {locs : List Loc} (hP : va_P (kD K) vwCl ws H) (hD : va_D (kA K) ws) (hS : va_S (kA K) (kS K).heap H locs) : ∀ U : State, U.heap = H → (kS K).WarmedH U.vm → vPre (kD K) (kY K) (kZ K) H.size As ws As.toArray U :=
  fun U hU hW => ⟨rfl, by rw [hU], by rw [hU]; exact hP, va_K.moved hW.alike X.k, hD.weaken (fun _ _ _ _ => trivial), vN.warm hW X.n, by
    rw [hU]
    exact vZ.narrow (vZ.kept (vZ.moved hW.alike X.z) hS.2.1) (v_free X hD hS)⟩
section CALLS
variable {y : MethodName} {bytes : ByteArray} {maxL n fr lo mc ms index : Nat} {ret : Option FieldType} {As : List Value} {post : Option Value → va_W → Prop} {host C : String} {b : Nat}
theorem vCe.callB (X : vOk K cc own nL) (hc : vCe y bytes maxL ret n) (hl : Cond.methodLink own index y ∈ gw) (hR : fr + 1 ≤ (kR K).frames ∧ 8 + (maxL + 11) + lo ≤ (kR K).locals) : CallB (kR K) (kS K) (kAr K) own index y bytes maxL ret (wsM y bytes maxL ret) (vRm fr lo mc ms) mc ms n :=
  callB_of n X.g (gw_wsM hc.1) rfl rfl rfl (X.w hc.2.1) (X.w hl) hc.2.2 hR
theorem vCe.cn (X : vOk K cc own nL) (hc : vCe y bytes maxL ret n) (hl : (own, index, y, host) ∈ vNM) (hR : fr + 1 ≤ (kR K).frames ∧ 8 + (maxL + 11) + lo ≤ (kR K).locals) : va_CN (kR K) (kS K) (kAr K) own index y host bytes maxL ret (wsM y bytes maxL ret) (vRm fr lo mc ms) mc ms n :=
  va_cnB n X.g (gw_wsM hc.1) rfl rfl rfl (X.n.2.1 _ hl) (X.w hc.2.1) hc.2.2 hR
theorem v_recv (X : vOk K cc own nL) {H : Heap} (hP : va_P (kD K) vwCl ws H) (hb : ∃ (q0 ci : Nat) (fs : List Value) (q : vw_C), ws[q0]? = some (b, .inr (ci, fs)) ∧ vwCl[ci]? = some q ∧ q.1 = C) : ∃ cell : Cell, H[b]? = some cell ∧ cell.vm.isStatics = false ∧ (kS K).vm.findClass C = some cell.cls := by
  obtain ⟨q0, ci, fs, q, h1, h2, h3⟩ := hb
  subst h3
  exact va_recv X.k hP h2 h1
/-- a virtual call in the class' own pool -/
theorem v_callV (X : vOk K cc own nL) (hM : Ct (kL K) (kD K) (kY K) (kZ K) y bytes maxL ret fr lo (.ref b :: As) ws mc ms post) (hc : vCe y bytes maxL ret n) (hl : Cond.methodLink own index y ∈ gw) (him : Cond.instanceMethod y ∈ gw) (hse : Cond.selects C y y ∈ gw) (hb : ∃ (q0 ci : Nat) (fs : List Value) (q : vw_C), ws[q0]? = some (b, .inr (ci, fs)) ∧ vwCl[ci]? = some q ∧ q.1 = C)
    (hR : fr + 1 ≤ (kR K).frames ∧ 8 + (maxL + 11) + lo ≤ (kR K).locals) (hn : As.length = n) (hst : st0 = As.reverse ++ .ref b :: st) (hW : (st.map fun v => v.category).sum ≤ 8) (d : decode cc pc = .ok (.invokevirtual index, 3)) (e : pc + 3 = pc') (hf : n1 + mc ≤ (kR K).cells ∧ n2 + ms ≤ (kR K).slots)
    (kk : ∀ (r : Option Value) (w : va_W), post r w → V K nL w (n1 + mc) (n2 + ms) pc' lv (r.toList ++ st)) : V K nL ws n1 n2 pc lv st0 := by
  intro H locs ls hP hD hS hl9
  exact v_run X hD hS hl9 (va_runV ⟨X.x, X.b, X.1.2.2.1, X.o, X.g⟩ (hM H.size) ⟨vCe.callB X hc hl hR, X.w him, X.w hse⟩ ⟨vPre.blind, v_recv X hP hb, v_pre X hP hD hS⟩ rfl hn hl9.1 hst (lv_room hW) d hf) e kk
/-- .. of a nest mate's private method -/
theorem v_callVN (X : vOk K cc own nL) (hM : Ct (kL K) (kD K) (kY K) (kZ K) y bytes maxL ret fr lo (.ref b :: As) ws mc ms post) (hc : vCe y bytes maxL ret n) (hl : (own, index, y, host) ∈ vNM) (him : Cond.instanceMethod y ∈ gw) (hse : Cond.selects C y y ∈ gw) (hb : ∃ (q0 ci : Nat) (fs : List Value) (q : vw_C), ws[q0]? = some (b, .inr (ci, fs)) ∧ vwCl[ci]? = some q ∧ q.1 = C)
    (hR : fr + 1 ≤ (kR K).frames ∧ 8 + (maxL + 11) + lo ≤ (kR K).locals) (hn : As.length = n) (hst : st0 = As.reverse ++ .ref b :: st) (hW : (st.map fun v => v.category).sum ≤ 8) (d : decode cc pc = .ok (.invokevirtual index, 3)) (e : pc + 3 = pc') (hf : n1 + mc ≤ (kR K).cells ∧ n2 + ms ≤ (kR K).slots)
    (kk : ∀ (r : Option Value) (w : va_W), post r w → V K nL w (n1 + mc) (n2 + ms) pc' lv (r.toList ++ st)) : V K nL ws n1 n2 pc lv st0 := by
  intro H locs ls hP hD hS hl9
  exact v_run X hD hS hl9 (va_runVN (C := C) ⟨X.x, X.b, X.1.2.2.1, X.o, X.g⟩ (hM H.size) ⟨vCe.cn X hc hl hR, X.w him, X.w hse⟩ ⟨vPre.blind, v_recv X hP hb, v_pre X hP hD hS⟩ rfl hn hl9.1 hst (lv_room hW) d hf) e kk
/-- a constructor -/
theorem v_callI (X : vOk K cc own nL) (hM : Ct (kL K) (kD K) (kY K) (kZ K) y bytes maxL none fr lo (.ref b :: As) ws mc ms post) (hc : vCe y bytes maxL none n) (hl : Cond.methodLink own index y ∈ gw) (him : Cond.instanceMethod y ∈ gw) (hy : y.name = "<init>")
    (hR : fr + 1 ≤ (kR K).frames ∧ 8 + (maxL + 11) + lo ≤ (kR K).locals) (hn : As.length = n) (hst : st0 = As.reverse ++ .ref b :: st) (hW : (st.map fun v => v.category).sum ≤ 8) (d : decode cc pc = .ok (.invokespecial index, 3)) (e : pc + 3 = pc') (hf : n1 + mc ≤ (kR K).cells ∧ n2 + ms ≤ (kR K).slots)
    (kk : ∀ (r : Option Value) (w : va_W), post r w → V K nL w (n1 + mc) (n2 + ms) pc' lv (r.toList ++ st)) : V K nL ws n1 n2 pc lv st0 := by
  intro H locs ls hP hD hS hl9
  exact v_run X hD hS hl9 (va_runI ⟨X.x, X.b, X.1.2.2.1, X.o, X.g⟩ (hM H.size) ⟨vCe.callB X hc hl hR, hy, X.w him⟩ ⟨vPre.blind, v_pre X hP hD hS⟩ rfl hn hl9.1 hst (lv_room hW) d hf) e kk
theorem v_callIN (X : vOk K cc own nL) (hM : Ct (kL K) (kD K) (kY K) (kZ K) y bytes maxL none fr lo (.ref b :: As) ws mc ms post) (hc : vCe y bytes maxL none n) (hl : (own, index, y, host) ∈ vNM) (him : Cond.instanceMethod y ∈ gw) (hy : y.name = "<init>")
    (hR : fr + 1 ≤ (kR K).frames ∧ 8 + (maxL + 11) + lo ≤ (kR K).locals) (hn : As.length = n) (hst : st0 = As.reverse ++ .ref b :: st) (hW : (st.map fun v => v.category).sum ≤ 8) (d : decode cc pc = .ok (.invokespecial index, 3)) (e : pc + 3 = pc') (hf : n1 + mc ≤ (kR K).cells ∧ n2 + ms ≤ (kR K).slots)
    (kk : ∀ (r : Option Value) (w : va_W), post r w → V K nL w (n1 + mc) (n2 + ms) pc' lv (r.toList ++ st)) : V K nL ws n1 n2 pc lv st0 := by
  intro H locs ls hP hD hS hl9
  exact v_run X hD hS hl9 (va_runIN ⟨X.x, X.b, X.1.2.2.1, X.o, X.g⟩ (hM H.size) ⟨vCe.cn X hc hl hR, hy, X.w him⟩ ⟨vPre.blind, v_pre X hP hD hS⟩ rfl hn hl9.1 hst (lv_room hW) d hf) e kk
/-- a static method -/
theorem v_callS (X : vOk K cc own nL) (hM : Ct (kL K) (kD K) (kY K) (kZ K) y bytes maxL ret fr lo As ws mc ms post) (hc : vCe y bytes maxL ret n) (hl : Cond.methodLink own index y ∈ gw) (hs : Cond.static y ∈ gw)
    (hR : fr + 1 ≤ (kR K).frames ∧ 8 + (maxL + 11) + lo ≤ (kR K).locals) (hn : As.length = n) (hst : st0 = As.reverse ++ st) (hW : (st.map fun v => v.category).sum ≤ 8) (d : decode cc pc = .ok (.invokestatic index, 3)) (e : pc + 3 = pc') (hf : n1 + mc ≤ (kR K).cells ∧ n2 + ms ≤ (kR K).slots)
    (kk : ∀ (r : Option Value) (w : va_W), post r w → V K nL w (n1 + mc) (n2 + ms) pc' lv (r.toList ++ st)) : V K nL ws n1 n2 pc lv st0 := by
  intro H locs ls hP hD hS hl9
  exact v_run X hD hS hl9 (va_runS ⟨X.x, X.b, X.1.2.2.1, X.o, X.g⟩ (hM H.size) ⟨vCe.callB X hc hl hR, X.w hs⟩ ⟨vPre.blind, v_pre X hP hD hS⟩ rfl hn hl9.1 hst (lv_room hW) d hf) e kk
theorem v_callSN (X : vOk K cc own nL) (hM : Ct (kL K) (kD K) (kY K) (kZ K) y bytes maxL ret fr lo As ws mc ms post) (hc : vCe y bytes maxL ret n) (hl : (own, index, y, host) ∈ vNM) (hs : Cond.static y ∈ gw)
    (hR : fr + 1 ≤ (kR K).frames ∧ 8 + (maxL + 11) + lo ≤ (kR K).locals) (hn : As.length = n) (hst : st0 = As.reverse ++ st) (hW : (st.map fun v => v.category).sum ≤ 8) (d : decode cc pc = .ok (.invokestatic index, 3)) (e : pc + 3 = pc') (hf : n1 + mc ≤ (kR K).cells ∧ n2 + ms ≤ (kR K).slots)
    (kk : ∀ (r : Option Value) (w : va_W), post r w → V K nL w (n1 + mc) (n2 + ms) pc' lv (r.toList ++ st)) : V K nL ws n1 n2 pc lv st0 := by
  intro H locs ls hP hD hS hl9
  exact v_run X hD hS hl9 (va_runSN ⟨X.x, X.b, X.1.2.2.1, X.o, X.g⟩ (hM H.size) ⟨vCe.cn X hc hl hR, X.w hs, trivial⟩ ⟨vPre.blind, v_pre X hP hD hS⟩ rfl hn hl9.1 hst (lv_room hW) d hf) e kk
end CALLS
end VCON
