/-! CALLS IN A PART OF THE WORLD; METHODS WITH HANDLERS -/
theorem met_ofWH {l : Launch} {y : MethodName} {ws ws' : List Cond} {rm : Room} {Pc : Array Value → State → Prop} {Qc : Array Value → State → Outcome → State → Prop} {mc ms : Nat} {free : Addr → Prop} {cc : ByteArray} {maxL : Nat} {ret : Option FieldType} {hh : List (Nat × Nat × Nat × Nat)}
    (hy : plainName y.cls = true) (hw : ws = Cond.codeWith y cc maxL ret hh :: ws')
    (body : ∀ p e s m args below meth c s₁, BodyLoose p l y (headSpec ws rm) cc maxL ret e s m args below meth c s₁ → c.maxLocals = maxL → c.exceptionTable.toList = tableOf hh → Pc args s →
      W p l e (headSpec ws rm).room s m args below meth c s.heap [] 0 0 (MQ below Qc args s mc ms free) (entryFrame m args maxL)) : Met l y ws rm Pc Qc mc ms free := by
  refine MetFree.of_bodyS (code := cc) (maxLocals := maxL) (ret := ret) hy ?_ ?_
  · intro args s m h hn
    obtain ⟨m9, meth, c, hn9, h1, h2, h3, h4, -, h5, h6, -⟩ := Cond.codeWith_spec (atoms_spec (ws := ws) h _ (by rw [hw]; exact List.mem_cons_self))
    cases hn.symm.trans hn9
    exact ⟨meth, c, h1, h2, h3, h4, h5, h6⟩
  · intro p e s m args below meth c s₁ B hml hP _
    have hh0 : s₁.heap = s.heap := by rw [B.state]; rfl
    have ht : c.exceptionTable.toList = tableOf hh := vx_table (x := y) B (atoms_spec (ws := ws) B.pre _ (by rw [hw]; exact List.mem_cons_self))
    obtain ⟨t, a1, o, b1, b2, b3⟩ := body p e s m args below meth c s₁ B hml ht hP s₁ hh0 (Stand.of_body B)
    exact ⟨t, o, a1, b1, b2, b3⟩
def wsH (y : MethodName) (cc : ByteArray) (nL : Nat) (ret : Option FieldType) (hh : List (Nat × Nat × Nat × Nat)) : List Cond := Cond.codeWith y cc nL ret hh :: gw
/-- the contract of a method with handlers, that returns -/
def Hx (l : Launch) (D : va_G) (Y : Nat → ClassId) (z : Nat → Nat) (y : MethodName) (cc : ByteArray) (nL : Nat) (ret : Option FieldType) (hh : List (Nat × Nat × Nat × Nat)) (fr lo : Nat) (As : List Value) (ws : va_W) (mc ms : Nat) (post : Option Value → va_W → Prop) : Prop :=
  ∀ sz : Nat, Met l y (wsH y cc nL ret hh) (vRm fr lo mc ms) (vPx D Y z sz As ws) (vQ D Y (va_A ws sz) post) mc ms (va_A ws sz)
theorem v_entryH {l : Launch} {D : va_G} {Y : Nat → ClassId} {z : Nat → Nat} {y : MethodName} {cc : ByteArray} {nL : Nat} {ret : Option FieldType} {hh : List (Nat × Nat × Nat × Nat)} {fr lo : Nat} {As : List Value} {ws : va_W} {mc ms : Nat} {post : Option Value → va_W → Prop} (hy : plainName y.cls = true) (hn : (lg_sl As).length ≤ nL)
    (body : ∀ K : vKt, vOk K cc y.cls nL → vRt K ret mc ms post → kR K = vRm fr lo mc ms → (kC K).exceptionTable.toList = tableOf hh → vND (kS K) → l = kL K → D = kD K → Y = kY K → z = kZ K → V K nL ws 0 0 0 (lv_args 0 As) []) : Hx l D Y z y cc nL ret hh fr lo As ws mc ms post := by
  intro sz
  refine met_ofWH (cc := cc) (maxL := nL) (ret := ret) hy rfl ?_
  intro p e s m args below meth c s₁ B hml ht hv
  obtain ⟨⟨rfl, hsz, hP, hK, hD0, hN, hZ⟩, hND⟩ := hv
  subst hsz
  have hts := atoms_spec (ws := wsH y cc nL ret hh) B.pre
  have hl := lv_entry As (n := nL) hn
  rw [lg_entry_eq]
  exact body (p, l, e, vRm fr lo mc ms, s, m, As.toArray, below, meth, c, D, Y, va_A ws s.heap.size, z, MQ below (vQ D Y (va_A ws s.heap.size) post) As.toArray s mc ms (va_A ws s.heap.size))
    ⟨⟨B.exec, B.bytes, hml, findClass_of_methodNamed B.named⟩, fun w hw => hts w (List.mem_cons_of_mem _ hw), hK, hN, hZ, fun q h => Or.inr h, B.notSynchronized⟩
    ⟨B.returns, rfl⟩ rfl ht hND rfl rfl rfl rfl s.heap [] _ hP (hD0.self (sz := s.heap.size)) va_S.rf hl
section VFR
variable {K : vKt} {cc : ByteArray} {own : String} {nL n1 n2 pc pc' : Nat} {ws fs : va_W} {lv lv' : List (Nat × Value)} {st st0 : List Value} {mc ms : Nat} {post : Option Value → va_W → Prop} {px : String → va_W → Prop}
theorem va_Pl {D : va_G} {H : Heap} (hP : va_P D vwCl (ws ++ fs) H) : va_P D vwCl ws H := fun _ _ hk => hP _ _ (app_l hk)
theorem va_Pr {D : va_G} {H : Heap} (hP : va_P D vwCl (ws ++ fs) H) : va_P D vwCl fs H := fun _ _ hk => hP _ _ (tl_at hk)
theorem va_Dl {A : Nat → Prop} (hD : va_D A (ws ++ fs)) : va_D A ws := ⟨fun i j p q hi hj he => hD.1 i j p q (app_l hi) (app_l hj) he, fun k q hk => hD.2 k q (app_l hk)⟩
theorem va_Dr {A : Nat → Prop} (hD : va_D A (ws ++ fs)) : va_D A fs := ⟨fun i j p q hi hj he => by have := hD.1 _ _ p q (tl_at (ws0 := ws) hi) (tl_at (ws0 := ws) hj) he; omega, fun k q hk => hD.2 _ q (tl_at (ws0 := ws) hk)⟩
/-- what stays beside a part of the world -/
theorem v_frame (X : vOk K cc own nL) {w : va_W} {H : Heap} {locs L : List Loc} {t : State} (hP : va_P (kD K) vwCl (ws ++ fs) H) (hD : va_D (kA K) (ws ++ fs)) (hS : va_S (kA K) (kS K).heap H locs) (hz : H.size ≤ t.heap.size) (hk : ∀ q : Nat, q < H.size → ¬ va_A ws H.size q → t.heap[q]? = H[q]?) (hw : va_P (kD K) vwCl w t.heap) (hwd : va_D (va_A ws H.size) w) (hL : ∀ q ∈ L, va_A ws H.size q.base) :
    va_P (kD K) vwCl (w ++ fs) t.heap ∧ va_D (kA K) (w ++ fs) ∧ va_S (kA K) (kS K).heap t.heap (locs ++ L) := by
  have hf : ∀ q, va_A ws H.size q → kA K q := v_free X (va_Dl hD) hS
  have hout : ∀ (j : Nat) (p : Nat × va_E), fs[j]? = some p → ¬ va_A ws H.size p.1 := by
    rintro j p hj (⟨k, e, h⟩ | h)
    · have h1 := hD.1 k (ws.length + j) (p.1, e) p (app_l h) (tl_at hj) rfl
      have h2 := (List.getElem?_eq_some_iff.mp h).1
      omega
    · have h1 := vx_lt (va_Pr hP) hj
      omega
  refine ⟨hw.app ((va_Pr hP).kept (fun j p hj => hk p.1 (vx_lt (va_Pr hP) hj) (hout j p hj))), ?_, ?_⟩
  · refine va_D.app (hwd.weaken (fun _ q _ h => hf q.1 h)) (va_Dr hD) (fun i j p q hi hj he => ?_)
    have h1 := hwd.2 i p hi
    rw [he] at h1
    exact hout j q hj h1
  · exact ⟨Nat.le_trans hS.1 hz, fun q h1 h2 => by rw [hk q (Nat.lt_of_lt_of_le h1 hS.1) (fun z => h2 (hf q z))]; exact hS.2.1 q h1 h2, fun q hq => by
      rcases List.mem_append.mp hq with h | h
      · exact hS.2.2 q h
      · exact hf _ (hL q h)⟩
theorem v_runF (X : vOk K cc own nL) {a : Array Value} {H : Heap} {locs : List Loc} {ls : Array Slot} (hP : va_P (kD K) vwCl (ws ++ fs) H) (hD : va_D (kA K) (ws ++ fs)) (hS : va_S (kA K) (kS K).heap H locs) (hl : lv_has ls nL lv)
    (hr : va_Run (kP K) (kL K) (kE K) (kR K) (kS K) (kM K) (kAr K) (kB K) (kMe K) (kC K) H locs n1 n2 mc ms (F0 (kM K) pc ls st0) st (vQ (kD K) (kY K) (va_A ws H.size) post a) (va_A ws H.size)) (e : pc + 3 = pc')
    (kk : ∀ (r : Option Value) (w : va_W), post r w → V K nL (w ++ fs) (n1 + mc) (n2 + ms) pc' lv (r.toList ++ st)) : W (kP K) (kL K) (kE K) (kR K) (kS K) (kM K) (kAr K) (kB K) (kMe K) (kC K) H locs n1 n2 (kQ K) (F0 (kM K) pc ls st0) := by
  subst e
  intro T hT XX
  obtain ⟨v, st₀, t, T', L, h0, X', hL, e1, e2, ⟨⟨r, w, hv, hp, hb⟩, hz, hk⟩, st9⟩ := hr T hT XX
  cases hv
  rw [h0] at hz hk
  obtain ⟨f1, f2, f3⟩ := v_frame X hP hD hS hz hk hb.1 hb.2.2 hL
  obtain ⟨t2, a1, b1⟩ := kk _ w hp T'.heap (locs ++ L) ls (by rw [e1]; exact f1) f2 (by rw [e1]; exact f3) hl T' rfl X'
  exact ⟨t2, st9 t2 a1, b1⟩
section CALLSF
variable {y : MethodName} {bytes : ByteArray} {maxL n fr lo index : Nat} {ret : Option FieldType} {As : List Value} {host C : String} {b : Nat}
theorem v_callVF (X : vOk K cc own nL) (hM : Ct (kL K) (kD K) (kY K) (kZ K) y bytes maxL ret fr lo (.ref b :: As) ws mc ms post) (hc : vCe y bytes maxL ret n) (hl : Cond.methodLink own index y ∈ gw) (him : Cond.instanceMethod y ∈ gw) (hse : Cond.selects C y y ∈ gw) (hb : ∃ (q0 ci : Nat) (fs : List Value) (q : vw_C), ws[q0]? = some (b, .inr (ci, fs)) ∧ vwCl[ci]? = some q ∧ q.1 = C)
    (hR : fr + 1 ≤ (kR K).frames ∧ 8 + (maxL + 11) + lo ≤ (kR K).locals) (hn : As.length = n) (hst : st0 = As.reverse ++ .ref b :: st) (hW : (st.map fun v => v.category).sum ≤ 8) (d : decode cc pc = .ok (.invokevirtual index, 3)) (e : pc + 3 = pc') (hf : n1 + mc ≤ (kR K).cells ∧ n2 + ms ≤ (kR K).slots)
    (kk : ∀ (r : Option Value) (w : va_W), post r w → V K nL (w ++ fs) (n1 + mc) (n2 + ms) pc' lv (r.toList ++ st)) : V K nL (ws ++ fs) n1 n2 pc lv st0 := by
  intro H locs ls hP hD hS hl9
  exact v_runF X hP hD hS hl9 (va_runV ⟨X.x, X.b, X.1.2.2.1, X.o, X.g⟩ (hM H.size) ⟨vCe.callB X hc hl hR, X.w him, X.w hse⟩ ⟨vPre.blind, v_recv X (va_Pl hP) hb, v_pre X (va_Pl hP) (va_Dl hD) hS⟩ rfl hn hl9.1 hst (lv_room hW) d hf) e kk
theorem v_preX (X : vOk K cc own nL) (hd : vND (kS K)) {As : List Value} {H : Heap} {locs : List Loc} (hP : va_P (kD K) vwCl ws H) (hD : va_D (kA K) ws) (hS : va_S (kA K) (kS K).heap H locs) : ∀ U : State, U.heap = H → (kS K).WarmedH U.vm → vPx (kD K) (kY K) (kZ K) H.size As ws As.toArray U :=
  fun U hU hW => ⟨v_pre X hP hD hS U hU hW, vND.warm hW hd⟩
theorem gw_wsH {hh : List (Nat × Nat × Nat × Nat)} (h : Cond.codeWith y bytes maxL ret hh ∈ gw) : GoodIn gw (wsH y bytes maxL ret hh) := fun w hw => by
  rcases List.mem_cons.mp hw with rfl | h9
  · exact ⟨h, gw_good _ h⟩
  · exact ⟨h9, gw_good w h9⟩
/-- a static call of a method with handlers -/
theorem v_callHF (X : vOk K cc own nL) (hd : vND (kS K)) {hh : List (Nat × Nat × Nat × Nat)} (hM : Hx (kL K) (kD K) (kY K) (kZ K) y bytes maxL ret hh fr lo As ws mc ms post) (hcw : Cond.codeWith y bytes maxL ret hh ∈ gw) (hini : Cond.initialized y.cls ∈ gw) (hcl : y.cls ≠ "java/lang/invoke/MethodHandle" ∧ y.cls ≠ "java/lang/invoke/VarHandle") (hds : (parseMethodDescriptor y.desc).map (fun d => d.parameters.length) = some n) (hl : Cond.methodLink own index y ∈ gw) (hs : Cond.static y ∈ gw)
    (hR : fr + 1 ≤ (kR K).frames ∧ 8 + (maxL + 11) + lo ≤ (kR K).locals) (hn : As.length = n) (hst : st0 = As.reverse ++ st) (hW : (st.map fun v => v.category).sum ≤ 8) (d : decode cc pc = .ok (.invokestatic index, 3)) (e : pc + 3 = pc') (hf : n1 + mc ≤ (kR K).cells ∧ n2 + ms ≤ (kR K).slots)
    (kk : ∀ (r : Option Value) (w : va_W), post r w → V K nL (w ++ fs) (n1 + mc) (n2 + ms) pc' lv (r.toList ++ st)) : V K nL (ws ++ fs) n1 n2 pc lv st0 := by
  intro H locs ls hP hD hS hl9
  refine v_runF X hP hD hS hl9 (vx_runSW (hh := hh) (rm := vRm fr lo mc ms) ⟨X.x, X.b, X.1.2.2.1, X.o, X.g⟩ (hM H.size) ⟨⟨rfl, rfl, hR.1, hR.2, pay_in X.g (gw_wsH hcw), List.mem_cons_self⟩, X.w hcw, X.w hini, hcl, fun sig h => ?_, X.w hl, X.w hs⟩ ⟨vPx.blind, v_preX X hd (va_Pl hP) (va_Dl hD) hS⟩ rfl hn hl9.1 hst (lv_room hW) d hf) e kk
  rw [h] at hds
  exact (Option.some.inj hds).symm
/-- where a class is on its way out -/
def VX (K : vKt) (nL : Nat) (ws : va_W) (n1 n2 pc : Nat) (lv : List (Nat × Value)) (st : List Value) (E : String) : Prop :=
  ∀ (H : Heap) (locs : List Loc) (ls : Array Slot) (ce : Cell) (q : Addr), va_P (kD K) vwCl ws H → va_D (kA K) ws → va_S (kA K) (kS K).heap H locs → lv_has ls nL lv → H[q]? = some ce → ce.vm = .none → (kS K).vm.findClass E = some ce.cls →
    vx_W (kP K) (kL K) (kE K) (kR K) (kS K) (kM K) (kAr K) (kB K) (kMe K) (kC K) H locs n1 n2 (kQ K) (F0 (kM K) pc ls st) q
theorem x_callVF (X : vOk K cc own nL) (hd : vND (kS K)) (hM : Cx (kL K) (kD K) (kY K) (kZ K) y bytes maxL ret fr lo (.ref b :: As) ws mc ms post px) (hc : vCe y bytes maxL ret n) (hl : Cond.methodLink own index y ∈ gw) (him : Cond.instanceMethod y ∈ gw) (hse : Cond.selects C y y ∈ gw) (hb : ∃ (q0 ci : Nat) (fs : List Value) (q : vw_C), ws[q0]? = some (b, .inr (ci, fs)) ∧ vwCl[ci]? = some q ∧ q.1 = C)
    (hR : fr + 1 ≤ (kR K).frames ∧ 8 + (maxL + 11) + lo ≤ (kR K).locals) (hn : As.length = n) (hst : st0 = As.reverse ++ .ref b :: st) (hW : (st.map fun v => v.category).sum ≤ 8) (d : decode cc pc = .ok (.invokevirtual index, 3)) (e : pc + 3 = pc') (hf : n1 + mc ≤ (kR K).cells ∧ n2 + ms ≤ (kR K).slots)
    (kk : ∀ (r : Option Value) (w : va_W), post r w → V K nL (w ++ fs) (n1 + mc) (n2 + ms) pc' lv (r.toList ++ st))
    (kx : ∀ (E : String) (w : va_W), px E w → VX K nL (w ++ fs) (n1 + mc) (n2 + ms) pc lv st E) : V K nL (ws ++ fs) n1 n2 pc lv st0 := by
  subst e
  intro H locs ls hP hD hS hl9
  have hr := vx_runV (e := kE K) ⟨X.x, X.b, X.1.2.2.1, X.o, X.g⟩ (hM H.size) ⟨vCe.callB X hc hl hR, X.w him, X.w hse⟩ ⟨vPx.blind, v_recv X (va_Pl hP) hb, v_preX X hd (va_Pl hP) (va_Dl hD) hS⟩ (g := F0 (kM K) pc ls st0) (locs := locs) (cells := n1) (slots := n2) (below := kB K) (meth := kMe K) rfl hn hl9.1 hst (lv_room hW) d hf
  intro T hT XX
  rcases hr T hT XX with ⟨v, st₀, t, T', L, h0, X', hL, e1, e2, ⟨⟨r, w, hv, hp, hb⟩, hz, hk⟩, st9⟩ | ⟨q, st₀, t, T', L, E, ce, h0, X', hL, e1, e2, ⟨w, -, ⟨hp, hb⟩, hz, hk⟩, hce, hcv, hcl, st9⟩
  · cases hv
    rw [h0] at hz hk
    obtain ⟨f1, f2, f3⟩ := v_frame X hP hD hS hz hk hb.1 hb.2.2 hL
    obtain ⟨t2, a1, b1⟩ := kk _ w hp T'.heap (locs ++ L) ls (by rw [e1]; exact f1) f2 (by rw [e1]; exact f3) hl9 T' rfl X'
    exact ⟨t2, st9 t2 a1, b1⟩
  · rw [h0] at hz hk
    obtain ⟨f1, f2, f3⟩ := v_frame X hP hD hS hz hk hb.1 hb.2.2 hL
    obtain ⟨t2, a1, b1⟩ := kx E w hp T'.heap (locs ++ L) ls ce q (by rw [e1]; exact f1) f2 (by rw [e1]; exact f3) hl9 (by rw [e1]; exact hce) hcv hcl T' rfl X'
    exact ⟨t2, st9.trans a1, b1⟩
end CALLSF
/-- caught -/
theorem x_catch (X : vOk K cc own nL) {E name : String} (pre : List ExceptionTableEntry) (x : ExceptionTableEntry) (suf : List ExceptionTableEntry) (hsplit : (kC K).exceptionTable.toList = pre ++ x :: suf)
    (hpass : ∀ z ∈ pre, covers z pc = false ∨ (z.catchType ≠ 0 ∧ ∃ nm : String, (Cond.classLink own z.catchType nm).before (kAr K) (kS K) = true ∧ va_Nc E nm (kS K))) (hx : covers x pc = true) (h0 : x.catchType ≠ 0)
    (hlink : Cond.classLink own x.catchType name ∈ gw) (hcast : (E, name) ∈ vNC) {hp : Nat} (hhp : x.handlerPc = hp) (kk : ∀ q : Nat, V K nL ws n1 n2 hp lv [.ref q]) : VX K nL ws n1 n2 pc lv st E := by
  subst hhp
  intro H locs ls ce q hP hD hS hl9 hce hcv hcl
  exact vx_catch X.o pre x suf hsplit hpass hx h0 (X.w hlink) (va_Nw.use rfl (X.n.2.2.1 _ hcast)) hce hcv hcl (kk q H locs ls hP hD hS hl9)
end VFR
