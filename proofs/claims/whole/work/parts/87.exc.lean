/-! METHODS THAT RETURN OR THROW -/
def vxD (cls : String) : List Cond := [Cond.castable cls cls, Cond.declares (Bundle.init0 "java/lang/RuntimeException"), Cond.declares (Bundle.init0 "java/lang/Exception"), Cond.declares (Bundle.init0 "java/lang/Throwable")]
/-- what the tables say of the exceptions' constructors -/
def vND (U : State) : Prop := va_Nw (.declares (Bundle.init0 "java/lang/RuntimeException")) U ∧ va_Nw (.declares (Bundle.init0 "java/lang/Exception")) U ∧ va_Nw (.declares (Bundle.init0 "java/lang/Throwable")) U ∧ va_Nc "java/lang/IllegalArgumentException" "java/util/NoSuchElementException" U
theorem vND.warm {s U : State} (hW : s.WarmedH U.vm) (h : vND s) : vND U := ⟨va_Nw.warmD hW h.1, va_Nw.warmD hW h.2.1, va_Nw.warmD hW h.2.2.1, va_Nc.moved hW.alike h.2.2.2⟩
def vPx (D : va_G) (Y : Nat → ClassId) (z : Nat → Nat) (sz : Nat) (As : List Value) (ws : va_W) : Array Value → State → Prop := fun a U => vPre D Y z sz As ws a U ∧ vND U
theorem vPx.blind {D : va_G} {Y : Nat → ClassId} {z : Nat → Nat} {sz : Nat} {As : List Value} {ws : va_W} : FrameBlind (vPx D Y z sz As ws) := fun a U g mk q => ⟨vPre.blind a U g mk q.1, vND.warm (s := U) (U := U.calling g mk a) (State.WarmedH.refl U) q.2⟩
def vxN : List String := ["java/lang/RuntimeException", "java/lang/Exception"]
/-- what holds where a class has been thrown: what is said of it and of the pool -/
def vXC (D : va_G) (Y : Nat → ClassId) (A : Nat → Prop) (px : String → va_W → Prop) : String → State → State → Prop := vx_X (S := va_W) (fun _ => True) (fun E w t => px E w ∧ vB D Y A w t) A
/-- the contract of a method that returns or throws -/
def Cx (l : Launch) (D : va_G) (Y : Nat → ClassId) (z : Nat → Nat) (y : MethodName) (cc : ByteArray) (nL : Nat) (ret : Option FieldType) (fr lo : Nat) (As : List Value) (ws : va_W) (mc ms : Nat) (post : Option Value → va_W → Prop) (px : String → va_W → Prop) : Prop :=
  ∀ sz : Nat, vx_Met l y (wsM y cc nL ret) (vRm fr lo mc ms) (vPx D Y z sz As ws) (vQ D Y (va_A ws sz) post) (vXC D Y (va_A ws sz) px) mc ms (va_A ws sz)
def vRx (K : vKt) (ret : Option FieldType) (mc ms : Nat) (post : Option Value → va_W → Prop) (px : String → va_W → Prop) : Prop :=
  (kMe K).sig.returnType = ret ∧ (∀ x ∈ (kC K).exceptionTable.toList, False) ∧ kQ K = vx_MQ (kB K) (vQ (kD K) (kY K) (kA K) post) (vXC (kD K) (kY K) (kA K) px) (kAr K) (kS K) mc ms (kA K)
theorem v_entryX {l : Launch} {D : va_G} {Y : Nat → ClassId} {z : Nat → Nat} {y : MethodName} {cc : ByteArray} {nL : Nat} {ret : Option FieldType} {fr lo : Nat} {As : List Value} {ws : va_W} {mc ms : Nat} {post : Option Value → va_W → Prop} {px : String → va_W → Prop} (hy : plainName y.cls = true) (hn : (lg_sl As).length ≤ nL)
    (body : ∀ K : vKt, vOk K cc y.cls nL → vRx K ret mc ms post px → kR K = vRm fr lo mc ms → (kMe K).name = y.name → vND (kS K) → l = kL K → D = kD K → Y = kY K → z = kZ K → V K nL ws 0 0 0 (lv_args 0 As) []) : Cx l D Y z y cc nL ret fr lo As ws mc ms post px := by
  intro sz
  refine vx_ofW (cc := cc) (maxL := nL) (ret := ret) hy rfl ?_
  intro p e s m args below meth c s₁ B hml ht hv
  obtain ⟨⟨rfl, hsz, hP, hK, hD0, hN, hZ⟩, hND⟩ := hv
  subst hsz
  have hts := atoms_spec (ws := wsM y cc nL ret) B.pre
  have hl := lv_entry As (n := nL) hn
  rw [lg_entry_eq]
  exact body (p, l, e, vRm fr lo mc ms, s, m, As.toArray, below, meth, c, D, Y, va_A ws s.heap.size, z, vx_MQ below (vQ D Y (va_A ws s.heap.size) post) (vXC D Y (va_A ws s.heap.size) px) As.toArray s mc ms (va_A ws s.heap.size))
    ⟨⟨B.exec, B.bytes, hml, findClass_of_methodNamed B.named⟩, fun w hw => hts w (List.mem_cons_of_mem _ hw), hK, hN, hZ, fun q h => Or.inr h, B.notSynchronized⟩
    ⟨B.returns, ht, rfl⟩ rfl (name_of_methodNamed B.named B.method).1 hND rfl rfl rfl rfl s.heap [] _ hP (hD0.self (sz := s.heap.size)) va_S.rf hl
section VEXC
variable {K : vKt} {cc : ByteArray} {own : String} {nL n1 n2 pc pc' : Nat} {ws : va_W} {lv lv' : List (Nat × Value)} {st st0 : List Value} {mc ms : Nat} {post : Option Value → va_W → Prop} {px : String → va_W → Prop}
theorem x_ireturn (X : vOk K cc own nL) {v : Int32} (R : vRx K (some .int) mc ms post px) (h1 : n1 ≤ mc) (h2 : n2 ≤ ms) (d : decode cc pc = .ok (.ireturn, 1)) (hp : post (some (.int v)) ws) : V K nL ws n1 n2 pc lv [.int v] := by
  intro H locs ls hP hD hS hl
  refine W.widen h1 h2 ?_
  rw [R.2.2]
  exact vx_ret (W.iret X.x X.b R.1 (v_end (mc := mc) (ms := ms) X hP hD hS hp) hS.2.2 d X.l)
theorem x_lreturn (X : vOk K cc own nL) {v : Int64} (R : vRx K (some .long) mc ms post px) (h1 : n1 ≤ mc) (h2 : n2 ≤ ms) (d : decode cc pc = .ok (.lreturn, 1)) (hp : post (some (.long v)) ws) : V K nL ws n1 n2 pc lv [.long v] := by
  intro H locs ls hP hD hS hl
  refine W.widen h1 h2 ?_
  rw [R.2.2]
  exact vx_ret (W.lret X.x X.b R.1 (v_end (mc := mc) (ms := ms) X hP hD hS hp) hS.2.2 d X.l)
theorem vOk.zU (X : vOk K cc own nL) : vx_Zq Bundle.tN "UNASSIGNED_STACK" Bundle.steD (kA K) (kS K) (kS K).heap := X.z.2.2.2.2.2.2.2.2.2.2.1
theorem vOk.zV (X : vOk K cc own nL) : vx_Zq Bundle.tN "SUPPRESSED_SENTINEL" Bundle.listD (kA K) (kS K) (kS K).heap := X.z.2.2.2.2.2.2.2.2.2.2.2.1
/-- new E(); dup; its constructor; athrow -/
theorem x_throw (X : vOk K cc own nL) {ret : Option FieldType} (R : vRx K ret mc ms post px) (hst : (kL K).stackTraces = false) (hd : vND (kS K)) {cls : String} {ik ic : Nat} (hcls : Bundle.fit cls = true) (hk : Cond.classLink own ik cls ∈ gw) (hini : Cond.initialized cls ∈ gw) (hca : (cls, cls) ∈ vNC)
    (hg : ∀ w ∈ (vx_at0 own ic cls vxN).filter goodWord, w ∈ gw) (hn : ∀ w ∈ (vx_at0 own ic cls vxN).filter (fun w => !goodWord w), w ∈ vxD cls) (hgood : ∀ w ∈ Cond.classLink own ik cls :: Cond.initialized cls :: vx_at0 own ic cls vxN, vx_ot w = true)
    (d0 : decode cc pc = .ok (.new ik, 3)) (d3 : decode cc (pc + 3) = .ok (.dup, 1)) (d4 : decode cc (pc + 4) = .ok (.invokespecial ic, 3)) (d7 : decode cc (pc + 7) = .ok (.athrow, 1))
    (hRf : vxN.length + 3 < (kR K).frames) (hRl : (st.map fun v => v.category).sum + (13 * (vxN.length + 1) + 42) ≤ (kR K).locals) (hRc : n1 + 1 ≤ (kR K).cells) (hRs : n2 + 6 ≤ (kR K).slots) (hc : n1 + 1 ≤ mc) (hs : n2 + 6 ≤ ms) (hp : px cls ws) : V K nL ws n1 n2 pc lv st := by
  intro H locs ls hP hD hS hl
  rw [R.2.2]
  refine vx_throw0 X.x X.b hst (names := vxN) (A := kA K) X.o hcls (by decide +kernel) (X.w hk) (X.w hini) (vx_hat (fun w hw => X.w (hg w hw)) hn (vx_c (va_Nw.use rfl (X.n.2.2.1 _ hca)) (vx_c (va_Nw.use rfl hd.1) (vx_c (va_Nw.use rfl hd.2.1) (vx_c (va_Nw.use rfl hd.2.2.1) vx_n))))) hgood X.zU X.zV hS (hl.1.trans X.1.2.2.1.symm) d0 d3 d4 d7 (fun x hx => (R.2.1 x hx).elim) hRf hRl hRc hRs X.l (fun t hA h1 h2 => ?_) hS.2.2 hc hs
  refine ⟨ws, trivial, ⟨hp, hP.kept (fun k q hk => h2 q.1 (vx_lt hP hk)), va_K.moved hA X.k, hD⟩, Nat.le_trans hS.1 h1, fun q hq hn => (h2 q (Nat.lt_of_lt_of_le hq hS.1)).trans (hS.2.1 q hq hn)⟩
end VEXC
theorem xw_NS_g : ∀ w ∈ (vx_at0 RX7 73 "java/util/NoSuchElementException" vxN).filter goodWord, w ∈ gw := by decide +kernel
theorem xw_NS_n : ∀ w ∈ (vx_at0 RX7 73 "java/util/NoSuchElementException" vxN).filter (fun w => !goodWord w), w ∈ vxD "java/util/NoSuchElementException" := by decide +kernel
theorem xw_NS_o : ∀ w ∈ Cond.classLink RX7 71 "java/util/NoSuchElementException" :: Cond.initialized "java/util/NoSuchElementException" :: vx_at0 RX7 73 "java/util/NoSuchElementException" vxN, vx_ot w = true := by decide +kernel
theorem xw_NS_c : ("java/util/NoSuchElementException", "java/util/NoSuchElementException") ∈ vNC := List.mem_of_getElem? (i := 1) rfl
theorem xw_IA_g : ∀ w ∈ (vx_at0 RX7 76 "java/lang/IllegalArgumentException" vxN).filter goodWord, w ∈ gw := by decide +kernel
theorem xw_IA_n : ∀ w ∈ (vx_at0 RX7 76 "java/lang/IllegalArgumentException" vxN).filter (fun w => !goodWord w), w ∈ vxD "java/lang/IllegalArgumentException" := by decide +kernel
theorem xw_IA_o : ∀ w ∈ Cond.classLink RX7 74 "java/lang/IllegalArgumentException" :: Cond.initialized "java/lang/IllegalArgumentException" :: vx_at0 RX7 76 "java/lang/IllegalArgumentException" vxN, vx_ot w = true := by decide +kernel
theorem xw_IA_c : ("java/lang/IllegalArgumentException", "java/lang/IllegalArgumentException") ∈ vNC := List.mem_of_getElem? (i := 2) rfl
theorem xw_IS_g : ∀ w ∈ (vx_at0 RX7 65 "java/lang/IllegalStateException" vxN).filter goodWord, w ∈ gw := by decide +kernel
theorem xw_IS_n : ∀ w ∈ (vx_at0 RX7 65 "java/lang/IllegalStateException" vxN).filter (fun w => !goodWord w), w ∈ vxD "java/lang/IllegalStateException" := by decide +kernel
theorem xw_IS_o : ∀ w ∈ Cond.classLink RX7 63 "java/lang/IllegalStateException" :: Cond.initialized "java/lang/IllegalStateException" :: vx_at0 RX7 65 "java/lang/IllegalStateException" vxN, vx_ot w = true := by decide +kernel
theorem xw_IS_c : ("java/lang/IllegalStateException", "java/lang/IllegalStateException") ∈ vNC := List.mem_of_getElem? (i := 0) rfl
theorem xw_IB_g : ∀ w ∈ (vx_at0 RX7 140 "java/lang/IndexOutOfBoundsException" vxN).filter goodWord, w ∈ gw := by decide +kernel
theorem xw_IB_n : ∀ w ∈ (vx_at0 RX7 140 "java/lang/IndexOutOfBoundsException" vxN).filter (fun w => !goodWord w), w ∈ vxD "java/lang/IndexOutOfBoundsException" := by decide +kernel
theorem xw_IB_o : ∀ w ∈ Cond.classLink RX7 138 "java/lang/IndexOutOfBoundsException" :: Cond.initialized "java/lang/IndexOutOfBoundsException" :: vx_at0 RX7 140 "java/lang/IndexOutOfBoundsException" vxN, vx_ot w = true := by decide +kernel
theorem xw_IB_c : ("java/lang/IndexOutOfBoundsException", "java/lang/IndexOutOfBoundsException") ∈ vNC := List.mem_of_getElem? (i := 3) rfl
