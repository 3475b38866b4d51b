/-! STATICS: rows; Enum.ordinal; String.charAt of a constant text -/
section ZROWS
variable {K : vKt} {cc : ByteArray} {own : String} {nL n1 n2 pc pc' : Nat} {ws : va_W} {lv : List (Nat × Value)} {st st0 : List Value}
theorem vOk.zE (X : vOk K cc own nL) : va_En RX4 "LAtomicRuntime$Op;" opN opF (kZ K) (kA K) (kS K) (kS K).heap := X.z.1
theorem vOk.zF (X : vOk K cc own nL) : va_Ef 30 RX4 "operands" "Ljava/lang/String;" (fun i => .ref (kZ K (40 + opS.getD i 0))) (kZ K) (kA K) (kS K) (kS K).heap := X.z.2.1
theorem vOk.zA (X : vOk K cc own nL) : va_Z RX4 "ALL" "[LAtomicRuntime$Op;" (.ref (kZ K 30)) (kA K) (kS K) (kS K).heap := X.z.2.2.1
theorem vOk.zAt (X : vOk K cc own nL) : va_T (.object RX4) (kZ K 30) 30 (fun j => .ref (kZ K j)) (kA K) (kS K) (kS K).heap := X.z.2.2.2.1
theorem vOk.zM (X : vOk K cc own nL) : va_Z "AtomicRuntime$1" "$SwitchMap$AtomicRuntime$Op" "[I" (.ref (kZ K 31)) (kA K) (kS K) (kS K).heap := X.z.2.2.2.2.1
theorem vOk.zMt (X : vOk K cc own nL) : va_T .int (kZ K 31) 30 (fun j => .int (opM.getD j 0)) (kA K) (kS K) (kS K).heap := X.z.2.2.2.2.2.1
theorem vOk.zS (X : vOk K cc own nL) : vk_S 12 opL opB (fun i => kZ K (40 + i)) (fun i => kZ K (60 + i)) (kA K) (kS K) (kS K).heap := X.z.2.2.2.2.2.2.1
theorem vOk.zD (X : vOk K cc own nL) : va_Z "java/util/ArrayList" "DEFAULTCAPACITY_EMPTY_ELEMENTDATA" "[Ljava/lang/Object;" (.ref (kZ K 32)) (kA K) (kS K) (kS K).heap := X.z.2.2.2.2.2.2.2.1
theorem vOk.zDt (X : vOk K cc own nL) : va_T (.object "java/lang/Object") (kZ K 32) 0 (fun _ => .null) (kA K) (kS K) (kS K).heap := X.z.2.2.2.2.2.2.2.2.1
theorem vOk.zC (X : vOk K cc own nL) : va_Z "java/lang/String" "COMPACT_STRINGS" "Z" (.int 1) (kA K) (kS K) (kS K).heap := X.z.2.2.2.2.2.2.2.2.2.1
theorem vOk.zI (X : vOk K cc own nL) : va_Zq "jdk/internal/util/Preconditions" "SIOOBE_FORMATTER" "Ljava/util/function/BiFunction;" (kA K) (kS K) (kS K).heap := X.z.2.2.2.2.2.2.2.2.2.2.2.2
theorem v_gets (X : vOk K cc own nL) {C nm d9 ref : String} {v : Value} {index : Nat} (hZ : va_Z C nm d9 v (kA K) (kS K) (kS K).heap) (hl : Cond.fieldLink own index ref nm d9 ∈ gw) (hr : C = ref) (d : decode cc pc = .ok (.getstatic index, 3)) (e : pc + 3 = pc') (kk : V K nL ws n1 n2 pc' lv (v :: st)) : V K nL ws n1 n2 pc lv st := by
  subst e hr
  exact fun H locs ls hP hD hS hl9 => va_gets X.x X.b hZ hS X.o (X.w hl) (fun _ h9 => h9) d (kk H locs ls hP hD hS hl9)
theorem v_getsN (X : vOk K cc own nL) {C nm d9 ref host : String} {v : Value} {index : Nat} (hZ : va_Z C nm d9 v (kA K) (kS K) (kS K).heap) (hl : (own, index, ref, nm, d9, host) ∈ vNF) (hr : C = ref) (d : decode cc pc = .ok (.getstatic index, 3)) (e : pc + 3 = pc') (kk : V K nL ws n1 n2 pc' lv (v :: st)) : V K nL ws n1 n2 pc lv st := by
  subst e hr
  exact fun H locs ls hP hD hS hl9 => va_getsN X.x X.b hZ hS X.o (va_Nw.use rfl (X.n.1 _ hl)) (fun _ h9 => h9) d (kk H locs ls hP hD hS hl9)
theorem v_tq (X : vOk K cc own nL) {C : String} {t N : Nat} {f : Nat → Value} (hT : va_T (.object C) t N f (kA K) (kS K) (kS K).heap) {i : Int32} (j : Nat) (hj : i = nI j) (hn : j < N) (hN : N < 2 ^ 31) {v : Value} (hv : f j = v) (d : decode cc pc = .ok (.aaload, 1)) (e : pc + 1 = pc') (kk : V K nL ws n1 n2 pc' lv (v :: st)) : V K nL ws n1 n2 pc lv (.int i :: .ref t :: st) := by
  subst e hj
  exact fun H locs ls hP hD hS hl9 => vb_tq X.x X.b hT hS (vp_in_nI hn hN) (by rw [nI_clamp (Nat.lt_trans hn hN)]; exact hv) d (kk H locs ls hP hD hS hl9)
theorem v_ti (X : vOk K cc own nL) {t N : Nat} {f : Nat → Value} (hT : va_T .int t N f (kA K) (kS K) (kS K).heap) {i : Int32} (j : Nat) (hj : i = nI j) (hn : j < N) (hN : N < 2 ^ 31) {v : Value} (hv : f j = v) (d : decode cc pc = .ok (.iaload, 1)) (e : pc + 1 = pc') (kk : V K nL ws n1 n2 pc' lv (v :: st)) : V K nL ws n1 n2 pc lv (.int i :: .ref t :: st) := by
  subst e hj
  exact fun H locs ls hP hD hS hl9 => va_ti X.x X.b hT hS (vp_in_nI hn hN) (by rw [nI_clamp (Nat.lt_trans hn hN)]; exact hv) d (kk H locs ls hP hD hS hl9)
theorem v_tb (X : vOk K cc own nL) {t N : Nat} {f : Nat → Value} (hT : va_T .byte t N f (kA K) (kS K) (kS K).heap) {i : Int32} (j : Nat) (hj : i = nI j) (hn : j < N) (hN : N < 2 ^ 31) {v : Value} (hv : f j = v) (d : decode cc pc = .ok (.baload, 1)) (e : pc + 1 = pc') (kk : V K nL ws n1 n2 pc' lv (v :: st)) : V K nL ws n1 n2 pc lv (.int i :: .ref t :: st) := by
  subst e hj
  exact fun H locs ls hP hD hS hl9 => va_tb X.x X.b hT hS (vp_in_nI hn hN) (by rw [nI_clamp (Nat.lt_trans hn hN)]; exact hv) d (kk H locs ls hP hD hS hl9)
theorem v_tlen (X : vOk K cc own nL) {ty : FieldType} {t N : Nat} {f : Nat → Value} (hT : va_T ty t N f (kA K) (kS K) (kS K).heap) {v : Int32} (hv : nI N = v) (d : decode cc pc = .ok (.arraylength, 1)) (e : pc + 1 = pc') (kk : V K nL ws n1 n2 pc' lv (.int v :: st)) : V K nL ws n1 n2 pc lv (.ref t :: st) := by
  subst e
  exact fun H locs ls hP hD hS hl9 => va_tlen X.x X.b hT hS hv d (kk H locs ls hP hD hS hl9)
theorem v_ofget (X : vOk K cc own nL) {o nm d9 ref : String} {v : Value} {a index : Nat} (hE : va_OF o nm d9 v a (kA K) (kS K) (kS K).heap) (hl : Cond.fieldLink own index ref nm d9 ∈ gw) (hr : o = ref) (d : decode cc pc = .ok (.getfield index, 3)) (e : pc + 3 = pc') (kk : V K nL ws n1 n2 pc' lv (v :: st)) : V K nL ws n1 n2 pc lv (.ref a :: st) := by
  subst e hr
  exact fun H locs ls hP hD hS hl9 => vk_getf X.x X.b hE hS X.o (X.w hl) (fun _ h9 => h9) d (kk H locs ls hP hD hS hl9)
theorem v_ofgetN (X : vOk K cc own nL) {o nm d9 ref host : String} {v : Value} {a index : Nat} (hE : va_OF o nm d9 v a (kA K) (kS K) (kS K).heap) (hl : (own, index, ref, nm, d9, host) ∈ vNF) (hr : o = ref) (d : decode cc pc = .ok (.getfield index, 3)) (e : pc + 3 = pc') (kk : V K nL ws n1 n2 pc' lv (v :: st)) : V K nL ws n1 n2 pc lv (.ref a :: st) := by
  subst e hr
  intro H locs ls hP hD hS hl9
  obtain ⟨cf, k, fi, f, cell, h1, h2, h3, h4, h5, h6⟩ := hE.kept hS.2.1
  exact va_Wgetf X.x X.b X.o (va_Nw.use rfl (X.n.1 _ hl)) h1 h2 h3 h4 (v := v) h5 rfl rfl d (kk H locs ls hP hD hS hl9)
/-- a virtual call on a constant object; x: the name that the call bears -/
theorem v_callU (X : vOk K cc own nL) {x y : MethodName} {bytes : ByteArray} {maxL n fr lo mc ms index b : Nat} {ret : Option FieldType} {As : List Value} {post : Option Value → va_W → Prop} {C owner : String} (hM : Ct (kL K) (kD K) (kY K) (kZ K) y bytes maxL ret fr lo (.ref b :: As) ws mc ms post) (hc : vCe y bytes maxL ret n) (hl : Cond.methodLink own index x ∈ gw) (hsm : Cond.sameMethod x.cls owner x.name x.desc ∈ gw) (hse : Cond.selects C x y ∈ gw) (him : Cond.instanceMethod y ∈ gw) (hyx : y = ⟨owner, x.name, x.desc⟩) (hx : owner ≠ "java/lang/invoke/MethodHandle" ∧ owner ≠ "java/lang/invoke/VarHandle" ∧ (parseMethodDescriptor x.desc).map (fun d => d.parameters.length) = some n)
    (hb : ∀ (H : Heap) (locs : List Loc), va_S (kA K) (kS K).heap H locs → ∃ cell : Cell, H[b]? = some cell ∧ cell.vm.isStatics = false ∧ (kS K).vm.findClass C = some cell.cls)
    (hR : fr + 1 ≤ (kR K).frames ∧ 8 + (maxL + 11) + lo ≤ (kR K).locals) (hn : As.length = n) (hst : st0 = As.reverse ++ .ref b :: st) (hW : (st.map fun v => v.category).sum ≤ 8) (d : decode cc pc = .ok (.invokevirtual index, 3)) (e : pc + 3 = pc') (hf : n1 + mc ≤ (kR K).cells ∧ n2 + ms ≤ (kR K).slots)
    (kk : ∀ (r : Option Value) (w : va_W), post r w → V K nL w (n1 + mc) (n2 + ms) pc' lv (r.toList ++ st)) : V K nL ws n1 n2 pc lv st0 := by
  have hG : GoodIn gw (va_wsU own index C owner x y (wsM y bytes maxL ret)) := fun w hw => by
    rcases List.mem_append.mp hw with hw | hw
    · have hw2 : w ∈ gw := by
        rcases List.mem_cons.mp hw with rfl | hw
        · exact hl
        · rcases List.mem_cons.mp hw with rfl | hw
          · exact hsm
          · rcases List.mem_cons.mp hw with rfl | hw
            · exact hse
            · rcases List.mem_cons.mp hw with rfl | hw
              · exact him
              · rcases List.mem_cons.mp hw with rfl | hw
                · exact hc.2.1
                · exact absurd hw (List.not_mem_nil)
      exact ⟨hw2, gw_good _ hw2⟩
    · exact gw_wsM hc.1 w hw
  intro H locs ls hP hD hS hl9
  exact v_run X hD hS hl9 (va_runU ⟨X.x, X.b, X.1.2.2.1, X.o, X.g⟩ (hM H.size) (va_cwU n X.g hG rfl rfl rfl hyx hx hR) ⟨vPre.blind, hb H locs hS, v_pre X hP hD hS⟩ rfl hn hl9.1 hst (lv_room hW) d hf) e kk
/-- .. of a method under its own name -/
theorem v_callZ (X : vOk K cc own nL) {y : MethodName} {bytes : ByteArray} {maxL n fr lo mc ms index b : Nat} {ret : Option FieldType} {As : List Value} {post : Option Value → va_W → Prop} {C : String} (hM : Ct (kL K) (kD K) (kY K) (kZ K) y bytes maxL ret fr lo (.ref b :: As) ws mc ms post) (hc : vCe y bytes maxL ret n) (hl : Cond.methodLink own index y ∈ gw) (him : Cond.instanceMethod y ∈ gw) (hse : Cond.selects C y y ∈ gw)
    (hb : ∀ (H : Heap) (locs : List Loc), va_S (kA K) (kS K).heap H locs → ∃ cell : Cell, H[b]? = some cell ∧ cell.vm.isStatics = false ∧ (kS K).vm.findClass C = some cell.cls)
    (hR : fr + 1 ≤ (kR K).frames ∧ 8 + (maxL + 11) + lo ≤ (kR K).locals) (hn : As.length = n) (hst : st0 = As.reverse ++ .ref b :: st) (hW : (st.map fun v => v.category).sum ≤ 8) (d : decode cc pc = .ok (.invokevirtual index, 3)) (e : pc + 3 = pc') (hf : n1 + mc ≤ (kR K).cells ∧ n2 + ms ≤ (kR K).slots)
    (kk : ∀ (r : Option Value) (w : va_W), post r w → V K nL w (n1 + mc) (n2 + ms) pc' lv (r.toList ++ st)) : V K nL ws n1 n2 pc lv st0 := by
  intro H locs ls hP hD hS hl9
  exact v_run X hD hS hl9 (va_runV ⟨X.x, X.b, X.1.2.2.1, X.o, X.g⟩ (hM H.size) ⟨vCe.callB X hc hl hR, X.w him, X.w hse⟩ ⟨vPre.blind, hb H locs hS, v_pre X hP hD hS⟩ rfl hn hl9.1 hst (lv_room hW) d hf) e kk
theorem zE_recv (X : vOk K cc own nL) {o : Nat} (ho : o < 30) : ∀ (H : Heap) (locs : List Loc), va_S (kA K) (kS K).heap H locs → ∃ cell : Cell, H[kZ K o]? = some cell ∧ cell.vm.isStatics = false ∧ (kS K).vm.findClass RX4 = some cell.cls := fun _ _ hS => va_recvE X.zE (show o < opN.length from ho) hS
theorem zS_recv (X : vOk K cc own nL) {t : Nat} (ht : t < 12) : ∀ (H : Heap) (locs : List Loc), va_S (kA K) (kS K).heap H locs → ∃ cell : Cell, H[kZ K (40 + t)]? = some cell ∧ cell.vm.isStatics = false ∧ (kS K).vm.findClass RJ0 = some cell.cls := fun _ _ hS => vk_recv (adK := fun i => kZ K (40 + i)) X.zS ht hS
theorem zE_inj (X : vOk K cc own nL) {o o2 : Nat} (ho : o < 30) (ho2 : o2 < 30) (h : kZ K o = kZ K o2) : o = o2 := X.zE.2 o o2 ho ho2 h
theorem zE_ord (X : vOk K cc own nL) {o : Nat} (ho : o < 30) : va_OF "java/lang/Enum" "ordinal" "I" (.int (nI o)) (kZ K o) (kA K) (kS K) (kS K).heap := by
  have h1 := (X.zE.1 o ho).2.2 _ (List.mem_cons_self)
  have h2 : ∀ q, q < 30 → ([0, 1, 2, 3, 4, 5, 6, 7, 8, 9, 10, 11, 12, 13, 14, 15, 16, 17, 18, 19, 20, 21, 22, 23, 24, 25, 26, 27, 28, 29] : List Int32).getD q 0 = nI q := by decide
  rw [← h2 o ho]; exact h1
theorem zE_whr (X : vOk K cc own nL) {o : Nat} (ho : o < 30) : va_OF RX4 "where" "I" (.int (opW.getD o 0)) (kZ K o) (kA K) (kS K) (kS K).heap := (X.zE.1 o ho).2.2 _ (List.mem_cons_of_mem _ List.mem_cons_self)
end ZROWS
theorem c_ordinal {l : Launch} {D : va_G} {Y : Nat → ClassId} {zz : Nat → Nat} {ws : va_W} {o : Nat} (ho : o < 30) : Ct l D Y zz yJx29ce0_ordinal_8abf5 cJx29ce0_ordinal_8abf5 1 (some FieldType.int) 0 0 [.ref (zz o)] ws 0 0 (fun r w => r = some (.int (nI o)) ∧ w = ws) := by
  refine v_entry (by decide +kernel) (Nat.le_of_ble_eq_true rfl) ?_
  intro K X R hR hnm hl hD hY hz
  subst hl hD hY hz
  refine v_sub (lv' := [(0, .ref (kZ K o))]) [0] rfl ?_
  refine v_aload_n (pc' := 1) (i := 0) (j := 0) X dJx29ce0_ordinal_8abf5_0 rfl rfl rfl ?_
  refine v_ofget (pc' := 4) X (zE_ord X ho) w_fl_Jx29ce0_7 rfl dJx29ce0_ordinal_8abf5_1 rfl ?_
  refine v_ireturn X R (Nat.zero_le _) (Nat.zero_le _) dJx29ce0_ordinal_8abf5_4 ?_
  exact ⟨rfl, rfl⟩
theorem c_isLatin1 {l : Launch} {D : va_G} {Y : Nat → ClassId} {zz : Nat → Nat} {ws : va_W} {t : Nat} (ht : t < 12) : Ct l D Y zz yJ0_isLatin1_aae02 cJ0_isLatin1_aae02 1 (some FieldType.boolean) 0 0 [.ref (zz (40 + t))] ws 0 0 (fun r w => r = some (.int 1) ∧ w = ws) := by
  refine v_entry (by decide +kernel) (Nat.le_of_ble_eq_true rfl) ?_
  intro K X R hR hnm hl hD hY hz
  subst hl hD hY hz
  refine v_sub (lv' := [(0, .ref (kZ K (40 + t)))]) [0] rfl ?_
  refine v_gets (pc' := 3) X X.zC w_fl_J0_38 rfl dJ0_isLatin1_aae02_0 rfl ?_
  refine v_if_eq (pc' := 6) (tgt := 17) X dJ0_isLatin1_aae02_3 (by decide) rfl (fun h9 => absurd h9 (by decide)) (fun _ => ?_)
  refine v_aload_n (pc' := 7) (i := 0) (j := 0) X dJ0_isLatin1_aae02_6 rfl rfl rfl ?_
  refine v_ofget (pc' := 10) X (X.zS.1 t ht).2.1 w_fl_J0_15 rfl dJ0_isLatin1_aae02_7 rfl ?_
  refine v_if_ne (pc' := 13) (tgt := 17) X dJ0_isLatin1_aae02_10 (by decide) rfl (fun h9 => absurd rfl h9) (fun _ => ?_)
  refine v_iconst (pc' := 14) (v := 1) X dJ0_isLatin1_aae02_13 (by decide) rfl ?_
  refine v_goto (pc' := 18) X dJ0_isLatin1_aae02_14 (by decide) ?_
  refine v_zreturn X R (by decide) (Nat.zero_le _) (Nat.zero_le _) dJ0_isLatin1_aae02_18 ?_
  exact ⟨rfl, rfl⟩
theorem c_J3_check {l : Launch} {D : va_G} {Y : Nat → ClassId} {zz : Nat → Nat} {ws : va_W} {k m : Nat} (hkm : k < m) (hm : m < 2 ^ 31) {v : Value} (hv : v = .null ∨ ∃ t, v = .ref t) : Ct l D Y zz yJ3_checkIndex_8e157 cJ3_checkIndex_8e157 3 (some FieldType.int) 0 0 [.int (nI k), .int (nI m), v] ws 0 0 (fun r w => r = some (.int (nI k)) ∧ w = ws) := by
  refine v_entry (by decide +kernel) (by rcases hv with rfl | ⟨t, rfl⟩ <;> exact Nat.le_of_ble_eq_true rfl) ?_
  intro K X R hR hnm hl hD hY hz
  subst hl hD hY hz
  refine v_sub (lv' := [(0, .int (nI k)), (1, .int (nI m))]) [0, 1] rfl ?_
  refine v_iload_n (pc' := 1) (i := 0) (j := 0) X dJ3_checkIndex_8e157_0 rfl rfl rfl ?_
  refine v_if_lt (pc' := 4) (tgt := 9) X dJ3_checkIndex_8e157_1 (by decide) rfl (fun hc_1 => absurd hc_1 (nI_pos (by omega))) (fun _ => ?_)
  refine v_iload_n (pc' := 5) (i := 0) (j := 0) X dJ3_checkIndex_8e157_4 rfl rfl rfl ?_
  refine v_iload_n (pc' := 6) (i := 1) (j := 1) X dJ3_checkIndex_8e157_5 rfl rfl rfl ?_
  refine v_icmp_lt (pc' := 9) (tgt := 16) X dJ3_checkIndex_8e157_6 (by decide) rfl (fun _ => ?_) (fun hc_6 => absurd (nI_lt hkm hm) hc_6)
  refine v_iload_n (pc' := 17) (i := 0) (j := 0) X dJ3_checkIndex_8e157_16 rfl rfl rfl ?_
  refine v_ireturn X R (Nat.zero_le _) (Nat.zero_le _) dJ3_checkIndex_8e157_17 ?_
  exact ⟨rfl, rfl⟩
theorem c_J0_check {l : Launch} {D : va_G} {Y : Nat → ClassId} {zz : Nat → Nat} {ws : va_W} {k m : Nat} (hkm : k < m) (hm : m < 2 ^ 31) : Ct l D Y zz yJ0_checkIndex_df160 cJ0_checkIndex_df160 2 none 1 22 [.int (nI k), .int (nI m)] ws 0 0 (fun r w => r = none ∧ w = ws) := by
  refine v_entry (by decide +kernel) (Nat.le_of_ble_eq_true rfl) ?_
  intro K X R hR hnm hl hD hY hz
  subst hl hD hY hz
  refine v_sub (lv' := [(0, .int (nI k)), (1, .int (nI m))]) [0, 1] rfl ?_
  refine v_iload_n (pc' := 1) (i := 0) (j := 0) X dJ0_checkIndex_df160_0 rfl rfl rfl ?_
  refine v_iload_n (pc' := 2) (i := 1) (j := 1) X dJ0_checkIndex_df160_1 rfl rfl rfl ?_
  obtain ⟨v9, hv9, hz9⟩ : ∃ v : Value, (v = .null ∨ ∃ t, v = .ref t) ∧ va_Z "jdk/internal/util/Preconditions" "SIOOBE_FORMATTER" "Ljava/util/function/BiFunction;" v (kA K) (kS K) (kS K).heap := by
    rcases X.zI with h9 | ⟨t9, h9⟩
    · exact ⟨.null, Or.inl rfl, h9⟩
    · exact ⟨.ref t9, Or.inr ⟨t9, rfl⟩, h9⟩
  refine v_gets (pc' := 5) X hz9 w_fl_J0_1053 rfl dJ0_checkIndex_df160_2 rfl ?_
  refine v_callS (pc' := 8) X (st := []) (c_J3_check hkm hm hv9) k_J3_checkIndex_8e157 w_ml_J0_1059 w_st_J3_checkIndex_8e157 (by rw [hR]; exact ⟨Nat.le_of_ble_eq_true rfl, Nat.le_of_ble_eq_true rfl⟩) rfl rfl (Nat.le_of_ble_eq_true rfl) dJ0_checkIndex_df160_5 rfl (⟨Nat.zero_le _, Nat.zero_le _⟩) ?_
  rintro _ _ ⟨rfl, rfl⟩
  refine v_pop (pc' := 9) X dJ0_checkIndex_df160_8 rfl rfl ?_
  refine v_return X R (Nat.zero_le _) (Nat.zero_le _) dJ0_checkIndex_df160_9 ?_
  exact ⟨rfl, rfl⟩
/-- the sign at place k of text t -/
def sgn (t k : Nat) : Int32 := (opB.getD t []).getD k 0
theorem sgn_c : ∀ t, t < 12 → ∀ k, k < 3 → ((sgn t k &&& 255).toUInt32 % 65536).toInt32 = sgn t k := by decide
theorem sgn_n : ∀ t, t < 12 → ∀ k, k < 3 → narrow .char (.int (sgn t k)) = .int (sgn t k) := by decide
theorem opL_3 : ∀ t, t < 12 → opL.getD t 0 = 3 := by decide
theorem c_J1_charAt {l : Launch} {D : va_G} {Y : Nat → ClassId} {zz : Nat → Nat} {ws : va_W} {t k : Nat} (ht : t < 12) (hk : k < 3) : Ct l D Y zz yJ1_charAt_3b067 cJ1_charAt_3b067 2 (some FieldType.char) 2 43 [.ref (zz (60 + t)), .int (nI k)] ws 0 0 (fun r w => r = some (.int (sgn t k)) ∧ w = ws) := by
  refine v_entry (by decide +kernel) (Nat.le_of_ble_eq_true rfl) ?_
  intro K X R hR hnm hl hD hY hz
  subst hl hD hY hz
  have hT := (X.zS.1 t ht).2.2.2
  rw [opL_3 t ht] at hT
  refine v_sub (lv' := [(0, .ref (kZ K (60 + t))), (1, .int (nI k))]) [0, 1] rfl ?_
  refine v_iload_n (pc' := 1) (i := 1) (j := 1) X dJ1_charAt_3b067_0 rfl rfl rfl ?_
  refine v_aload_n (pc' := 2) (i := 0) (j := 0) X dJ1_charAt_3b067_1 rfl rfl rfl ?_
  refine v_tlen (pc' := 3) X hT rfl dJ1_charAt_3b067_2 rfl ?_
  refine v_callS (pc' := 6) X (st := []) (c_J0_check (m := 3) hk (by decide)) k_J0_checkIndex_df160 w_ml_J1_9 w_st_J0_checkIndex_df160 (by rw [hR]; exact ⟨Nat.le_of_ble_eq_true rfl, Nat.le_of_ble_eq_true rfl⟩) rfl rfl (Nat.le_of_ble_eq_true rfl) dJ1_charAt_3b067_3 rfl (⟨Nat.zero_le _, Nat.zero_le _⟩) ?_
  rintro _ _ ⟨rfl, rfl⟩
  refine v_aload_n (pc' := 7) (i := 0) (j := 0) X dJ1_charAt_3b067_6 rfl rfl rfl ?_
  refine v_iload_n (pc' := 8) (i := 1) (j := 1) X dJ1_charAt_3b067_7 rfl rfl rfl ?_
  refine v_tb (pc' := 9) X hT k rfl hk (by decide) rfl dJ1_charAt_3b067_8 rfl ?_
  refine v_sipush (pc' := 12) (v := 255) X dJ1_charAt_3b067_9 (by decide) rfl ?_
  refine v_iand (pc' := 13) X dJ1_charAt_3b067_12 rfl ?_
  refine v_i2c (pc' := 14) (v := sgn t k) X dJ1_charAt_3b067_13 (sgn_c t ht k hk) rfl ?_
  refine v_zreturn X R (sgn_n t ht k hk) (Nat.zero_le _) (Nat.zero_le _) dJ1_charAt_3b067_14 ?_
  exact ⟨rfl, rfl⟩
theorem c_charAt {l : Launch} {D : va_G} {Y : Nat → ClassId} {zz : Nat → Nat} {ws : va_W} {t k : Nat} (ht : t < 12) (hk : k < 3) : Ct l D Y zz yJ0_charAt_5068e cJ0_charAt_5068e 2 (some FieldType.char) 3 64 [.ref (zz (40 + t)), .int (nI k)] ws 0 0 (fun r w => r = some (.int (sgn t k)) ∧ w = ws) := by
  refine v_entry (by decide +kernel) (Nat.le_of_ble_eq_true rfl) ?_
  intro K X R hR hnm hl hD hY hz
  subst hl hD hY hz
  refine v_sub (lv' := [(0, .ref (kZ K (40 + t))), (1, .int (nI k))]) [0, 1] rfl ?_
  refine v_aload_n (pc' := 1) (i := 0) (j := 0) X dJ0_charAt_5068e_0 rfl rfl rfl ?_
  refine v_callZ (pc' := 4) X (st := []) (c_isLatin1 ht) k_J0_isLatin1_aae02 w_ml_J0_492 w_im_J0_isLatin1_aae02 w_se_J0_J0_isLatin1_aae02 (zS_recv X ht) (by rw [hR]; exact ⟨Nat.le_of_ble_eq_true rfl, Nat.le_of_ble_eq_true rfl⟩) rfl rfl (Nat.le_of_ble_eq_true rfl) dJ0_charAt_5068e_1 rfl (⟨Nat.zero_le _, Nat.zero_le _⟩) ?_
  rintro _ _ ⟨rfl, rfl⟩
  refine v_if_eq (pc' := 7) (tgt := 16) X dJ0_charAt_5068e_4 (by decide) rfl (fun h9 => absurd h9 (by decide)) (fun _ => ?_)
  refine v_aload_n (pc' := 8) (i := 0) (j := 0) X dJ0_charAt_5068e_7 rfl rfl rfl ?_
  refine v_ofget (pc' := 11) X (X.zS.1 t ht).2.2.1 w_fl_J0_9 rfl dJ0_charAt_5068e_8 rfl ?_
  refine v_iload_n (pc' := 12) (i := 1) (j := 1) X dJ0_charAt_5068e_11 rfl rfl rfl ?_
  refine v_callS (pc' := 15) X (st := []) (c_J1_charAt ht hk) k_J1_charAt_3b067 w_ml_J0_495 w_st_J1_charAt_3b067 (by rw [hR]; exact ⟨Nat.le_of_ble_eq_true rfl, Nat.le_of_ble_eq_true rfl⟩) rfl rfl (Nat.le_of_ble_eq_true rfl) dJ0_charAt_5068e_12 rfl (⟨Nat.zero_le _, Nat.zero_le _⟩) ?_
  rintro _ _ ⟨rfl, rfl⟩
  refine v_zreturn X R (sgn_n t ht k hk) (Nat.zero_le _) (Nat.zero_le _) dJ0_charAt_5068e_15 ?_
  exact ⟨rfl, rfl⟩
