/-! THE START: what the Statement gives of it -/
theorem na_fi {args : Array Value} {s : State} {t u : Term} {C c n d : String} {x y : Int32} (ht : (Cond.exactly t C).before args s = true) (hu : (Cond.exactly u C).before args s = true) (hx : (Cond.eq (.field t c n d) (.int x)).before args s = true) (hy : (Cond.eq (.field u c n d) (.int y)).before args s = true) (hxy : x ≠ y) : (Cond.not (Cond.eq t u)).before args s = true := by
  obtain ⟨a, -, -, -, q1, -⟩ := Cond.exactly_spec (args := args) (first := s) (o := none) (s := s) (idx := []) (t := t) (cls := C) ht
  obtain ⟨a', -, -, -, q2, -⟩ := Cond.exactly_spec (args := args) (first := s) (o := none) (s := s) (idx := []) (t := u) (cls := C) hu
  have h1 := va_eqt hx
  have h2 := va_eqt hy
  rw [va_fe q1] at h1
  rw [va_fe q2] at h2
  have hne : a ≠ a' := by
    rintro rfl
    exact hxy (by simpa using h1.symm.trans h2)
  simp [Cond.before, Cond.holds, Cond.value, q1, q2, hne]
theorem na_el {args : Array Value} {s : State} {t u : Term} {C c n d : String} {k x y : Int32} (ht : (Cond.exactly t C).before args s = true) (hu : (Cond.exactly u C).before args s = true) (hx : (Cond.eq (.elem (.field t c n d) (.int k)) (.int x)).before args s = true) (hy : (Cond.eq (.elem (.field u c n d) (.int k)) (.int y)).before args s = true) (hxy : x ≠ y) : (Cond.not (Cond.eq t u)).before args s = true := by
  obtain ⟨a, -, -, -, q1, -⟩ := Cond.exactly_spec (args := args) (first := s) (o := none) (s := s) (idx := []) (t := t) (cls := C) ht
  obtain ⟨a', -, -, -, q2, -⟩ := Cond.exactly_spec (args := args) (first := s) (o := none) (s := s) (idx := []) (t := u) (cls := C) hu
  have h1 := va_eqt hx
  have h2 := va_eqt hy
  have hne : a ≠ a' := by
    rintro rfl
    have e : (Term.elem (.field t c n d) (.int k)).eval args s none [] s = (Term.elem (.field u c n d) (.int k)).eval args s none [] s := by
      simp only [Term.eval, q1, q2]
    exact hxy (by simpa using h1.symm.trans (e.trans h2))
  simp [Cond.before, Cond.holds, Cond.value, q1, q2, hne]
theorem va_T.eqf {ty : FieldType} {t N : Nat} {f g : Nat → Value} {A : Nat → Prop} {U : State} {H : Heap} (h : va_T ty t N f A U H) (he : ∀ j, j < N → f j = g j) : va_T ty t N g A U H := by
  obtain ⟨cell, h1, h2, h3, h4, h5, h6, h7⟩ := h
  exact ⟨cell, h1, h2, h3, h4, h5, fun j hj => (h6 j hj).trans (congrArg some (he j hj)), h7⟩
/-- the words of the start -/
def nw : List Cond := flatC (Jvm.Cond.and given_1 narrow_1)
abbrev opD : String := "LAtomicRuntime$Op;"
abbrev opO : List Int32 := [0, 1, 2, 3, 4, 5, 6, 7, 8, 9, 10, 11, 12, 13, 14, 15, 16, 17, 18, 19, 20, 21, 22, 23, 24, 25, 26, 27, 28, 29]
theorem st_1 : ∀ i, i < opN.length → Cond.laysStatic RX4 (opN.getD i "") opD ∈ lw_tbl := by decide +kernel
theorem st_2 : ∀ i, i < opN.length → Cond.exactly (.static RX4 (opN.getD i "") opD) RX4 ∈ nw := by decide +kernel
theorem st_3 : ∀ q ∈ opF, ∀ i, i < opN.length → Cond.eq (.field (.static RX4 (opN.getD i "") opD) q.1 q.2.1 q.2.2.1) (.int (q.2.2.2.getD i 0)) ∈ nw := by decide +kernel
theorem st_4 : ∀ i, i < 30 → ∀ j, j < 30 → i ≠ j → opO.getD i 0 ≠ opO.getD j 0 := by decide +kernel
theorem st_5 : ∀ i, i < 30 → Cond.eq (.field (.static RX4 (opN.getD i "") opD) RX4 "operands" "Ljava/lang/String;") (.string RX4 (opE.getD (opS.getD i 0) 0)) ∈ nw := by decide +kernel
theorem st_6 : ∀ i, i < 30 → opS.getD i 0 < 12 := by decide +kernel
theorem st_7 : ∀ j, j < 30 → Cond.eq (.elem (.static RX4 "ALL" "[LAtomicRuntime$Op;") (.int (Int32.ofNat j))) (.static RX4 (opN.getD j "") opD) ∈ nw := by decide +kernel
theorem st_8 : ∀ j, j < 30 → Cond.eq (.elem (.static "AtomicRuntime$1" "$SwitchMap$AtomicRuntime$Op" "[I") (.int (Int32.ofNat j))) (.int (opM.getD j 0)) ∈ nw := by decide +kernel
theorem st_9 : ∀ i, i < 12 → Cond.exactly (.string RX4 (opE.getD i 0)) "java/lang/String" ∈ nw := by decide +kernel
theorem st_10 : ∀ i, i < 12 → Cond.eq (.field (.string RX4 (opE.getD i 0)) "java/lang/String" "coder" "B") (.int 0) ∈ nw := by decide +kernel
theorem st_11 : ∀ i, i < 12 → Cond.arrayOf (.field (.string RX4 (opE.getD i 0)) "java/lang/String" "value" "[B") .byte ∈ nw := by decide +kernel
theorem st_12 : ∀ i, i < 12 → Cond.eq (.length (.field (.string RX4 (opE.getD i 0)) "java/lang/String" "value" "[B")) (.int (Int32.ofNat (opL.getD i 0))) ∈ nw := by decide +kernel
theorem st_13 : ∀ i, i < 12 → ∀ j, j < opL.getD i 0 → Cond.eq (.elem (.field (.string RX4 (opE.getD i 0)) "java/lang/String" "value" "[B") (.int (Int32.ofNat j))) (.int ((opB.getD i []).getD j 0)) ∈ nw := by decide +kernel
theorem st_14 : ∀ i, i < 12 → ∀ j, j < 12 → i ≠ j → ∃ k ∈ [0, 1, 2], (k < opL.getD i 0 ∧ k < opL.getD j 0) ∧ (opB.getD i []).getD k 0 ≠ (opB.getD j []).getD k 0 := by decide +kernel
theorem st_15 : ∀ i, i < 12 → opL.getD i 0 < 2 ^ 31 := by decide +kernel
theorem st_en {args : Array Value} {s : State} {A : Nat → Prop} (hg : ∀ w ∈ lw_tbl, w.before args s = true) (hs : ∀ w ∈ nw, w.before args s = true) (hA : ∀ a : Nat, a < s.heap.size → ¬ A a) : ∃ ad : Nat → Nat, va_En RX4 opD opN opF ad A s s.heap ∧ ∀ i, i < opN.length → (Term.static RX4 (opN.getD i "") opD).eval args s none [] s = some (.ref (ad i)) :=
  va_Enof2 (fun i hi => hg _ (st_1 i hi)) (hg (.initialized RX4) (by decide +kernel)) (fun i hi => hs _ (st_2 i hi)) (fun q hq i hi => hs _ (st_3 q hq i hi)) (fun i j hi hj hij => Or.inl (na_fi (hs _ (st_2 i hi)) (hs _ (st_2 j hj)) (hs _ (st_3 ("java/lang/Enum", "ordinal", "I", opO) List.mem_cons_self i hi)) (hs _ (st_3 ("java/lang/Enum", "ordinal", "I", opO) List.mem_cons_self j hj)) (st_4 i hi j hj hij))) hA
theorem st_s {args : Array Value} {s : State} {A : Nat → Prop} (hs : ∀ w ∈ nw, w.before args s = true) (hA : ∀ a : Nat, a < s.heap.size → ¬ A a) : ∃ adK adV : Nat → Nat, vk_S 12 opL opB adK adV A s s.heap ∧ ∀ i : Nat, i < 12 → (Term.string RX4 (opE.getD i 0)).eval args s none [] s = some (.ref (adK i)) :=
  vk_Sof (tm := fun i => .string RX4 (opE.getD i 0)) st_15 (fun i hi => hs _ (st_9 i hi)) (fun i hi => hs _ (st_10 i hi)) (fun i hi => hs _ (st_11 i hi)) (fun i hi => hs _ (st_12 i hi)) (fun i hi j hj => hs _ (st_13 i hi j hj)) (fun i j hi hj hij => Or.inl (by
    obtain ⟨k, -, ⟨h1, h2⟩, h3⟩ := st_14 i hi j hj hij
    exact na_el (hs _ (st_9 i hi)) (hs _ (st_9 j hj)) (hs _ (st_13 i hi k h1)) (hs _ (st_13 j hj k h2)) h3)) hA
