/-! THE STATICS AT THE START -/
def zf (e k v : Nat → Nat) (a b c d : Nat) : Nat → Nat := fun i => if i < 30 then e i else if i = 30 then a else if i = 31 then b else if i = 32 then c else if i < 40 then d else if i < 60 then k (i - 40) else v (i - 60)
theorem zf_e {e k v : Nat → Nat} {a b c d i : Nat} (h : i < 30) : zf e k v a b c d i = e i := if_pos h
theorem zf_k {e k v : Nat → Nat} {a b c d i : Nat} (h : i < 12) : zf e k v a b c d (40 + i) = k i := by
  unfold zf
  rw [if_neg (by omega), if_neg (by omega), if_neg (by omega), if_neg (by omega), if_neg (by omega), if_pos (by omega), Nat.add_sub_cancel_left]
theorem zf_v {e k v : Nat → Nat} {a b c d i : Nat} (h : i < 12) : zf e k v a b c d (60 + i) = v i := by
  unfold zf
  rw [if_neg (by omega), if_neg (by omega), if_neg (by omega), if_neg (by omega), if_neg (by omega), if_neg (by omega), Nat.add_sub_cancel_left]
theorem st_z {args : Array Value} {s : State} {A : Nat → Prop} (hg : ∀ w ∈ lw_tbl, w.before args s = true) (hs : ∀ w ∈ nw, w.before args s = true) (hA : ∀ a : Nat, a < s.heap.size → ¬ A a) : ∃ z : Nat → Nat, vZ z A s s.heap ∧ va_Mi "[Ljava/lang/Object;" (z 33) s := by
  obtain ⟨e, he, hev⟩ := st_en hg hs hA
  obtain ⟨k, v, hk, hkv⟩ := st_s hs hA
  obtain ⟨a, hav, ha⟩ := va_Tof (tm := .static RX4 "ALL" "[LAtomicRuntime$Op;") (ty := .object RX4) (N := 30) (f := fun j => .ref (e j)) (A := A) (by decide) (hs _ (by decide +kernel)) (va_eqt (hs _ (by decide +kernel))) (fun j hj => va_eqv (hs _ (st_7 j hj)) (hev j hj)) hA
  obtain ⟨b, hbv, hb⟩ := va_Tof (tm := .static "AtomicRuntime$1" "$SwitchMap$AtomicRuntime$Op" "[I") (ty := .int) (N := 30) (f := fun j => .int (opM.getD j 0)) (A := A) (by decide) (hs _ (by decide +kernel)) (va_eqt (hs _ (by decide +kernel))) (fun j hj => va_eqt (hs _ (st_8 j hj))) hA
  obtain ⟨c, hcv, hc⟩ := va_Tof (tm := .static "java/util/ArrayList" "DEFAULTCAPACITY_EMPTY_ELEMENTDATA" "[Ljava/lang/Object;") (ty := .object "java/lang/Object") (N := 0) (f := fun _ => .null) (A := A) (by decide) (hs _ (by decide +kernel)) (va_eqt (hs _ (by decide +kernel))) (fun j hj => absurd hj (Nat.not_lt_zero j)) hA
  obtain ⟨d, hd⟩ := va_Mi.of (C := "[Ljava/lang/Object;") (hs _ (by decide +kernel))
  refine ⟨zf e k v a b c d, ⟨⟨fun i hi => ?_, fun i j hi hj h => ?_⟩, ?_, ?_, ?_, ?_, ?_, ⟨fun i hi => ?_, fun i j hi hj h => ?_⟩, ?_, ?_, ?_, ?_, ?_, ?_⟩, hd⟩
  · rw [zf_e (show i < 30 from hi)]; exact he.1 i hi
  · rw [zf_e (show i < 30 from hi), zf_e (show j < 30 from hj)] at h; exact he.2 i j hi hj h
  · refine va_Efof (nm := opN) (d0 := opD) (tm := fun i => .string RX4 (opE.getD (opS.getD i 0) 0)) (fun i hi => ?_) (fun i hi => hs _ (st_5 i hi)) (fun i hi => ?_) hA
    · rw [zf_e hi]; exact hev i hi
    · show _ = some (Value.ref (zf e k v a b c d (40 + opS.getD i 0)))
      rw [zf_k (st_6 i hi)]; exact hkv _ (st_6 i hi)
  · exact va_Zref (hg _ (by decide +kernel)) (hg _ (by decide +kernel)) hav hA
  · exact ha.eqf (fun j hj => by show Value.ref (e j) = Value.ref (zf e k v a b c d j); rw [zf_e hj])
  · exact va_Zref (hg _ (by decide +kernel)) (hg _ (by decide +kernel)) hbv hA
  · exact hb
  · have e1 : zf e k v a b c d (40 + i) = k i := zf_k hi
    have e2 : zf e k v a b c d (60 + i) = v i := zf_v hi
    simp only [e1, e2]
    exact hk.1 i hi
  · have e1 : zf e k v a b c d (40 + i) = k i := zf_k hi
    have e2 : zf e k v a b c d (40 + j) = k j := zf_k hj
    exact hk.2 i j hi hj (e1.symm.trans (h.trans e2))
  · exact va_Zref (hg _ (by decide +kernel)) (hg _ (by decide +kernel)) hcv hA
  · exact hc
  · exact va_Zof (hg _ (by decide +kernel)) (hg _ (by decide +kernel)) (va_eqi (hs _ (by decide +kernel))) hA
  · exact vx_Zqof (hg _ (by decide +kernel)) (hg _ (by decide +kernel)) (hs _ (by decide +kernel)) hA
  · exact vx_Zqof (hg _ (by decide +kernel)) (hg _ (by decide +kernel)) (hs _ (by decide +kernel)) hA
  · exact va_Zqof (hg _ (by decide +kernel)) (hg _ (by decide +kernel)) (hs _ (by decide +kernel)) hA
