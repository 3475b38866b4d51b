/-! FORK (reference): a new task's codes come to the pool -/
abbrev wM2 (Y : Nat → ClassId) (na n : Nat) (ad : Nat → Nat) (M : vM) : va_W := pM (cM na ad Y) (csM n) ad M
section MACC2
variable {K : vKt} {cc : ByteArray} {nL n1 n2 pc pc' : Nat} {lv : List (Nat × Value)} {st : List Value} {na n : Nat} {ad : Nat → Nat} {M : vM} {i : Nat}
theorem fg_X9_105N (X : vOk K cc RX9 nL) (hi : i < n) (d : decode cc pc = .ok (.getfield 105, 3)) (e : pc + 3 = pc') (kk : V K nL (wM2 (kY K) na n ad M) n1 n2 pc' lv (.ref (ad (tb i + 8)) :: st)) : V K nL (wM2 (kY K) na n ad M) n1 n2 pc lv (.ref (ad (tb i)) :: st) := p_get X inX8 (mT_0 hi) (hT_0 _ _) rfl 8 (by decide) w_fl_X9_105 rfl rfl d e kk
theorem fg_X9_28N (X : vOk K cc RX9 nL) (d : decode cc pc = .ok (.getfield 28, 3)) (e : pc + 3 = pc') (kk : V K nL (wM2 (kY K) na n ad M) n1 n2 pc' lv (.ref (ad (13)) :: st)) : V K nL (wM2 (kY K) na n ad M) n1 n2 pc lv (.ref (ad (0)) :: st) := p_get X inX9 mM_0 (hM_0 _ _) rfl 13 (by decide) w_fl_X9_28 rfl rfl d e kk
theorem fg_X9_69N (X : vOk K cc RX9 nL) (hi : i < n) {v : Int32} (hv : M.1 (tb i) 2 = v) (d : decode cc pc = .ok (.getfield 69, 3)) (e : pc + 3 = pc') (kk : V K nL (wM2 (kY K) na n ad M) n1 n2 pc' lv (.int v :: st)) : V K nL (wM2 (kY K) na n ad M) n1 n2 pc lv (.ref (ad (tb i)) :: st) := p_get X inX8 (mT_0 hi) (hT_0 _ _) rfl 2 (by decide) w_fl_X9_69 rfl (v := .int v) (by rw [← hv]; rfl) d e kk
theorem fp_X9_69N (X : vOk K cc RX9 nL) (hi : i < n) {v : Int32} (d : decode cc pc = .ok (.putfield 69, 3)) (e : pc + 3 = pc') (kk : V K nL (wM2 (kY K) na n ad (mI M (tb i) 2 v)) n1 n2 pc' lv st) : V K nL (wM2 (kY K) na n ad M) n1 n2 pc lv (.int v :: .ref (ad (tb i)) :: st) := p_put X inX8 tyX8 tyX8_ok nmX8 (mT_0 hi) (F := FT ad (tb i)) hT_0 rfl 2 (by decide) w_fl_X9_69 rfl rfl (by decide +kernel) (fun _ => rfl) (fun _ => Nat.le_of_ble_eq_true rfl) d e kk
theorem fg_X9_7N (X : vOk K cc RX9 nL) {v : Int32} (hv : M.1 (0) 2 = v) (d : decode cc pc = .ok (.getfield 7, 3)) (e : pc + 3 = pc') (kk : V K nL (wM2 (kY K) na n ad M) n1 n2 pc' lv (.int v :: st)) : V K nL (wM2 (kY K) na n ad M) n1 n2 pc lv (.ref (ad (0)) :: st) := p_get X inX9 mM_0 (hM_0 _ _) rfl 2 (by decide) w_fl_X9_7 rfl (v := .int v) (by rw [← hv]; rfl) d e kk
theorem ag_T8N {own : String} (X : vOk K cc own nL) (hi : i < n) {ix : Int32} (j : Nat) (hj : ix = nI j) (hn : j < 16) {v : Int64} (hv : M.2 (tb i + 8) j = v) (d : decode cc pc = .ok (.laload, 1)) (e : pc + 1 = pc') (kk : V K nL (wM2 (kY K) na n ad M) n1 n2 pc' lv (.long v :: st)) : V K nL (wM2 (kY K) na n ad M) n1 n2 pc lv (.int ix :: .ref (ad (tb i + 8)) :: st) := p_lald X (mT_8 hi) hT_8 j hj hn (by decide) hv d e kk
theorem as_T8N {own : String} (X : vOk K cc own nL) (hi : i < n) {ix : Int32} {x : Int64} (j : Nat) (hj : ix = nI j) (hn : j < 16) (d : decode cc pc = .ok (.lastore, 1)) (e : pc + 1 = pc') (kk : V K nL (wM2 (kY K) na n ad (mL M (tb i + 8) j x)) n1 n2 pc' lv st) : V K nL (wM2 (kY K) na n ad M) n1 n2 pc lv (.long x :: .int ix :: .ref (ad (tb i + 8)) :: st) := p_last X (mT_8 hi) hT_8 j hj hn (by decide) d e kk
end MACC2
def adF (ad : Nat → Nat) (n : Nat) (q a8 a9 a10 a11 a12 a13 a14 a15 a16 a17 : Nat) : Nat → Nat := fun c => if c = tb n then q else if c = tb n + 8 then a8 else if c = tb n + 9 then a9 else if c = tb n + 10 then a10 else if c = tb n + 11 then a11 else if c = tb n + 12 then a12 else if c = tb n + 13 then a13 else if c = tb n + 14 then a14 else if c = tb n + 15 then a15 else if c = tb n + 16 then a16 else if c = tb n + 17 then a17 else ad c
section FORKW
variable {ad : Nat → Nat} {Y : Nat → ClassId} {M : vM} {n q a8 a9 a10 a11 a12 a13 a14 a15 a16 a17 : Nat}
theorem adF_o {c : Nat} (h : c < tb n) : adF ad n q a8 a9 a10 a11 a12 a13 a14 a15 a16 a17 c = ad c := by
  unfold adF
  rw [if_neg (by omega), if_neg (by omega), if_neg (by omega), if_neg (by omega), if_neg (by omega), if_neg (by omega), if_neg (by omega), if_neg (by omega), if_neg (by omega), if_neg (by omega), if_neg (by omega)]
theorem adF_0 : adF ad n q a8 a9 a10 a11 a12 a13 a14 a15 a16 a17 (tb n) = q := if_pos rfl
theorem adF_8 : adF ad n q a8 a9 a10 a11 a12 a13 a14 a15 a16 a17 (tb n + 8) = a8 := by
  unfold adF
  rw [if_neg (by omega), if_pos rfl]
theorem adF_9 : adF ad n q a8 a9 a10 a11 a12 a13 a14 a15 a16 a17 (tb n + 9) = a9 := by
  unfold adF
  rw [if_neg (by omega), if_neg (by omega), if_pos rfl]
theorem adF_10 : adF ad n q a8 a9 a10 a11 a12 a13 a14 a15 a16 a17 (tb n + 10) = a10 := by
  unfold adF
  rw [if_neg (by omega), if_neg (by omega), if_neg (by omega), if_pos rfl]
theorem adF_11 : adF ad n q a8 a9 a10 a11 a12 a13 a14 a15 a16 a17 (tb n + 11) = a11 := by
  unfold adF
  rw [if_neg (by omega), if_neg (by omega), if_neg (by omega), if_neg (by omega), if_pos rfl]
theorem adF_12 : adF ad n q a8 a9 a10 a11 a12 a13 a14 a15 a16 a17 (tb n + 12) = a12 := by
  unfold adF
  rw [if_neg (by omega), if_neg (by omega), if_neg (by omega), if_neg (by omega), if_neg (by omega), if_pos rfl]
theorem adF_13 : adF ad n q a8 a9 a10 a11 a12 a13 a14 a15 a16 a17 (tb n + 13) = a13 := by
  unfold adF
  rw [if_neg (by omega), if_neg (by omega), if_neg (by omega), if_neg (by omega), if_neg (by omega), if_neg (by omega), if_pos rfl]
theorem adF_14 : adF ad n q a8 a9 a10 a11 a12 a13 a14 a15 a16 a17 (tb n + 14) = a14 := by
  unfold adF
  rw [if_neg (by omega), if_neg (by omega), if_neg (by omega), if_neg (by omega), if_neg (by omega), if_neg (by omega), if_neg (by omega), if_pos rfl]
theorem adF_15 : adF ad n q a8 a9 a10 a11 a12 a13 a14 a15 a16 a17 (tb n + 15) = a15 := by
  unfold adF
  rw [if_neg (by omega), if_neg (by omega), if_neg (by omega), if_neg (by omega), if_neg (by omega), if_neg (by omega), if_neg (by omega), if_neg (by omega), if_pos rfl]
theorem adF_16 : adF ad n q a8 a9 a10 a11 a12 a13 a14 a15 a16 a17 (tb n + 16) = a16 := by
  unfold adF
  rw [if_neg (by omega), if_neg (by omega), if_neg (by omega), if_neg (by omega), if_neg (by omega), if_neg (by omega), if_neg (by omega), if_neg (by omega), if_neg (by omega), if_pos rfl]
theorem adF_17 : adF ad n q a8 a9 a10 a11 a12 a13 a14 a15 a16 a17 (tb n + 17) = a17 := by
  unfold adF
  rw [if_neg (by omega), if_neg (by omega), if_neg (by omega), if_neg (by omega), if_neg (by omega), if_neg (by omega), if_neg (by omega), if_neg (by omega), if_neg (by omega), if_neg (by omega), if_pos rfl]
theorem csM_mem {c n : Nat} (h : c ∈ csM n) : c = 0 ∨ (9 ≤ c ∧ c ≤ 21) ∨ ∃ i k, i < n ∧ (k = 0 ∨ (8 ≤ k ∧ k ≤ 17)) ∧ c = tb i + k := by
  rcases List.mem_append.mp h with h | h
  · simp at h; omega
  · obtain ⟨i, hi, h⟩ := List.mem_flatMap.mp h
    have hin := List.mem_range.mp hi
    simp at h
    rcases h with h | h | h | h | h | h | h | h | h | h | h
    · exact Or.inr (Or.inr ⟨i, 0, hin, Or.inl rfl, h⟩)
    · exact Or.inr (Or.inr ⟨i, 8, hin, Or.inr ⟨by omega, by omega⟩, h⟩)
    · exact Or.inr (Or.inr ⟨i, 9, hin, Or.inr ⟨by omega, by omega⟩, h⟩)
    · exact Or.inr (Or.inr ⟨i, 10, hin, Or.inr ⟨by omega, by omega⟩, h⟩)
    · exact Or.inr (Or.inr ⟨i, 11, hin, Or.inr ⟨by omega, by omega⟩, h⟩)
    · exact Or.inr (Or.inr ⟨i, 12, hin, Or.inr ⟨by omega, by omega⟩, h⟩)
    · exact Or.inr (Or.inr ⟨i, 13, hin, Or.inr ⟨by omega, by omega⟩, h⟩)
    · exact Or.inr (Or.inr ⟨i, 14, hin, Or.inr ⟨by omega, by omega⟩, h⟩)
    · exact Or.inr (Or.inr ⟨i, 15, hin, Or.inr ⟨by omega, by omega⟩, h⟩)
    · exact Or.inr (Or.inr ⟨i, 16, hin, Or.inr ⟨by omega, by omega⟩, h⟩)
    · exact Or.inr (Or.inr ⟨i, 17, hin, Or.inr ⟨by omega, by omega⟩, h⟩)
theorem csM_s {n : Nat} : csM (n + 1) = csM n ++ [tb n, tb n + 8, tb n + 9, tb n + 10, tb n + 11, tb n + 12, tb n + 13, tb n + 14, tb n + 15, tb n + 16, tb n + 17] := by
  unfold csM
  rw [List.range_succ, List.flatMap_append, List.append_assoc]
  rfl
theorem csM_lt {c n : Nat} (h : c ∈ csM n) : c < tb n := by
  rcases csM_mem h with h | h | ⟨i, k, hi, hk, h⟩
  · unfold tb; omega
  · unfold tb; omega
  · subst h; unfold tb; omega
/-- the kind of a cell depends on the addresses of what it names alone -/
theorem cM_ad {ad ad' : Nat → Nat} {na n c : Nat} {f : Nat → Int32} {g : Nat → Int64} (hna : na ≤ n) (h : ∀ x, x < tb n → ad' x = ad x) (hc : c ∈ csM n) : cM na ad' Y c f g = cM na ad Y c f g := by
  have hM : mTk na ad' = mTk na ad := by
    funext j
    unfold mTk
    split
    · rw [h _ (by unfold tb; omega)]
    · rfl
  rcases csM_mem hc with rfl | ⟨h1, h2⟩ | ⟨i, k, hi, hk, rfl⟩
  · rw [hM_0, hM_0]; unfold FM
    rw [h 9 (by unfold tb; omega), h 10 (by unfold tb; omega), h 11 (by unfold tb; omega), h 12 (by unfold tb; omega), h 13 (by unfold tb; omega), h 14 (by unfold tb; omega), h 15 (by unfold tb; omega), h 16 (by unfold tb; omega), h 17 (by unfold tb; omega), h 18 (by unfold tb; omega), h 19 (by unfold tb; omega), h 20 (by unfold tb; omega), h 21 (by unfold tb; omega)]
  · unfold cM
    rw [hM]
    rcases (show c = 9 ∨ c = 10 ∨ c = 11 ∨ c = 12 ∨ c = 13 ∨ c = 14 ∨ c = 15 ∨ c = 16 ∨ c = 17 ∨ c = 18 ∨ c = 19 ∨ c = 20 ∨ c = 21 by omega) with rfl | rfl | rfl | rfl | rfl | rfl | rfl | rfl | rfl | rfl | rfl | rfl | rfl <;> rfl
  · rcases hk with rfl | hk
    · rw [Nat.add_zero, hT_0, hT_0]; unfold FT
      rw [h (tb i + 8) (by unfold tb; omega), h (tb i + 9) (by unfold tb; omega), h (tb i + 10) (by unfold tb; omega), h (tb i + 11) (by unfold tb; omega), h (tb i + 12) (by unfold tb; omega), h (tb i + 13) (by unfold tb; omega), h (tb i + 14) (by unfold tb; omega), h (tb i + 15) (by unfold tb; omega), h (tb i + 16) (by unfold tb; omega), h (tb i + 17) (by unfold tb; omega)]
    · rcases (show k = 8 ∨ k = 9 ∨ k = 10 ∨ k = 11 ∨ k = 12 ∨ k = 13 ∨ k = 14 ∨ k = 15 ∨ k = 16 ∨ k = 17 by omega) with rfl | rfl | rfl | rfl | rfl | rfl | rfl | rfl | rfl | rfl
      · rw [hT_8, hT_8]
      · rw [hT_9, hT_9]
      · rw [hT_10, hT_10]
      · rw [hT_11, hT_11]
      · rw [hT_12, hT_12]
      · rw [hT_13, hT_13]
      · rw [hT_14, hT_14]
      · rw [hT_15, hT_15]
      · rw [hT_16, hT_16]
      · rw [hT_17, hT_17]
theorem fork_world : pM (cM n ad Y) (csM n) ad M ++ [(q, .inr (7, [.int 1, .int 0, .int 0, .int 0, .int 0, .int 0, .int 0, .int 0, .ref a8, .ref a9, .ref a10, .ref a11, .ref a12, .ref a13, .ref a14, .ref a15, .ref a16, .ref a17])), (a8, .inl (Y 1, 16, .inr (.inl (fun _ => 0)))), (a9, .inl (Y 1, 384, .inr (.inl (fun _ => 0)))), (a10, .inl (Y 0, 40, .inl (fun _ => 0))), (a11, .inl (Y 0, 24, .inl (fun _ => 0))), (a12, .inl (Y 0, 24, .inl (fun _ => 0))), (a13, .inl (Y 0, 24, .inl (fun _ => 0))), (a14, .inl (Y 0, 24, .inl (fun _ => 0))), (a15, .inl (Y 1, 40, .inr (.inl (fun _ => 0)))), (a16, .inl (Y 1, 40, .inr (.inl (fun _ => 0)))), (a17, .inl (Y 1, 40, .inr (.inl (fun _ => 0))))] = wM2 Y n (n + 1) (adF ad n q a8 a9 a10 a11 a12 a13 a14 a15 a16 a17) (fNewT M (tb n) (fun _ => 0) 0) := by
  unfold wM2 pM pw
  rw [csM_s, List.map_append]
  congr 1
  · refine List.map_congr_left (fun c hc => ?_)
    have hlt := csM_lt hc
    have e1 : (fNewT M (tb n) (fun _ => 0) 0).1 c = M.1 c := by
      show (if c = tb n then _ else if tb n + 10 ≤ c ∧ c ≤ tb n + 14 then _ else M.1 c) = _
      rw [if_neg (by omega), if_neg (by omega)]
    have e2 : (fNewT M (tb n) (fun _ => 0) 0).2 c = M.2 c := by
      show (if c = tb n + 8 then _ else if c = tb n + 9 ∨ (tb n + 15 ≤ c ∧ c ≤ tb n + 17) then _ else M.2 c) = _
      rw [if_neg (by omega), if_neg (by omega)]
    show (ad c, cM n ad Y c (M.1 c) (M.2 c)) = (adF ad n q a8 a9 a10 a11 a12 a13 a14 a15 a16 a17 c, cM n (adF ad n q a8 a9 a10 a11 a12 a13 a14 a15 a16 a17) Y c ((fNewT M (tb n) (fun _ => 0) 0).1 c) ((fNewT M (tb n) (fun _ => 0) 0).2 c))
    rw [e1, e2, adF_o hlt, cM_ad (Nat.le_refl n) (fun x hx => adF_o hx) hc]
  · have e0 : (fNewT M (tb n) (fun _ => 0) 0).1 (tb n) = (fun k => if k = 0 then 1 else if k = 2 then 0 else 0) := if_pos rfl
    have eI : ∀ k, 10 ≤ k → k ≤ 14 → (fNewT M (tb n) (fun _ => 0) 0).1 (tb n + k) = (fun _ => 0) := fun k h1 h2 => by
      show (if tb n + k = tb n then _ else if tb n + 10 ≤ tb n + k ∧ tb n + k ≤ tb n + 14 then _ else _) = _
      rw [if_neg (by omega), if_pos (by omega)]
    have eL : ∀ k, k = 8 ∨ k = 9 ∨ (15 ≤ k ∧ k ≤ 17) → (fNewT M (tb n) (fun _ => 0) 0).2 (tb n + k) = (fun _ => 0) := fun k h1 => by
      show (if tb n + k = tb n + 8 then _ else if tb n + k = tb n + 9 ∨ (tb n + 15 ≤ tb n + k ∧ tb n + k ≤ tb n + 17) then _ else _) = _
      by_cases h8 : k = 8
      · rw [if_pos (by omega)]
      · rw [if_neg (by omega), if_pos (by omega)]
    simp only [List.map_cons, List.map_nil, hT_0, hT_8, hT_9, hT_10, hT_11, hT_12, hT_13, hT_14, hT_15, hT_16, hT_17, adF_0, adF_8, adF_9, adF_10, adF_11, adF_12, adF_13, adF_14, adF_15, adF_16, adF_17]
    rw [e0, eI 10 (by omega) (by omega), eI 11 (by omega) (by omega), eI 12 (by omega) (by omega), eI 13 (by omega) (by omega), eI 14 (by omega) (by omega), eL 8 (by omega), eL 9 (by omega), eL 15 (by omega), eL 16 (by omega), eL 17 (by omega)]
    unfold FT
    simp only [adF_8, adF_9, adF_10, adF_11, adF_12, adF_13, adF_14, adF_15, adF_16, adF_17]
    rfl
end FORKW
/-- the row of the tasks takes the new one -/
theorem v_forkrow {K : vKt} {cc : ByteArray} {own : String} {nL n1 n2 pc pc' : Nat} {lv : List (Nat × Value)} {st : List Value} {n : Nat} {ad : Nat → Nat} {M : vM} (X : vOk K cc own nL) (hn : n < 16) {ix : Int32} (hj : ix = nI n) (d : decode cc pc = .ok (.aastore, 1)) (e : pc + 1 = pc') (kk : V K nL (wM (kY K) (n + 1) ad M) n1 n2 pc' lv st) : V K nL (wM2 (kY K) n (n + 1) ad M) n1 n2 pc lv (.ref (ad (tb n)) :: .int ix :: .ref (ad 13) :: st) := by
  refine v_atD (fun hD => ?_)
  obtain ⟨q0, h1, h2⟩ := pM_at (cell := cM n ad (kY K)) (cs := csM (n + 1)) (ad := ad) (M := M) mM_13 (hM_13 _ _)
  obtain ⟨q1, -, h3⟩ := pM_at (cell := cM n ad (kY K)) (cs := csM (n + 1)) (ad := ad) (M := M) (mT_0 (Nat.lt_succ_self n)) (hT_0 _ _)
  subst hj
  refine v_aast X q0 3 q1 7 h2 rfl h3 (r := (RX8, TX8, 18)) rfl (vp_in_nI (N := 16) hn (by decide)) (nI_clamp (by omega)) d e ?_
  have hW : (wM2 (kY K) n (n + 1) ad M).set q0 (ad 13, .inl (kY K 3, 16, .inr (.inr (.inr (.inr (va_up (mTk n ad) n (some (ad (tb n))))))))) = wM (kY K) (n + 1) ad M := by
    unfold wM2 pM
    rw [pw_set hD h1]
    refine pw_congr (fun _ _ => rfl) (fun c hc => ?_)
    by_cases hx : c = 13
    · subst hx
      rw [va_up_self, hM_13]
      have hm : va_up (mTk n ad) n (some (ad (tb n))) = mTk (n + 1) ad := by
        funext j
        show (if j = n then some (ad (tb n)) else mTk n ad j) = _
        unfold mTk
        by_cases hjn : j = n
        · subst hjn; rw [if_pos rfl, if_pos (by omega)]
        · rw [if_neg hjn]
          by_cases hj2 : j < n
          · rw [if_pos hj2, if_pos (by omega)]
          · rw [if_neg hj2, if_neg (by omega)]
      rw [hm]
    · rw [va_up_ne _ _ hx]
      rcases csM_mem hc with rfl | ⟨h1, h2⟩ | ⟨i, k, hi, hk, rfl⟩
      · rfl
      · rcases (show c = 9 ∨ c = 10 ∨ c = 11 ∨ c = 12 ∨ c = 14 ∨ c = 15 ∨ c = 16 ∨ c = 17 ∨ c = 18 ∨ c = 19 ∨ c = 20 ∨ c = 21 by omega) with rfl | rfl | rfl | rfl | rfl | rfl | rfl | rfl | rfl | rfl | rfl | rfl <;> rfl
      · rcases hk with rfl | hk
        · rw [Nat.add_zero, hT_0, hT_0]
        · rcases (show k = 8 ∨ k = 9 ∨ k = 10 ∨ k = 11 ∨ k = 12 ∨ k = 13 ∨ k = 14 ∨ k = 15 ∨ k = 16 ∨ k = 17 by omega) with rfl | rfl | rfl | rfl | rfl | rfl | rfl | rfl | rfl | rfl
          · rw [hT_8, hT_8]
          · rw [hT_9, hT_9]
          · rw [hT_10, hT_10]
          · rw [hT_11, hT_11]
          · rw [hT_12, hT_12]
          · rw [hT_13, hT_13]
          · rw [hT_14, hT_14]
          · rw [hT_15, hT_15]
          · rw [hT_16, hT_16]
          · rw [hT_17, hT_17]
  rw [hW]
  exact kk
