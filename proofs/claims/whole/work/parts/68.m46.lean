/-! THE CLASS'S WORLDS: a new strand, a longer list -/
theorem pw_rep {A : Nat → Prop} {cs : List Nat} {ad : Nat → Nat} {G : Nat → va_E} (hD : va_D A (pw cs ad G)) {k c x : Nat} (hk : cs[k]? = some c) (e : va_E) : (pw cs ad G).set k (x, e) = pw cs (fun q => if q = c then x else ad q) (va_up G c e) := by
  apply List.ext_getElem?
  intro j
  have hkl : k < cs.length := (List.getElem?_eq_some_iff.mp hk).1
  by_cases hj : j = k
  · subst hj
    rw [List.getElem?_set_self (by rw [pw, List.length_map]; exact hkl), pw, List.getElem?_map, hk]
    show some (x, e) = some (if c = c then x else ad c, va_up G c e c)
    rw [if_pos rfl, va_up_self]
  · rw [List.getElem?_set_ne (fun z9 => hj z9.symm), pw, pw, List.getElem?_map, List.getElem?_map]
    cases hc : cs[j]? with
    | none => rfl
    | some y =>
      have hy : y ≠ c := fun z9 => hj (pw_inj hD (z9 ▸ hc) hk)
      show some (ad y, G y) = some (if y = c then x else ad y, va_up G c e y)
      rw [if_neg hy, va_up_ne _ _ hy]
theorem tb_lt {i n : Nat} (h : i < n) : tb i + 20 ≤ tb n := by unfold tb; omega
theorem csK_mem {c n s cp : Nat} (h : c ∈ csK n s cp) : c ∈ [0, 1, 2, 3, 5, 6, 14, 15, 16, 17, 18, 20, 21] ∨ (cp ≠ 0 ∧ c = 4) ∨ (∃ i k, i < n ∧ (k = 0 ∨ (8 ≤ k ∧ k ≤ 18)) ∧ c = tb i + k) ∨ ∃ k, k < s ∧ c = ib k := by
  rcases List.mem_append.mp h with h | h
  · exact Or.inl h
  · refine Or.inr ?_
    rcases List.mem_append.mp h with h | h
    · refine Or.inl ?_
      by_cases h0 : cp = 0
      · rw [if_pos h0] at h; exact absurd h List.not_mem_nil
      · rw [if_neg h0] at h; exact ⟨h0, List.mem_singleton.mp h⟩
    · refine Or.inr ?_
      rcases List.mem_append.mp h with h | h
      · refine Or.inl ?_
        obtain ⟨i, hi, h⟩ := List.mem_flatMap.mp h
        have hin := List.mem_range.mp hi
        simp at h
        rcases h with h | h | h | h | h | h | h | h | h | h | h | h
        · exact ⟨i, 0, hin, Or.inl rfl, h⟩
        · exact ⟨i, 8, hin, Or.inr ⟨by omega, by omega⟩, h⟩
        · exact ⟨i, 9, hin, Or.inr ⟨by omega, by omega⟩, h⟩
        · exact ⟨i, 10, hin, Or.inr ⟨by omega, by omega⟩, h⟩
        · exact ⟨i, 11, hin, Or.inr ⟨by omega, by omega⟩, h⟩
        · exact ⟨i, 12, hin, Or.inr ⟨by omega, by omega⟩, h⟩
        · exact ⟨i, 13, hin, Or.inr ⟨by omega, by omega⟩, h⟩
        · exact ⟨i, 14, hin, Or.inr ⟨by omega, by omega⟩, h⟩
        · exact ⟨i, 15, hin, Or.inr ⟨by omega, by omega⟩, h⟩
        · exact ⟨i, 16, hin, Or.inr ⟨by omega, by omega⟩, h⟩
        · exact ⟨i, 17, hin, Or.inr ⟨by omega, by omega⟩, h⟩
        · exact ⟨i, 18, hin, Or.inr ⟨by omega, by omega⟩, h⟩
      · obtain ⟨k, hk, rfl⟩ := List.mem_map.mp h
        exact Or.inr ⟨k, List.mem_range.mp hk, rfl⟩
theorem abs_lt {c : Nat} (h : c ∈ [0, 1, 2, 3, 5, 6, 14, 15, 16, 17, 18, 20, 21]) : c < 22 ∧ c ≠ 4 := by
  simp at h; omega
/-- the kind of a cell depends on the addresses of what it names alone -/
theorem cK_cong {Y : Nat → ClassId} {c n0 n n' s s' s0 cp cp' cp0 cq cq' : Nat} {ad ad' : Nat → Nat} {f : Nat → Int32} {g : Nat → Int64} (h : c ∈ csK n0 s0 cp0) (hn : n0 ≤ 16) (h4 : c ≠ 4) (h6 : c ≠ 6) (h3 : c = 3 → ad' 4 = ad 4) (h5 : c = 5 → ad' 6 = ad 6) (hd : ∀ x, x ≠ 4 → x ≠ 6 → x < tb n0 → ad' x = ad x) : cK n' s' cp' cq' ad' Y c f g = cK n s cp cq ad Y c f g := by
  have hd2 : ∀ x, x ≠ 4 → x ≠ 6 → x < 30 → ad' x = ad x := fun x q1 q2 q3 => hd x q1 q2 (by unfold tb; omega)
  rcases csK_mem h with h | ⟨-, h⟩ | ⟨i, k, hi, hk, rfl⟩ | ⟨k, -, rfl⟩
  · simp at h
    rcases h with rfl | rfl | rfl | rfl | rfl | rfl | rfl | rfl | rfl | rfl | rfl | rfl | rfl
    · rw [hK_0, hK_0]; unfold GO7
      rw [hd2 3 (by decide) (by decide) (by decide), hd2 5 (by decide) (by decide) (by decide), hd2 14 (by decide) (by decide) (by decide), hd2 1 (by decide) (by decide) (by decide), hd2 2 (by decide) (by decide) (by decide)]
    · rw [hK_1, hK_1]; unfold GO1
      rw [hd2 17 (by decide) (by decide) (by decide), hd2 15 (by decide) (by decide) (by decide), hd2 16 (by decide) (by decide) (by decide), hd2 18 (by decide) (by decide) (by decide), hd2 20 (by decide) (by decide) (by decide)]
    · rw [hK_2, hK_2]; unfold GO2
      rw [hd2 21 (by decide) (by decide) (by decide)]
    · rw [hK_3, hK_3]; unfold GL
      rw [h3 rfl]
    · rw [hK_5, hK_5]; unfold GL
      rw [h5 rfl]
    · exact absurd rfl h6
    · rw [hK_14, hK_14]
    · rw [hK_15, hK_15]
    · rw [hK_16, hK_16]
    · rw [hK_17, hK_17]
    · rw [hK_18, hK_18]
    · rw [hK_20, hK_20]
    · rw [hK_21, hK_21]
  · exact absurd h h4
  · have hti := tb_lt hi
    have ht30 : 30 ≤ tb i := by unfold tb; omega
    have hi16 : i < 16 := by omega
    have hdi : ∀ x, tb i ≤ x → x < tb i + 20 → ad' x = ad x := fun x q1 q2 => hd x (by omega) (by omega) (by omega)
    rcases (show k = 0 ∨ k = 8 ∨ k = 9 ∨ k = 10 ∨ k = 11 ∨ k = 12 ∨ k = 13 ∨ k = 14 ∨ k = 15 ∨ k = 16 ∨ k = 17 ∨ k = 18 by omega) with rfl | rfl | rfl | rfl | rfl | rfl | rfl | rfl | rfl | rfl | rfl | rfl
    · rw [Nat.add_zero, hG_0 hi16, hG_0 hi16]; unfold GS
      rw [hdi (tb i + 8) (by omega) (by omega), hdi (tb i + 10) (by omega) (by omega), hdi (tb i + 11) (by omega) (by omega), hdi (tb i + 12) (by omega) (by omega), hdi (tb i + 13) (by omega) (by omega), hdi (tb i + 14) (by omega) (by omega), hdi (tb i + 9) (by omega) (by omega), hdi (tb i + 18) (by omega) (by omega)]
    · rw [hG_8 hi16, hG_8 hi16]
    · rw [hG_9 hi16, hG_9 hi16]
    · rw [hG_10 hi16, hG_10 hi16]
    · rw [hG_11 hi16, hG_11 hi16]
    · rw [hG_12 hi16, hG_12 hi16]
    · rw [hG_13 hi16, hG_13 hi16]
    · rw [hG_14 hi16, hG_14 hi16]
    · rw [hG_15 hi16, hG_15 hi16]
    · rw [hG_16 hi16, hG_16 hi16]
    · rw [hG_17 hi16, hG_17 hi16]
    · rw [hG_18 hi16, hG_18 hi16]; unfold GG
      rw [hdi (tb i + 18 - 3) (by omega) (by omega), hdi (tb i + 18 - 2) (by omega) (by omega), hdi (tb i + 18 - 1) (by omega) (by omega)]
  · rw [hI_ib, hI_ib]
/-- the class's world while the row of the strands lags behind -/
abbrev wK2 (Y : Nat → ClassId) (na n s cp cq : Nat) (ad : Nat → Nat) (M : vM) : va_W := pM (cK na s cp cq ad Y) (csK n s cp) ad M
/-- the rows of a new strand -/
def gNewS (N : vM) (b : Nat) (t9 : Int32) : vM :=
  (fun c => if c = b then (fun k => if k = 8 then 1 else if k = 10 then t9 else if k = 13 then -1 else 0) else if (b + 10 ≤ c ∧ c ≤ b + 16) ∨ c = b + 18 then (fun _ => 0) else N.1 c,
   fun c => if c = b + 8 ∨ c = b + 9 ∨ c = b + 17 then (fun _ => 0) else N.2 c)
theorem gNewS_o {N : vM} {b c : Nat} {t9 : Int32} (h : c < b ∨ b + 18 < c) : (gNewS N b t9).1 c = N.1 c ∧ (gNewS N b t9).2 c = N.2 c := by
  constructor
  · show (if c = b then _ else if (b + 10 ≤ c ∧ c ≤ b + 16) ∨ c = b + 18 then _ else N.1 c) = _
    rw [if_neg (by omega), if_neg (by omega)]
  · show (if c = b + 8 ∨ c = b + 9 ∨ c = b + 17 then _ else N.2 c) = _
    rw [if_neg (by omega)]
def adG (ad : Nat → Nat) (n q a8 a9 a10 a11 a12 a13 a14 a15 a16 a17 a18 : Nat) : Nat → Nat := fun c => if c = tb n then q else if c = tb n + 8 then a8 else if c = tb n + 9 then a9 else if c = tb n + 10 then a10 else if c = tb n + 11 then a11 else if c = tb n + 12 then a12 else if c = tb n + 13 then a13 else if c = tb n + 14 then a14 else if c = tb n + 15 then a15 else if c = tb n + 16 then a16 else if c = tb n + 17 then a17 else if c = tb n + 18 then a18 else ad c
section FORKG
variable {ad : Nat → Nat} {Y : Nat → ClassId} {M : vM} {n s cp cq q a8 a9 a10 a11 a12 a13 a14 a15 a16 a17 a18 : Nat} {t9 : Int32}
theorem adG_o {c : Nat} (h : c < tb n ∨ tb n + 18 < c) : adG ad n q a8 a9 a10 a11 a12 a13 a14 a15 a16 a17 a18 c = ad c := by
  unfold adG
  rw [if_neg (by omega), if_neg (by omega), if_neg (by omega), if_neg (by omega), if_neg (by omega), if_neg (by omega), if_neg (by omega), if_neg (by omega), if_neg (by omega), if_neg (by omega), if_neg (by omega), if_neg (by omega)]
theorem adG_0 : adG ad n q a8 a9 a10 a11 a12 a13 a14 a15 a16 a17 a18 (tb n) = q := if_pos rfl
theorem adG_8 : adG ad n q a8 a9 a10 a11 a12 a13 a14 a15 a16 a17 a18 (tb n + 8) = a8 := by
  unfold adG
  rw [if_neg (by omega), if_pos rfl]
theorem adG_9 : adG ad n q a8 a9 a10 a11 a12 a13 a14 a15 a16 a17 a18 (tb n + 9) = a9 := by
  unfold adG
  rw [if_neg (by omega), if_neg (by omega), if_pos rfl]
theorem adG_10 : adG ad n q a8 a9 a10 a11 a12 a13 a14 a15 a16 a17 a18 (tb n + 10) = a10 := by
  unfold adG
  rw [if_neg (by omega), if_neg (by omega), if_neg (by omega), if_pos rfl]
theorem adG_11 : adG ad n q a8 a9 a10 a11 a12 a13 a14 a15 a16 a17 a18 (tb n + 11) = a11 := by
  unfold adG
  rw [if_neg (by omega), if_neg (by omega), if_neg (by omega), if_neg (by omega), if_pos rfl]
theorem adG_12 : adG ad n q a8 a9 a10 a11 a12 a13 a14 a15 a16 a17 a18 (tb n + 12) = a12 := by
  unfold adG
  rw [if_neg (by omega), if_neg (by omega), if_neg (by omega), if_neg (by omega), if_neg (by omega), if_pos rfl]
theorem adG_13 : adG ad n q a8 a9 a10 a11 a12 a13 a14 a15 a16 a17 a18 (tb n + 13) = a13 := by
  unfold adG
  rw [if_neg (by omega), if_neg (by omega), if_neg (by omega), if_neg (by omega), if_neg (by omega), if_neg (by omega), if_pos rfl]
theorem adG_14 : adG ad n q a8 a9 a10 a11 a12 a13 a14 a15 a16 a17 a18 (tb n + 14) = a14 := by
  unfold adG
  rw [if_neg (by omega), if_neg (by omega), if_neg (by omega), if_neg (by omega), if_neg (by omega), if_neg (by omega), if_neg (by omega), if_pos rfl]
theorem adG_15 : adG ad n q a8 a9 a10 a11 a12 a13 a14 a15 a16 a17 a18 (tb n + 15) = a15 := by
  unfold adG
  rw [if_neg (by omega), if_neg (by omega), if_neg (by omega), if_neg (by omega), if_neg (by omega), if_neg (by omega), if_neg (by omega), if_neg (by omega), if_pos rfl]
theorem adG_16 : adG ad n q a8 a9 a10 a11 a12 a13 a14 a15 a16 a17 a18 (tb n + 16) = a16 := by
  unfold adG
  rw [if_neg (by omega), if_neg (by omega), if_neg (by omega), if_neg (by omega), if_neg (by omega), if_neg (by omega), if_neg (by omega), if_neg (by omega), if_neg (by omega), if_pos rfl]
theorem adG_17 : adG ad n q a8 a9 a10 a11 a12 a13 a14 a15 a16 a17 a18 (tb n + 17) = a17 := by
  unfold adG
  rw [if_neg (by omega), if_neg (by omega), if_neg (by omega), if_neg (by omega), if_neg (by omega), if_neg (by omega), if_neg (by omega), if_neg (by omega), if_neg (by omega), if_neg (by omega), if_pos rfl]
theorem adG_18 : adG ad n q a8 a9 a10 a11 a12 a13 a14 a15 a16 a17 a18 (tb n + 18) = a18 := by
  unfold adG
  rw [if_neg (by omega), if_neg (by omega), if_neg (by omega), if_neg (by omega), if_neg (by omega), if_neg (by omega), if_neg (by omega), if_neg (by omega), if_neg (by omega), if_neg (by omega), if_neg (by omega), if_pos rfl]
theorem csK_s {n s cp : Nat} : csK (n + 1) s cp = ([0, 1, 2, 3, 5, 6, 14, 15, 16, 17, 18, 20, 21] ++ ((if cp = 0 then [] else [4]) ++ (List.range n).flatMap (fun i => [tb i, tb i + 8, tb i + 9, tb i + 10, tb i + 11, tb i + 12, tb i + 13, tb i + 14, tb i + 15, tb i + 16, tb i + 17, tb i + 18]))) ++ [tb n, tb n + 8, tb n + 9, tb n + 10, tb n + 11, tb n + 12, tb n + 13, tb n + 14, tb n + 15, tb n + 16, tb n + 17, tb n + 18] ++ (List.range s).map ib := by
  unfold csK
  rw [List.range_succ, List.flatMap_append]
  simp only [List.append_assoc, List.flatMap_cons, List.flatMap_nil, List.append_nil]
theorem csK_0 {n s cp : Nat} : csK n s cp = ([0, 1, 2, 3, 5, 6, 14, 15, 16, 17, 18, 20, 21] ++ ((if cp = 0 then [] else [4]) ++ (List.range n).flatMap (fun i => [tb i, tb i + 8, tb i + 9, tb i + 10, tb i + 11, tb i + 12, tb i + 13, tb i + 14, tb i + 15, tb i + 16, tb i + 17, tb i + 18]))) ++ (List.range s).map ib := by
  unfold csK
  simp only [List.append_assoc]
theorem csK_rng {c n s cp : Nat} (hn : n < 16) (h : c ∈ csK n s cp) : c < tb n ∨ tb n + 18 < c := by
  rcases csK_mem h with h | ⟨-, h⟩ | ⟨i, k, hi, hk, rfl⟩ | ⟨k, -, rfl⟩
  · have := (abs_lt h).1; unfold tb; omega
  · unfold tb; omega
  · have := tb_lt hi; omega
  · unfold ib tb; omega
theorem newS_e (hn : n < 16) {c : Nat} (h : c ∈ csK n s cp) : (ad c, cK n s cp cq ad Y c (M.1 c) (M.2 c)) = (adG ad n q a8 a9 a10 a11 a12 a13 a14 a15 a16 a17 a18 c, cK n s cp cq (adG ad n q a8 a9 a10 a11 a12 a13 a14 a15 a16 a17 a18) Y c ((gNewS M (tb n) t9).1 c) ((gNewS M (tb n) t9).2 c)) := by
  have hr := csK_rng hn h
  have h30 : 30 ≤ tb n := by unfold tb; omega
  rw [(gNewS_o hr).1, (gNewS_o hr).2, adG_o hr]
  have hM : mTk n (adG ad n q a8 a9 a10 a11 a12 a13 a14 a15 a16 a17 a18) = mTk n ad := by
    funext j
    unfold mTk
    split
    · rename_i hj
      have := tb_lt hj
      rw [adG_o (by omega)]
    · rfl
  by_cases h4 : c = 4
  · subst h4
    rw [hK_4, hK_4]
    have hI : mIk s (adG ad n q a8 a9 a10 a11 a12 a13 a14 a15 a16 a17 a18) = mIk s ad := by
      funext j
      unfold mIk
      split
      · rw [adG_o (by unfold ib tb; omega)]
      · rfl
    rw [hI]
  · by_cases h6 : c = 6
    · subst h6; rw [hK_6, hK_6, hM]
    · rw [cK_cong (ad' := adG ad n q a8 a9 a10 a11 a12 a13 a14 a15 a16 a17 a18) (n' := n) (s' := s) (cp' := cp) (cq' := cq) h (by omega) h4 h6 (fun _ => adG_o (by omega)) (fun _ => adG_o (by omega)) (fun x _ _ hx => adG_o (Or.inl hx))]
theorem newS_t (hn : n < 16) : [tb n, tb n + 8, tb n + 9, tb n + 10, tb n + 11, tb n + 12, tb n + 13, tb n + 14, tb n + 15, tb n + 16, tb n + 17, tb n + 18].map (fun c => (adG ad n q a8 a9 a10 a11 a12 a13 a14 a15 a16 a17 a18 c, cK n s cp cq (adG ad n q a8 a9 a10 a11 a12 a13 a14 a15 a16 a17 a18) Y c ((gNewS M (tb n) t9).1 c) ((gNewS M (tb n) t9).2 c))) = [(q, .inr (5, [.ref a8, .ref a10, .ref a11, .ref a12, .ref a13, .ref a14, .ref a9, .ref a18, .int 1, .int 0, .int t9, .int 0, .int 0, .int (-1)])), (a8, .inl (Y 1, 16, .inr (.inl (fun _ => 0)))), (a9, .inl (Y 1, 384, .inr (.inl (fun _ => 0)))), (a10, .inl (Y 0, 40, .inl (fun _ => 0))), (a11, .inl (Y 0, 24, .inl (fun _ => 0))), (a12, .inl (Y 0, 24, .inl (fun _ => 0))), (a13, .inl (Y 0, 24, .inl (fun _ => 0))), (a14, .inl (Y 0, 24, .inl (fun _ => 0))), (a15, .inl (Y 0, 40, .inl (fun _ => 0))), (a16, .inl (Y 0, 40, .inl (fun _ => 0))), (a17, .inl (Y 1, 40, .inr (.inl (fun _ => 0)))), (a18, .inr (3, [.ref a15, .ref a16, .ref a17, .int 0, .int 0, .int 0]))] := by
  have e0 : (gNewS M (tb n) t9).1 (tb n) = (fun k => if k = 8 then 1 else if k = 10 then t9 else if k = 13 then -1 else 0) := if_pos rfl
  have eI : ∀ k, (10 ≤ k ∧ k ≤ 16) ∨ k = 18 → (gNewS M (tb n) t9).1 (tb n + k) = (fun _ => 0) := fun k h1 => by
    show (if tb n + k = tb n then _ else if (tb n + 10 ≤ tb n + k ∧ tb n + k ≤ tb n + 16) ∨ tb n + k = tb n + 18 then _ else _) = _
    rw [if_neg (by omega), if_pos (by omega)]
  have eL : ∀ k, k = 8 ∨ k = 9 ∨ k = 17 → (gNewS M (tb n) t9).2 (tb n + k) = (fun _ => 0) := fun k h1 => by
    show (if tb n + k = tb n + 8 ∨ tb n + k = tb n + 9 ∨ tb n + k = tb n + 17 then _ else _) = _
    rw [if_pos (by omega)]
  simp only [List.map_cons, List.map_nil, hG_0 hn, hG_8 hn, hG_9 hn, hG_10 hn, hG_11 hn, hG_12 hn, hG_13 hn, hG_14 hn, hG_15 hn, hG_16 hn, hG_17 hn, hG_18 hn, adG_0, adG_8, adG_9, adG_10, adG_11, adG_12, adG_13, adG_14, adG_15, adG_16, adG_17, adG_18]
  rw [e0, eI 10 (by omega), eI 11 (by omega), eI 12 (by omega), eI 13 (by omega), eI 14 (by omega), eI 15 (by omega), eI 16 (by omega), eI 18 (by omega), eL 8 (by omega), eL 9 (by omega), eL 17 (by omega)]
  unfold GS GG
  simp only [show tb n + 18 - 3 = tb n + 15 by omega, show tb n + 18 - 2 = tb n + 16 by omega, show tb n + 18 - 1 = tb n + 17 by omega, adG_8, adG_9, adG_10, adG_11, adG_12, adG_13, adG_14, adG_15, adG_16, adG_17, adG_18]
  rfl
end FORKG
section FORKV
variable {K : vKt} {nL n1 n2 pc : Nat} {lv : List (Nat × Value)} {st : List Value}
theorem v_permT {ws tl tl' : va_W} (is : List Nat) (hn : va_nd is = true) (hs : is.map (fun i => tl[i]?) = tl'.map some) (kk : V K nL (ws ++ tl') n1 n2 pc lv st) : V K nL (ws ++ tl) n1 n2 pc lv st := by
  intro H locs ls hP hD hS hl9
  have p1 : va_P (kD K) vwCl (tl ++ ws) H := va_P.swap (a := []) (b := ws) (c := tl) hP
  have d1 : va_D (kA K) (tl ++ ws) := va_D.swap (a := []) (b := ws) (c := tl) hD
  have p2 : va_P (kD K) vwCl (tl' ++ ws) H := p1.part is hs
  have d2 : va_D (kA K) (tl' ++ ws) := d1.part is hn hs
  exact kk H locs ls (va_P.swap (a := []) (b := tl') (c := ws) p2) (va_D.swap (a := []) (b := tl') (c := ws) d2) hS hl9
/-- a new strand's cells come to the pool -/
theorem v_newS {ad : Nat → Nat} {M : vM} {n s cp cq q a8 a9 a10 a11 a12 a13 a14 a15 a16 a17 a18 : Nat} {t9 : Int32} {Y : Nat → ClassId} (hn : n < 16) (kk : V K nL (wK2 Y n (n + 1) s cp cq (adG ad n q a8 a9 a10 a11 a12 a13 a14 a15 a16 a17 a18) (gNewS M (tb n) t9)) n1 n2 pc lv st) : V K nL (wK Y n s cp cq ad M ++ [(q, .inr (5, [.ref a8, .ref a10, .ref a11, .ref a12, .ref a13, .ref a14, .ref a9, .ref a18, .int 1, .int 0, .int t9, .int 0, .int 0, .int (-1)])), (a8, .inl (Y 1, 16, .inr (.inl (fun _ => 0)))), (a10, .inl (Y 0, 40, .inl (fun _ => 0))), (a11, .inl (Y 0, 24, .inl (fun _ => 0))), (a12, .inl (Y 0, 24, .inl (fun _ => 0))), (a13, .inl (Y 0, 24, .inl (fun _ => 0))), (a14, .inl (Y 0, 24, .inl (fun _ => 0))), (a9, .inl (Y 1, 384, .inr (.inl (fun _ => 0)))), (a18, .inr (3, [.ref a15, .ref a16, .ref a17, .int 0, .int 0, .int 0])), (a15, .inl (Y 0, 40, .inl (fun _ => 0))), (a16, .inl (Y 0, 40, .inl (fun _ => 0))), (a17, .inl (Y 1, 40, .inr (.inl (fun _ => 0))))]) n1 n2 pc lv st := by
  refine v_permT (tl' := [(q, .inr (5, [.ref a8, .ref a10, .ref a11, .ref a12, .ref a13, .ref a14, .ref a9, .ref a18, .int 1, .int 0, .int t9, .int 0, .int 0, .int (-1)])), (a8, .inl (Y 1, 16, .inr (.inl (fun _ => 0)))), (a9, .inl (Y 1, 384, .inr (.inl (fun _ => 0)))), (a10, .inl (Y 0, 40, .inl (fun _ => 0))), (a11, .inl (Y 0, 24, .inl (fun _ => 0))), (a12, .inl (Y 0, 24, .inl (fun _ => 0))), (a13, .inl (Y 0, 24, .inl (fun _ => 0))), (a14, .inl (Y 0, 24, .inl (fun _ => 0))), (a15, .inl (Y 0, 40, .inl (fun _ => 0))), (a16, .inl (Y 0, 40, .inl (fun _ => 0))), (a17, .inl (Y 1, 40, .inr (.inl (fun _ => 0)))), (a18, .inr (3, [.ref a15, .ref a16, .ref a17, .int 0, .int 0, .int 0]))]) [0, 1, 7, 2, 3, 4, 5, 6, 9, 10, 11, 8] rfl rfl ?_
  have e1 : wK Y n s cp cq ad M = pw (([0, 1, 2, 3, 5, 6, 14, 15, 16, 17, 18, 20, 21] ++ ((if cp = 0 then [] else [4]) ++ (List.range n).flatMap (fun i => [tb i, tb i + 8, tb i + 9, tb i + 10, tb i + 11, tb i + 12, tb i + 13, tb i + 14, tb i + 15, tb i + 16, tb i + 17, tb i + 18])))) (adG ad n q a8 a9 a10 a11 a12 a13 a14 a15 a16 a17 a18) (fun c => cK n s cp cq (adG ad n q a8 a9 a10 a11 a12 a13 a14 a15 a16 a17 a18) Y c ((gNewS M (tb n) t9).1 c) ((gNewS M (tb n) t9).2 c)) ++ pw ((List.range s).map ib) (adG ad n q a8 a9 a10 a11 a12 a13 a14 a15 a16 a17 a18) (fun c => cK n s cp cq (adG ad n q a8 a9 a10 a11 a12 a13 a14 a15 a16 a17 a18) Y c ((gNewS M (tb n) t9).1 c) ((gNewS M (tb n) t9).2 c)) := by
    rw [pw, pw, ← List.map_append, ← csK_0]
    exact List.map_congr_left (fun c hc => newS_e hn hc)
  refine v_eqw (by rw [e1, ← newS_t (ad := ad) (Y := Y) (M := M) (s := s) (cp := cp) (cq := cq) hn]) ?_
  refine v_swap ?_
  refine v_eqw ?_ kk
  show _ = pw (csK (n + 1) s cp) _ _
  rw [csK_s]
  simp only [pw, List.map_append, List.append_assoc]
end FORKV
