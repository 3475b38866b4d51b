/-! CLASS AND REFERENCE: what moved -/
theorem cntK_cong {f g : Nat → Int32} : ∀ p, (∀ q, q < p → f q = g q) → cntK f p = cntK g p
  | 0, _ => rfl
  | p + 1, h => by rw [cntK, cntK, cntK_cong p (fun q hq => h q (by omega)), h p (Nat.lt_succ_self p)]
theorem slR_cong {α : Type} {f g : Nat → Int32} {op : α → α} {row : Nat → α} : ∀ p, (∀ q, q < p → f q = g q) → slR f op row p = slR g op row p
  | 0, _ => rfl
  | p + 1, h => by rw [slR, slR, slR_cong p (fun q hq => h q (by omega)), h p (Nat.lt_succ_self p), cntK_cong p (fun q hq => h q (by omega))]
/-- the cells that are left behind -/
theorem slR_out {α : Type} {f : Nat → Int32} {op : α → α} {row : Nat → α} {x : Nat} : ∀ p, cntK f p ≤ x → slR f op row p x = row x
  | 0, _ => rfl
  | p + 1, h => by
    have hh : cntK f p ≤ cntK f (p + 1) := cntK_mono (Nat.le_succ p)
    by_cases h0 : f p = 0
    · rw [slR_z h0]; exact slR_out p (by omega)
    · rw [slR_k h0, va_up_ne _ _ (by have h9 : cntK f p < cntK f (p + 1) := cntK_lt (Nat.lt_succ_self p) h0; omega)]
      exact slR_out p (by omega)
theorem un_eq {m : Nat → Int32} {p : Nat} (h : unm m p = 1) : m p ≠ -1 := fun z9 => by
  unfold unm at h; rw [if_pos z9] at h; exact absurd h (by decide)
theorem to_eq {m f old : Nat → Int32} {us p : Nat} (hu : us ≤ 200) (hm : ∀ q, q < 200 → unm m q = f q) (hp : p < us) (h1 : f p = 1) : ktR m us p = nI (cntK f p) ∧ toR f old us p = nI (cntK f p) := by
  unfold ktR toR
  rw [if_pos hp, if_pos hp, if_neg (un_eq (by rw [hm p (by omega)]; exact h1)), cntK_cong p (fun q hq => hm q (by omega))]
  exact ⟨rfl, rfl⟩
theorem kv_i {to : Nat → Int32} {v : Int64} (h : isI v) : kv to v = v := if_pos h
theorem kv_k {to : Nat → Int32} {v : Int64} (h : ¬ isI v) : kv to v = v - v.toInt32.toInt64 + (to (pl v)).toInt64 := if_neg h
theorem mv_k {to : Nat → Int32} {v : Int64} (h : ¬ isI v) : mv to v = (@ite _ (isP v) (Classical.propDecidable _) 8589934592 17179869184) + (to (pl v)).toInt64 := if_neg h
theorem fgR_i {row : Nat → Int64} {a e k : Nat} (h : isI (row k)) : fgR row a e k = row k := if_neg (fun z9 => z9.2.2 h)
theorem fgR_k {row : Nat → Int64} {a e k : Nat} (h1 : a ≤ k) (h2 : k < e) (h : ¬ isI (row k)) : fgR row a e k = 0 := if_pos ⟨h1, h2, h⟩
theorem fgR_ge {row : Nat → Int64} {a e k : Nat} (h2 : ¬ k < e) : fgR row a e k = row k := if_neg (fun z9 => h2 z9.2.1)
theorem rzR_i {st : Int32} {row : Nat → Int64} {e k : Nat} (h : isI (row k)) : rzR st row e k = row k := if_neg (fun z9 => z9.2.2.1 h)
theorem rzR_z {st : Int32} {row : Nat → Int64} {e k : Nat} (h1 : k < e) (h2 : st = 3 ∨ st = 4) (h : ¬ isI (row k)) (h4 : st = 4 ∨ 0 < k) : rzR st row e k = 0 := if_pos ⟨h1, h2, h, h4⟩
theorem rzR_le {st : Int32} {row : Nat → Int64} {e k : Nat} (h : ¬ k < e) : rzR st row e k = row k := if_neg (fun z9 => h z9.1)
theorem kv_mv {m f old pr : Nat → Int32} {us : Nat} {v : Int64} (hu : us ≤ 200) (hm : ∀ q, q < 200 → unm m q = f q) (hv : vO us pr v) (hk : mkd f v) : kv (ktR m us) v = mv (toR f old us) v := by
  rcases hv with h | ⟨p, hp, -, rfl⟩ | ⟨p, hp, -, rfl⟩
  · rw [kv_i h, mv_i h]
  · obtain ⟨b1, b2, b3⟩ := big_pair (p := p) (by omega)
    have h1 := hk.resolve_left b1
    rw [pl_pair (by omega)] at h1
    obtain ⟨t1, t2⟩ := to_eq (old := old) hu hm hp h1
    rw [kv_k b1, mv_k b1, if_pos b2, pl_pair (by omega), t1, t2]
    rw [toI_pair (by omega), nI_l (by omega), Int64.add_sub_cancel]
  · obtain ⟨b1, b2, b3⟩ := big_var (p := p) (by omega)
    have h1 := hk.resolve_left b1
    rw [pl_var (by omega)] at h1
    obtain ⟨t1, t2⟩ := to_eq (old := old) hu hm hp h1
    rw [kv_k b1, mv_k b1, if_neg b2, pl_var (by omega), t1, t2, toI_var (by omega), nI_l (by omega), Int64.add_sub_cancel]
theorem row_mv {m f old pr : Nat → Int32} {us e : Nat} {row : Nat → Int64} (hu : us ≤ 200) (hm : ∀ q, q < 200 → unm m q = f q) (hv : ∀ k, k < e → vO us pr (row k)) (hk : ∀ k, k < e → mkd f (row k)) : kvR (ktR m us) row e = mvR (toR f old us) row e := by
  funext k
  unfold kvR mvR
  by_cases h : k < e
  · rw [if_pos h, if_pos h]; exact kv_mv hu hm (hv k h) (hk k h)
  · rw [if_neg h, if_neg h]
theorem places_mv {m f old pr : Nat → Int32} {us e : Nat} {row : Nat → Int64} (hu : us ≤ 200) (hm : ∀ q, q < 200 → unm m q = f q) (hv : ∀ k, k < e → vV us pr (row k)) (hk : ∀ k, k < e → mkd f (row k)) : plR (ktR m us) (fun k => (row k).toInt32) e = fun k => (mvR (toR f old us) row e k).toInt32 := by
  funext k
  unfold plR mvR
  by_cases h : k < e
  · rw [if_pos h, if_pos h]
    show ktR m us (nn (row k).toInt32) = (mv (toR f old us) (row k)).toInt32
    obtain ⟨p, hp, -, e0⟩ := hv k h
    obtain ⟨b1, b2, b3⟩ := big_var (p := p) (by omega)
    have h1 := (hk k h)
    rw [e0] at h1 ⊢
    replace h1 := h1.resolve_left b1
    rw [pl_var (by omega)] at h1
    obtain ⟨t1, t2⟩ := to_eq (old := old) hu hm hp h1
    have hle := cntK_le f p
    rw [mv_k b1, if_neg b2, pl_var (by omega), t2, nI_l (by omega), toI_var (by omega), toI_var (by omega), nn_nI (by omega), t1]
  · rw [if_neg h, if_neg h]
/-- the registers of a strand -/
theorem regs_mv {G N : vM} {b : Nat} {m f old pr : Nat → Int32} {us : Nat} {row : Nat → Int64} (hu : us ≤ 200) (hm : ∀ q, q < 200 → unm m q = f q) (hst : G.1 b 8 = N.1 b 0) (hv : ∀ k, k < 16 → vO us pr (row k)) (hk : ∀ k, k < 16 → mkd f (rzR (N.1 b 0) row 16 k)) : kvR (ktR m us) (fgR row (kpN G b) 16) (kpN G b) = mvR (toR f old us) (rzR (N.1 b 0) row 16) 16 := by
  unfold kpN
  rw [hst]
  by_cases h3 : N.1 b 0 = 3
  · rw [if_pos h3, h3]
    rw [h3] at hk
    funext k
    unfold kvR mvR
    by_cases k1 : k < 1
    · obtain rfl : k = 0 := by omega
      have e1 : fgR row 1 16 0 = row 0 := if_neg (fun z9 => absurd z9.1 (by decide))
      have e2 : rzR 3 row 16 0 = row 0 := if_neg (fun z9 => z9.2.2.2.elim (fun y => absurd y (by decide)) (fun y => absurd y (by decide)))
      have h0 := hk 0 (by decide)
      rw [e2] at h0
      rw [if_pos k1, if_pos (by decide), e1, e2]
      exact kv_mv hu hm (hv 0 (by decide)) h0
    · rw [if_neg k1]
      by_cases k2 : k < 16
      · rw [if_pos k2, mv_i (rzR_lt (Or.inl rfl) k2 (Or.inr (by omega)))]
        by_cases hi : isI (row k)
        · rw [fgR_i hi, rzR_i hi]
        · rw [fgR_k (by omega) k2 hi, rzR_z k2 (Or.inl rfl) hi (Or.inr (by omega))]
      · rw [if_neg k2]
        rw [fgR_ge k2, rzR_le k2]
  · rw [if_neg h3]
    by_cases h4 : N.1 b 0 = 4
    · rw [if_pos h4, h4]
      rw [h4] at hk
      funext k
      unfold kvR mvR
      rw [if_neg (Nat.not_lt_zero k)]
      by_cases k2 : k < 16
      · rw [if_pos k2, mv_i (rzR_lt (Or.inr rfl) k2 (Or.inl rfl))]
        by_cases hi : isI (row k)
        · rw [fgR_i hi, rzR_i hi]
        · rw [fgR_k (by omega) k2 hi, rzR_z k2 (Or.inr rfl) hi (Or.inl rfl)]
      · rw [if_neg k2]
        rw [fgR_ge k2, rzR_le k2]
    · rw [rzR_off (fun z9 => z9.elim h3 h4)] at hk ⊢
      rw [if_neg h4, fgR_0]
      exact row_mv hu hm hv hk
/-! the rows of a collection, in the class -/
theorem gSlide_20 {M : vM} {us : Nat} : (gSlide M us).1 20 = ktR (M.1 20) us := by
  show (mI (gS5 M us) 1 5 (nI (cntK (unm (M.1 20)) us))).1 20 = _
  rw [mI_n _ _ _ _ (by decide)]; exact S5_20
theorem gSlide_17 {M : vM} {us : Nat} : (gSlide M us).1 17 = slR (unm (M.1 20)) id (M.1 17) us := by
  show (mI (gS5 M us) 1 5 (nI (cntK (unm (M.1 20)) us))).1 17 = _
  rw [mI_n _ _ _ _ (by decide)]; exact S5_17
theorem gSlide_5 {M : vM} {us : Nat} : (gSlide M us).1 1 5 = nI (cntK (unm (M.1 20)) us) := mI_s (gS5 M us) 1 5 _
theorem gSlide_15 {M : vM} {us : Nat} : (gSlide M us).2 15 = kvR (ktR (M.1 20) us) (slR (unm (M.1 20)) id (M.2 15) us) (cntK (unm (M.1 20)) us) := by
  unfold gSlide
  dsimp only
  rw [mRL_n _ _ _ (by decide), mRL_r, mI_n _ _ _ _ (by decide), mI_2]
  unfold gS5
  rw [S5_20, S5_15]
theorem gSlide_16 {M : vM} {us : Nat} : (gSlide M us).2 16 = kvR (ktR (M.1 20) us) (slR (unm (M.1 20)) id (M.2 16) us) (cntK (unm (M.1 20)) us) := by
  unfold gSlide
  dsimp only
  rw [mRL_r, mRL_1, mI_n _ _ _ _ (by decide), mRL_n _ _ _ (by decide), mI_2]
  unfold gS5
  rw [S5_20, S5_16]
theorem gF5_8 {M : vM} {b kp e r9 nw : Nat} : (gF5 M b kp e r9 nw).2 (b + 8) = kvR (M.1 20) (fgR (M.2 (b + 8)) kp 16) kp := by
  unfold gF5 gF4 gF3 gF2 gF1 gF0
  rw [mRL_n _ _ _ (by omega), mRI_2, mRI_2, mRL_n _ _ _ (by omega), mRL_r, mRL_r, mRL_1]
theorem gF5_9 {M : vM} {b kp e r9 nw : Nat} : (gF5 M b kp e r9 nw).2 (b + 9) = kvR (M.1 20) (M.2 (b + 9)) (16 * e) := by
  unfold gF5 gF4 gF3 gF2
  rw [mRL_n _ _ _ (by omega), mRI_2, mRI_2, mRL_r, gF1_9]
  rfl
theorem gF5_17 {M : vM} {b kp e r9 nw : Nat} (hb : 22 ≤ b) : (gF5 M b kp e r9 nw).2 (b + 17) = kvR (M.1 20) (M.2 (b + 17)) nw := by
  unfold gF5
  rw [mRL_r, gF4_17, gF4_1 (by omega) (by omega)]
theorem gF5_15 {M : vM} {b kp e r9 nw : Nat} (hb : 22 ≤ b) : (gF5 M b kp e r9 nw).1 (b + 15) = plR (M.1 20) (M.1 (b + 15)) r9 := by
  unfold gF5 gF4 gF3
  rw [mRL_1, mRI_n _ _ _ (by omega), mRI_r]
  rfl
theorem gF5_16 {M : vM} {b kp e r9 nw : Nat} (hb : 22 ≤ b) : (gF5 M b kp e r9 nw).1 (b + 16) = plR (M.1 20) (M.1 (b + 16)) nw := by
  unfold gF5 gF4
  rw [mRL_1, mRI_r, gF3_1 (by omega), gF3_1 (by omega)]
theorem gFolls_20 {M N : vM} {q : Nat} : (gFolls M N q).1 20 = N.1 20 := gFolls_1 (fun j _ => by unfold tb; omega)
/-- the rows of one strand after all strands followed -/
theorem gFolls_at {M N : vM} {j : Nat} : ∀ {q : Nat}, j < q →
    (gFolls M N q).2 (tb j + 8) = kvR (N.1 20) (fgR (N.2 (tb j + 8)) (kpN M (tb j)) 16) (kpN M (tb j)) ∧
    (gFolls M N q).2 (tb j + 9) = kvR (N.1 20) (N.2 (tb j + 9)) (16 * nn (M.1 (tb j) 12)) ∧
    (gFolls M N q).1 (tb j + 15) = plR (N.1 20) (N.1 (tb j + 15)) (nn (M.1 (tb j + 18) 3)) ∧
    (gFolls M N q).1 (tb j + 16) = plR (N.1 20) (N.1 (tb j + 16)) (nn (M.1 (tb j + 18) 4)) ∧
    (gFolls M N q).2 (tb j + 17) = kvR (N.1 20) (N.2 (tb j + 17)) (nn (M.1 (tb j + 18) 4))
  | 0, h => absurd h (Nat.not_lt_zero j)
  | q + 1, h => by
    rw [gFolls]
    rcases Nat.lt_succ_iff_lt_or_eq.mp h with y9 | rfl
    · rw [gF5_2 (by unfold tb; omega) (by unfold tb; omega) (by unfold tb; omega), gF5_2 (by unfold tb; omega) (by unfold tb; omega) (by unfold tb; omega), gF5_2 (by unfold tb; omega) (by unfold tb; omega) (by unfold tb; omega), gF5_1 (by unfold tb; omega) (by unfold tb; omega), gF5_1 (by unfold tb; omega) (by unfold tb; omega)]
      exact gFolls_at y9
    · rw [gF5_8, gF5_9, gF5_15 tb22, gF5_16 tb22, gF5_17 tb22, gFolls_20, gFolls_b2 (Nat.le_refl j) (by decide), gFolls_b2 (Nat.le_refl j) (by decide), gFolls_b2 (Nat.le_refl j) (by decide), gFolls_b (Or.inl (Nat.le_refl j)) (by decide), gFolls_b (Or.inl (Nat.le_refl j)) (by decide)]
      exact ⟨rfl, rfl, rfl, rfl, rfl⟩
