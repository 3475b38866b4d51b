/-! THE INVARIANT IS KEPT: a task by its rows -/
def tC (ob so ct wt : Nat → Int32) (reg sv rd wr va : Nat → Int64) (pr : Nat → Int32) (us ca e r w : Nat) : Prop :=
  ob 3 = nI ca ∧ ca ≤ 40 ∧ ob 4 = nI e ∧ e ≤ 24 ∧ ob 5 = nI r ∧ r ≤ 40 ∧ ob 6 = nI w ∧ w ≤ 40 ∧
  (∀ k, k < e → so k = 0 ∨ so k = 1 ∨ so k = 2) ∧
  (∀ j k, j < e → k < e → so j = 0 → so k = 0 → j = k) ∧
  (∀ k, k < e → ct k = nI (nn (ct k)) ∧ nn (ct k) ≤ ca) ∧
  (∀ j k, j ≤ k → k < e → nn (ct j) ≤ nn (ct k)) ∧
  (∀ k, k < e → wt k = nI (nn (wt k)) ∧ nn (wt k) ≤ w) ∧
  (∀ j k, j ≤ k → k < e → nn (wt j) ≤ nn (wt k)) ∧
  (∀ j, j < e → (∀ q, q < j → so q ≠ 0) → wt j = 0) ∧
  (ob 0 = 2 → ∃ k, k < e ∧ so k = 0) ∧
  (ob 0 = 1 ∨ ob 0 = 2 ∨ ob 0 = 3 ∨ ob 0 = 4) ∧
  ((∀ k, k < e → so k ≠ 0) → r = 0 ∧ w = 0) ∧
  (ob 0 = 3 ∨ ob 0 = 4 → e = 0) ∧
  (∀ k, k < 16 → vO us pr (reg k)) ∧
  (∀ k, k < 16 * e → vO us pr (sv k)) ∧
  (∀ k, k < r → vV us pr (rd k)) ∧
  (∀ k, k < w → vV us pr (wr k)) ∧
  (∀ k, k < w → vO us pr (va k))
theorem tI_C {M : vM} {us b ca e r w : Nat} : tI M us b ca e r w = tC (M.1 b) (M.1 (b + 11)) (M.1 (b + 13)) (M.1 (b + 14)) (M.2 (b + 8)) (M.2 (b + 9)) (M.2 (b + 15)) (M.2 (b + 16)) (M.2 (b + 17)) (M.1 17) us ca e r w := rfl
section TC
variable {ob so ct wt : Nat → Int32} {reg sv rd wr va : Nat → Int64} {pr : Nat → Int32} {us ca e r w : Nat}
theorem tC_ob {ob' : Nat → Int32} (h : tC ob so ct wt reg sv rd wr va pr us ca e r w) (h0 : ob' 0 = ob 0) (q3 : ob' 3 = ob 3) (q4 : ob' 4 = ob 4) (q5 : ob' 5 = ob 5) (q6 : ob' 6 = ob 6) : tC ob' so ct wt reg sv rd wr va pr us ca e r w := by
  unfold tC at h ⊢
  rw [h0, q3, q4, q5, q6]; exact h
theorem tC_reg {v : Int64} {j : Nat} (h : tC ob so ct wt reg sv rd wr va pr us ca e r w) (hv : vO us pr v) : tC ob so ct wt (vp_updL reg j v) sv rd wr va pr us ca e r w := by
  obtain ⟨h3, hca, h4, he, h5, hr, h6, hw, hso, huq, hct, hctm, hwt, hwtm, hwt0, hpk, hst, hem, hov, hrg, hsv, hrd, hwr, hva⟩ := h
  refine ⟨h3, hca, h4, he, h5, hr, h6, hw, hso, huq, hct, hctm, hwt, hwtm, hwt0, hpk, hst, hem, hov, fun k hk => ?_, hsv, hrd, hwr, hva⟩
  by_cases hq : k = j
  · subst hq; rw [pk_uLs]; exact hv
  · rw [pk_uLn hq]; exact hrg k hk
theorem tC_calls {ob' : Nat → Int32} {ca' : Nat} (h : tC ob so ct wt reg sv rd wr va pr us ca e r w) (hc : ca' ≤ 40) (hl : ∀ k, k < e → nn (ct k) ≤ ca') (h0 : ob' 0 = ob 0) (q3 : ob' 3 = nI ca') (q4 : ob' 4 = ob 4) (q5 : ob' 5 = ob 5) (q6 : ob' 6 = ob 6) : tC ob' so ct wt reg sv rd wr va pr us ca' e r w := by
  obtain ⟨h3, hca, h4, he, h5, hr, h6, hw, hso, huq, hct, hctm, hwt, hwtm, hwt0, hpk, hst, hem, hov, hrg, hsv, hrd, hwr, hva⟩ := h
  exact ⟨q3, hc, q4.trans h4, he, q5.trans h5, hr, q6.trans h6, hw, hso, huq, fun k hk => ⟨(hct k hk).1, hl k hk⟩, hctm, hwt, hwtm, hwt0, by rw [h0]; exact hpk, by rw [h0]; exact hst, hem, by rw [h0]; exact hov, hrg, hsv, hrd, hwr, hva⟩
theorem tC_end {ob' : Nat → Int32} (h : tC ob so ct wt reg sv rd wr va pr us ca e r w) (h0 : ob' 0 = 3 ∨ ob' 0 = 4) (q3 : ob' 3 = ob 3) (q4 : ob' 4 = 0) (q5 : ob' 5 = 0) (q6 : ob' 6 = 0) : tC ob' so ct wt reg sv rd wr va pr us ca 0 0 0 := by
  obtain ⟨h3, hca, h4, he, h5, hr, h6, hw, hso, huq, hct, hctm, hwt, hwtm, hwt0, hpk, hst, hem, hov, hrg, hsv, hrd, hwr, hva⟩ := h
  exact ⟨q3.trans h3, hca, q4, Nat.zero_le _, q5, Nat.zero_le _, q6, Nat.zero_le _, lt_0, fun j k z9 => absurd z9 (Nat.not_lt_zero j), lt_0, fun j k _ z9 => absurd z9 (Nat.not_lt_zero k), lt_0, fun j k _ z9 => absurd z9 (Nat.not_lt_zero k), lt_0, fun z9 => by rcases h0 with h0 | h0 <;> rw [h0] at z9 <;> exact absurd z9 (by decide), Or.inr (Or.inr h0), fun _ => ⟨rfl, rfl⟩, fun _ => rfl, hrg, lt_0, lt_0, lt_0, lt_0⟩
theorem tC_nest {ob' : Nat → Int32} {kind : Int32} (h : tC ob so ct wt reg sv rd wr va pr us ca e r w) (he2 : e < 24) (hk : kind = 0 ∨ kind = 1 ∨ kind = 2) (hka : kind = 0 → ∀ k, k < e → so k ≠ 0) (h01 : ob' 0 = 1) (q3 : ob' 3 = ob 3) (q4 : ob' 4 = nI (e + 1)) (q5 : ob' 5 = ob 5) (q6 : ob' 6 = ob 6) : tC ob' (upd so e kind) (upd ct e (ob 3)) (upd wt e (ob 6)) reg (vcp reg 0 (16 * e) 16 sv) rd wr va pr us ca (e + 1) r w := by
  obtain ⟨h3, hca, h4, he, h5, hr, h6, hw, hso, huq, hct, hctm, hwt, hwtm, hwt0, hpk, hst, hem, hov, hrg, hsv, hrd, hwr, hva⟩ := h
  have s1 : ∀ k, k < e → upd so e kind k = so k := fun k hk => pk_un (by omega)
  have s2 : ∀ k, k < e → upd ct e (ob 3) k = ct k := fun k hk => pk_un (by omega)
  have s3 : ∀ k, k < e → upd wt e (ob 6) k = wt k := fun k hk => pk_un (by omega)
  have n3 : nn (ob 3) = ca := by rw [h3, nn_nI (by omega)]
  have n6 : nn (ob 6) = w := by rw [h6, nn_nI (by omega)]
  refine ⟨q3.trans h3, hca, q4, by omega, q5.trans h5, hr, q6.trans h6, hw, fun k hk9 => ?_, fun j k hj9 hk9 z1 z2 => ?_, fun k hk9 => ?_, fun j k hjk hk9 => ?_, fun k hk9 => ?_, fun j k hjk hk9 => ?_, fun j hj9 hq => ?_, fun z9 => by rw [h01] at z9; exact absurd z9 (by decide), Or.inl h01, fun z9 => ?_, fun z9 => by rw [h01] at z9; rcases z9 with z9 | z9 <;> exact absurd z9 (by decide), hrg, fun k hk9 => ?_, hrd, hwr, hva⟩
  · rcases Nat.lt_succ_iff_lt_or_eq.mp hk9 with y9 | rfl
    · rw [s1 k y9]; exact hso k y9
    · rw [pk_us]; exact hk
  · rcases Nat.lt_succ_iff_lt_or_eq.mp hj9 with y9 | rfl
    · rcases Nat.lt_succ_iff_lt_or_eq.mp hk9 with y8 | rfl
      · rw [s1 j y9] at z1; rw [s1 k y8] at z2; exact huq j k y9 y8 z1 z2
      · rw [s1 j y9] at z1; rw [pk_us] at z2; exact absurd z1 (hka z2 j y9)
    · rcases Nat.lt_succ_iff_lt_or_eq.mp hk9 with y8 | rfl
      · rw [pk_us] at z1; rw [s1 k y8] at z2; exact absurd z2 (hka z1 k y8)
      · rfl
  · rcases Nat.lt_succ_iff_lt_or_eq.mp hk9 with y9 | rfl
    · rw [s2 k y9]; exact hct k y9
    · rw [pk_us, n3]; exact ⟨h3, Nat.le_refl _⟩
  · rcases Nat.lt_succ_iff_lt_or_eq.mp hk9 with y9 | rfl
    · rw [s2 k y9, s2 j (by omega)]; exact hctm j k hjk y9
    · rw [pk_us, n3]
      by_cases hje : j = k
      · subst hje; rw [pk_us, n3]; exact Nat.le_refl _
      · rw [s2 j (by omega)]; exact (hct j (by omega)).2
  · rcases Nat.lt_succ_iff_lt_or_eq.mp hk9 with y9 | rfl
    · rw [s3 k y9]; exact hwt k y9
    · rw [pk_us, n6]; exact ⟨h6, Nat.le_refl _⟩
  · rcases Nat.lt_succ_iff_lt_or_eq.mp hk9 with y9 | rfl
    · rw [s3 k y9, s3 j (by omega)]; exact hwtm j k hjk y9
    · rw [pk_us, n6]
      by_cases hje : j = k
      · subst hje; rw [pk_us, n6]; exact Nat.le_refl _
      · rw [s3 j (by omega)]; exact (hwt j (by omega)).2
  · rcases Nat.lt_succ_iff_lt_or_eq.mp hj9 with y9 | rfl
    · rw [s3 j y9]; exact hwt0 j y9 (fun q hq9 => by rw [← s1 q (by omega)]; exact hq q hq9)
    · rw [pk_us, h6, (hem (fun q hq9 => by rw [← s1 q hq9]; exact hq q hq9)).2]; rfl
  · by_cases hk0 : kind = 0
    · exact absurd (show upd so e kind e = 0 by rw [pk_us]; exact hk0) (z9 e (Nat.lt_succ_self e))
    · exact hem (fun q hq9 => by rw [← s1 q hq9]; exact z9 q (by omega))
  · unfold vcp
    by_cases y9 : 16 * e ≤ k ∧ k < 16 * e + 16
    · rw [if_pos y9]; exact hrg _ (by omega)
    · rw [if_neg y9]; exact hsv k (by omega)
theorem tC_read {ob' : Nat → Int32} {v : Int64} (h : tC ob so ct wt reg sv rd wr va pr us ca e r w) (hr2 : r < 40) (hv : vV us pr v) (hat : ∃ k, k < e ∧ so k = 0) (h0 : ob' 0 = ob 0) (q3 : ob' 3 = ob 3) (q4 : ob' 4 = ob 4) (q5 : ob' 5 = nI (r + 1)) (q6 : ob' 6 = ob 6) : tC ob' so ct wt reg sv (vp_updL rd r v) wr va pr us ca e (r + 1) w := by
  obtain ⟨h3, hca, h4, he, h5, hr, h6, hw, hso, huq, hct, hctm, hwt, hwtm, hwt0, hpk, hst, hem, hov, hrg, hsv, hrd, hwr, hva⟩ := h
  refine ⟨q3.trans h3, hca, q4.trans h4, he, q5, by omega, q6.trans h6, hw, hso, huq, hct, hctm, hwt, hwtm, hwt0, by rw [h0]; exact hpk, by rw [h0]; exact hst, fun z9 => ?_, by rw [h0]; exact hov, hrg, hsv, fun k hk => ?_, hwr, hva⟩
  · obtain ⟨k, hk, hk0⟩ := hat; exact absurd hk0 (z9 k hk)
  · by_cases hq : k = r
    · subst hq; rw [pk_uLs]; exact hv
    · rw [pk_uLn hq]; exact hrd k (by omega)
theorem tC_write {ob' : Nat → Int32} {v x : Int64} (h : tC ob so ct wt reg sv rd wr va pr us ca e r w) (hw2 : w < 40) (hv : vV us pr v) (hx : vO us pr x) (hat : ∃ k, k < e ∧ so k = 0) (h0 : ob' 0 = ob 0) (q3 : ob' 3 = ob 3) (q4 : ob' 4 = ob 4) (q5 : ob' 5 = ob 5) (q6 : ob' 6 = nI (w + 1)) : tC ob' so ct wt reg sv rd (vp_updL wr w v) (vp_updL va w x) pr us ca e r (w + 1) := by
  obtain ⟨h3, hca, h4, he, h5, hr, h6, hw, hso, huq, hct, hctm, hwt, hwtm, hwt0, hpk, hst, hem, hov, hrg, hsv, hrd, hwr, hva⟩ := h
  refine ⟨q3.trans h3, hca, q4.trans h4, he, q5.trans h5, hr, q6, by omega, hso, huq, hct, hctm, fun k hk => ⟨(hwt k hk).1, by have := (hwt k hk).2; omega⟩, hwtm, hwt0, by rw [h0]; exact hpk, by rw [h0]; exact hst, fun z9 => ?_, by rw [h0]; exact hov, hrg, hsv, hrd, fun k hk => ?_, fun k hk => ?_⟩
  · obtain ⟨k, hk, hk0⟩ := hat; exact absurd hk0 (z9 k hk)
  · by_cases hq : k = w
    · subst hq; rw [pk_uLs]; exact hv
    · rw [pk_uLn hq]; exact hwr k (by omega)
  · by_cases hq : k = w
    · subst hq; rw [pk_uLs]; exact hx
    · rw [pk_uLn hq]; exact hva k (by omega)
/-- rolled back to nest k -/
theorem tC_roll {ob' : Nat → Int32} {k : Nat} (h : tC ob so ct wt reg sv rd wr va pr us ca e r w) (hk : k < e) (hrw : (∀ j, j < k → so j ≠ 0) → r = 0 ∧ nn (wt k) = 0) (h01 : ob' 0 = 1) (q3 : ob' 3 = ct k) (q4 : ob' 4 = nI k) (q5 : ob' 5 = ob 5) (q6 : ob' 6 = wt k) : tC ob' so ct wt (vcp sv (16 * k) 0 16 reg) sv rd wr va pr us (nn (ct k)) k r (nn (wt k)) := by
  obtain ⟨h3, hca, h4, he, h5, hr, h6, hw, hso, huq, hct, hctm, hwt, hwtm, hwt0, hpk, hst, hem, hov, hrg, hsv, hrd, hwr, hva⟩ := h
  have c1 := hct k hk
  have w1 := hwt k hk
  refine ⟨q3.trans c1.1, by omega, q4, by omega, q5.trans h5, hr, q6.trans w1.1, by omega, fun j hj => hso j (by omega), fun j q hj hq => huq j q (by omega) (by omega), fun j hj => ⟨(hct j (by omega)).1, hctm j k (by omega) hk⟩, fun j q hjq hq => hctm j q hjq (by omega), fun j hj => ⟨(hwt j (by omega)).1, hwtm j k (by omega) hk⟩, fun j q hjq hq => hwtm j q hjq (by omega), fun j hj => hwt0 j (by omega), fun z9 => by rw [h01] at z9; exact absurd z9 (by decide), Or.inl h01, hrw, fun z9 => by rw [h01] at z9; rcases z9 with z9 | z9 <;> exact absurd z9 (by decide), fun j hj => ?_, fun j hj => hsv j (by omega), hrd, fun j hj => hwr j (by omega), fun j hj => hva j (by omega)⟩
  unfold vcp
  rw [if_pos ⟨Nat.zero_le _, by omega⟩]; exact hsv _ (by omega)
/-- the attempt begins again: k is the atomic nest -/
theorem tC_again {ob' : Nat → Int32} {k : Nat} (h : tC ob so ct wt reg sv rd wr va pr us ca e r w) (hk : k < e) (hk0 : so k = 0) (h01 : ob' 0 = 1) (q3 : ob' 3 = ct k) (q4 : ob' 4 = nI (k + 1)) (q5 : ob' 5 = 0) (q6 : ob' 6 = 0) : tC ob' so ct wt (vcp sv (16 * k) 0 16 reg) sv rd wr va pr us (nn (ct k)) (k + 1) 0 0 := by
  obtain ⟨h3, hca, h4, he, h5, hr, h6, hw, hso, huq, hct, hctm, hwt, hwtm, hwt0, hpk, hst, hem, hov, hrg, hsv, hrd, hwr, hva⟩ := h
  have c1 := hct k hk
  have hz : ∀ j, j ≤ k → wt j = 0 := fun j hj => hwt0 j (by omega) (fun q hq z9 => absurd (huq q k (by omega) hk z9 hk0) (by omega))
  refine ⟨q3.trans c1.1, by omega, q4, by omega, q5, Nat.zero_le _, q6, Nat.zero_le _, fun j hj => hso j (by omega), fun j q hj hq => huq j q (by omega) (by omega), fun j hj => ⟨(hct j (by omega)).1, hctm j k (by omega) hk⟩, fun j q hjq hq => hctm j q hjq (by omega), fun j hj => by rw [hz j (by omega)]; exact ⟨by decide, by decide⟩, fun j q hjq hq => hwtm j q hjq (by omega), fun j hj _ => hz j (by omega), fun z9 => by rw [h01] at z9; exact absurd z9 (by decide), Or.inl h01, fun _ => ⟨rfl, rfl⟩, fun z9 => by rw [h01] at z9; rcases z9 with z9 | z9 <;> exact absurd z9 (by decide), fun j hj => ?_, fun j hj => hsv j (by omega), lt_0, lt_0, lt_0⟩
  unfold vcp
  rw [if_pos ⟨Nat.zero_le _, by omega⟩]; exact hsv _ (by omega)
/-- the nests from the atomic one (q) on go, the logs are empty -/
theorem tC_out {ob' : Nat → Int32} {q : Nat} (h : tC ob so ct wt reg sv rd wr va pr us ca e r w) (hq : q < e) (hq0 : so q = 0) (h01 : ob' 0 = 1) (q3 : ob' 3 = ob 3) (q4 : ob' 4 = nI q) (q5 : ob' 5 = 0) (q6 : ob' 6 = 0) : tC ob' so ct wt reg sv rd wr va pr us ca q 0 0 := by
  obtain ⟨h3, hca, h4, he, h5, hr, h6, hw, hso, huq, hct, hctm, hwt, hwtm, hwt0, hpk, hst, hem, hov, hrg, hsv, hrd, hwr, hva⟩ := h
  have hz : ∀ j, j < q → wt j = 0 := fun j hj => hwt0 j (by omega) (fun x hx z9 => absurd (huq x q (by omega) hq z9 hq0) (by omega))
  exact ⟨q3.trans h3, hca, q4, by omega, q5, Nat.zero_le _, q6, Nat.zero_le _, fun j hj => hso j (by omega), fun j k hj hk => huq j k (by omega) (by omega), fun j hj => hct j (by omega), fun j k hjk hk => hctm j k hjk (by omega), fun j hj => by rw [hz j hj]; exact ⟨by decide, by decide⟩, fun j k hjk hk => hwtm j k hjk (by omega), fun j hj _ => hz j hj, fun z9 => by rw [h01] at z9; exact absurd z9 (by decide), Or.inl h01, fun _ => ⟨rfl, rfl⟩, fun z9 => by rw [h01] at z9; rcases z9 with z9 | z9 <;> exact absurd z9 (by decide), hrg, fun j hj => hsv j (by omega), lt_0, lt_0, lt_0⟩
/-- the innermost nest, which isn't atomic, goes -/
theorem tC_pop {ob' : Nat → Int32} {q : Nat} (h : tC ob so ct wt reg sv rd wr va pr us ca (q + 1) r w) (hq0 : so q ≠ 0) (h01 : ob' 0 = 1) (q3 : ob' 3 = ob 3) (q4 : ob' 4 = nI q) (q5 : ob' 5 = ob 5) (q6 : ob' 6 = ob 6) : tC ob' so ct wt reg sv rd wr va pr us ca q r w := by
  obtain ⟨h3, hca, h4, he, h5, hr, h6, hw, hso, huq, hct, hctm, hwt, hwtm, hwt0, hpk, hst, hem, hov, hrg, hsv, hrd, hwr, hva⟩ := h
  refine ⟨q3.trans h3, hca, q4, by omega, q5.trans h5, hr, q6.trans h6, hw, fun j hj => hso j (by omega), fun j k hj hk => huq j k (by omega) (by omega), fun j hj => hct j (by omega), fun j k hjk hk => hctm j k hjk (by omega), fun j hj => hwt j (by omega), fun j k hjk hk => hwtm j k hjk (by omega), fun j hj => hwt0 j (by omega), fun z9 => by rw [h01] at z9; exact absurd z9 (by decide), Or.inl h01, fun z9 => hem (fun k hk => ?_), fun z9 => by rw [h01] at z9; rcases z9 with z9 | z9 <;> exact absurd z9 (by decide), hrg, fun j hj => hsv j (by omega), hrd, hwr, hva⟩
  rcases Nat.lt_succ_iff_lt_or_eq.mp hk with y9 | rfl
  · exact z9 k y9
  · exact hq0
theorem tC_park {ob' : Nat → Int32} (h : tC ob so ct wt reg sv rd wr va pr us ca e r w) (hat : ∃ k, k < e ∧ so k = 0) (h0 : ob' 0 = 2) (q3 : ob' 3 = ob 3) (q4 : ob' 4 = ob 4) (q5 : ob' 5 = ob 5) (q6 : ob' 6 = ob 6) : tC ob' so ct wt reg sv rd wr va pr us ca e r w := by
  obtain ⟨h3, hca, h4, he, h5, hr, h6, hw, hso, huq, hct, hctm, hwt, hwtm, hwt0, hpk, hst, hem, hov, hrg, hsv, hrd, hwr, hva⟩ := h
  exact ⟨q3.trans h3, hca, q4.trans h4, he, q5.trans h5, hr, q6.trans h6, hw, hso, huq, hct, hctm, hwt, hwtm, hwt0, fun _ => hat, Or.inr (Or.inl h0), hem, fun z9 => by rw [h0] at z9; rcases z9 with z9 | z9 <;> exact absurd z9 (by decide), hrg, hsv, hrd, hwr, hva⟩
end TC
/-- M' differs from M in the rows of the task at b, and in the counters -/
def sameT (M M' : vM) (b : Nat) : Prop := (∀ x, x ≠ 0 → ¬ (b ≤ x ∧ x < b + 20) → M'.1 x = M.1 x ∧ M'.2 x = M.2 x) ∧ M'.1 0 1 = M.1 0 1 ∧ M'.1 0 2 = M.1 0 2 ∧ M'.1 0 3 = M.1 0 3 ∧ M'.1 0 8 = M.1 0 8
theorem sameT.refl (M : vM) (b : Nat) : sameT M M b := ⟨fun _ _ _ => ⟨rfl, rfl⟩, rfl, rfl, rfl, rfl⟩
theorem sameT.trans {M M' N : vM} {b : Nat} (h : sameT M M' b) (g : sameT M' N b) : sameT M N b := ⟨fun x h0 hx => ⟨(g.1 x h0 hx).1.trans (h.1 x h0 hx).1, (g.1 x h0 hx).2.trans (h.1 x h0 hx).2⟩, g.2.1.trans h.2.1, g.2.2.1.trans h.2.2.1, g.2.2.2.1.trans h.2.2.2.1, g.2.2.2.2.trans h.2.2.2.2⟩
theorem sameT_mI {M : vM} {b c k : Nat} {v : Int32} (h : b ≤ c ∧ c < b + 20) (hb : 22 ≤ b) : sameT M (mI M c k v) b := ⟨fun x _ hx => ⟨mI_n _ _ _ _ (by omega), rfl⟩, congrFun (mI_n _ _ _ _ (by omega)) _, congrFun (mI_n _ _ _ _ (by omega)) _, congrFun (mI_n _ _ _ _ (by omega)) _, congrFun (mI_n _ _ _ _ (by omega)) _⟩
theorem sameT_mL {M : vM} {b c k : Nat} {v : Int64} (h : b ≤ c ∧ c < b + 20) : sameT M (mL M c k v) b := ⟨fun x _ hx => ⟨rfl, mL_n _ _ _ _ (by omega)⟩, rfl, rfl, rfl, rfl⟩
theorem sameT_mRL {M : vM} {b c : Nat} {f : Nat → Int64} (h : b ≤ c ∧ c < b + 20) : sameT M (mRL M c f) b := ⟨fun x _ hx => ⟨rfl, mRL_n _ _ _ (by omega)⟩, rfl, rfl, rfl, rfl⟩
theorem sameT.cnt {M : vM} {b k : Nat} {v : Int32} (h : k ≠ 1 ∧ k ≠ 2 ∧ k ≠ 3 ∧ k ≠ 8) : sameT M (mI M 0 k v) b := ⟨fun x h0 _ => ⟨mI_n _ _ _ _ h0, rfl⟩, mI_o _ _ _ _ (by omega), mI_o _ _ _ _ (by omega), mI_o _ _ _ _ (by omega), mI_o _ _ _ _ (by omega)⟩
theorem sameT.g {M M' : vM} {i n sz us pd : Nat} (h : sameT M M' (tb i)) (hg : gI M n sz us pd) : gI M' n sz us pd := by
  obtain ⟨hsz, hsz2, hn2, hn1, hn16, hus, hus2, hpd, hpd2, h17, hfs, hvi, hgl⟩ := hg
  have e17 := (h.1 17 (by decide) (by unfold tb; omega)).1
  have e15 := (h.1 15 (by decide) (by unfold tb; omega)).2
  have e16 := (h.1 16 (by decide) (by unfold tb; omega)).2
  have e14 := (h.1 14 (by decide) (by unfold tb; omega)).2
  unfold gI
  rw [h.2.1, h.2.2.1, h.2.2.2.1, h.2.2.2.2, e17, e15, e16, e14]
  exact ⟨hsz, hsz2, hn2, hn1, hn16, hus, hus2, hpd, hpd2, h17, hfs, hvi, hgl⟩
theorem sameT.t {M M' : vM} {i j us ca e r w : Nat} (h : sameT M M' (tb i)) (hj : j ≠ i) (ht : tI M us (tb j) ca e r w) : tI M' us (tb j) ca e r w := by
  rw [tI_C] at ht ⊢
  have q0 := (h.1 (tb j) (by unfold tb; omega) (by unfold tb; omega)).1
  have q11 := (h.1 (tb j + 11) (by unfold tb; omega) (by unfold tb; omega)).1
  have q13 := (h.1 (tb j + 13) (by unfold tb; omega) (by unfold tb; omega)).1
  have q14 := (h.1 (tb j + 14) (by unfold tb; omega) (by unfold tb; omega)).1
  have q17 := (h.1 17 (by decide) (by unfold tb; omega)).1
  have r8 := (h.1 (tb j + 8) (by unfold tb; omega) (by unfold tb; omega)).2
  have r9 := (h.1 (tb j + 9) (by unfold tb; omega) (by unfold tb; omega)).2
  have r15 := (h.1 (tb j + 15) (by unfold tb; omega) (by unfold tb; omega)).2
  have r16 := (h.1 (tb j + 16) (by unfold tb; omega) (by unfold tb; omega)).2
  have r17 := (h.1 (tb j + 17) (by unfold tb; omega) (by unfold tb; omega)).2
  rw [q0, q11, q13, q14, q17, r8, r9, r15, r16, r17]
  exact ht
/-- what a step of the task i leaves: the others as they are -/
def InvT (M M' : vM) (n i : Nat) : Prop := sameT M M' (tb i) ∧ ∀ us ca e r w, tI M us (tb i) ca e r w → us ≤ 200 → ∃ ca e r w, tI M' us (tb i) ca e r w
theorem InvT.inv {M M' : vM} {n i : Nat} (h : InvT M M' n i) (hi : i < n) (hI : Inv M n) : Inv M' n := by
  obtain ⟨sz, us, pd, hg, ht⟩ := hI
  refine ⟨sz, us, pd, h.1.g hg, fun j hj => ?_⟩
  by_cases hji : j = i
  · subst hji
    obtain ⟨ca, e, r, w, q⟩ := ht j hj
    exact h.2 us ca e r w q hg.2.2.2.2.2.2.1
  · obtain ⟨ca, e, r, w, q⟩ := ht j hj
    exact ⟨ca, e, r, w, h.1.t hji q⟩
