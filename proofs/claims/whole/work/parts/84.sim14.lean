/-! CLASS AND REFERENCE: what the walk of one instruction needs -/
noncomputable def fQ (N : vM) (n b : Nat) (num x y z : Int32) : vM × Int32 := if num < 0 ∨ 29 < num then (N, -1) else fKnown N n b (nn num) x y z
theorem lt_29 {v : Int32} : 29 < v ↔ 30 ≤ v := by
  rw [Int32.lt_iff_toInt_lt, Int32.le_iff_toInt_le]
  show (29 : Int) < _ ↔ (30 : Int) ≤ _
  omega
theorem fQ_bad {G N : vM} {n s us i : Nat} (h : Sm G N n s) (hi : i < n) {ca e r w : Nat} (hI : tI N us (tb i) ca e r w) {num x y z : Int32} (hf : gFault G (tb i) e num x y z ≠ 0) : fQ N n (tb i) num x y z = (N, gFault G (tb i) e num x y z) ∧ gFault G (tb i) e num x y z < 0 := by
  by_cases hn : num < 0 ∨ 30 ≤ num
  · have e1 : gFault G (tb i) e num x y z = -1 := if_pos hn
    rw [e1]
    exact ⟨if_pos (hn.imp id lt_29.mpr), by decide⟩
  · have e1 : fQ N n (tb i) num x y z = fKnown N n (tb i) (nn num) x y z := if_neg (fun z9 => hn (z9.imp id lt_29.mp))
    rw [e1]
    exact (z_fault h hi hI (fun z9 => hn (Or.inl z9)) (fun z9 => hn (Or.inr z9))).1 hf
theorem fQ_ok {G N : vM} {n s us i : Nat} (h : Sm G N n s) (hi : i < n) {ca e r w : Nat} (hI : tI N us (tb i) ca e r w) {num x y z : Int32} (hf : gFault G (tb i) e num x y z = 0) : (¬ num < 0 ∧ num < 30) ∧ fRest N n (tb i) (nn num) x y z = fQ N n (tb i) num x y z ∧ ¬ fWrong N (tb i) (nn num) x y z ∧ ((nn num = 16 ∨ nn num = 17 ∨ nn num = 19 ∨ nn num = 20 ∨ nn num = 23) → fIn N (tb i)) ∧ ((nn num = 0 ∨ nn num = 18 ∨ nn num = 25 ∨ nn num = 26 ∨ nn num = 27) → ¬ fIn N (tb i)) ∧ gN2 G (tb i) (opM.getD (nn num) 0) ∧ gCall G (tb i) e (nn num) := by
  by_cases hn : num < 0 ∨ 30 ≤ num
  · have e1 : gFault G (tb i) e num x y z = -1 := if_pos hn
    rw [e1] at hf
    exact absurd hf (by decide)
  · have e1 : fQ N n (tb i) num x y z = fKnown N n (tb i) (nn num) x y z := if_neg (fun z9 => hn (z9.imp id lt_29.mp))
    obtain ⟨g1, g2⟩ := (z_fault (x := x) (y := y) (z := z) h hi hI (num := num) (fun z9 => hn (Or.inl z9)) (fun z9 => hn (Or.inr z9))).2 hf
    exact ⟨⟨fun z9 => hn (Or.inl z9), Int32.not_le.mp (fun z9 => hn (Or.inr z9))⟩, by rw [e1, g1], g2⟩
def pQ (Y : Nat → ClassId) (n s cp : Nat) (ad : Nat → Nat) (w : va_W) (Q : vM) : Prop := ∃ (n9 cq9 : Nat) (ad9 : Nat → Nat) (G9 : vM), w = wK Y n9 s cp cq9 ad9 G9 ∧ Sm G9 Q n9 s ∧ (n9 ≤ cq9 ∧ cq9 ≤ 2 * n9 + 10) ∧ n ≤ n9 ∧ ∀ c, c ≠ 6 → (c < tb n ∨ 400 ≤ c) → ad9 c = ad c
section FIN
variable {Y : Nat → ClassId} {n s cp cq : Nat} {ad ad9 : Nat → Nat} {G9 : vM} {Q0 Q1 : vM × Int32}
theorem finV {v : Int32} (gq : Q1 = Q0) (f1 : v = Q1.2) (f0 : Q1.2 = 0 ∨ Q1.2 < 0) (f2 : Sm G9 Q1.1 n s) (hq : n ≤ cq ∧ cq ≤ 2 * n + 10) : some (Value.int v) = some (Value.int Q0.2) ∧ (Q0.2 = 0 ∨ Q0.2 < 0) ∧ pQ Y n s cp ad (wK Y n s cp cq ad G9) Q0.1 := by
  subst gq
  exact ⟨by rw [f1], f0, n, cq, ad, G9, rfl, f2, hq, Nat.le_refl n, fun _ _ _ => rfl⟩
theorem fin0 (gq : Q1 = Q0) (f : Q1.2 = 0 ∧ Sm G9 Q1.1 n s) (hq : n ≤ cq ∧ cq ≤ 2 * n + 10) : some (Value.int 0) = some (Value.int Q0.2) ∧ (Q0.2 = 0 ∨ Q0.2 < 0) ∧ pQ Y n s cp ad (wK Y n s cp cq ad G9) Q0.1 := finV gq f.1.symm (Or.inl f.1) f.2 hq
theorem finF {cq9 n9 : Nat} (gq : Q1 = Q0) (f1 : Q1.2 = 0) (f2 : Sm G9 Q1.1 n9 s) (hq : n9 ≤ cq9 ∧ cq9 ≤ 2 * n9 + 10) (hn : n ≤ n9) (had : ∀ c, c ≠ 6 → (c < tb n ∨ 400 ≤ c) → ad9 c = ad c) : some (Value.int 0) = some (Value.int Q0.2) ∧ (Q0.2 = 0 ∨ Q0.2 < 0) ∧ pQ Y n s cp ad (wK Y n9 s cp cq9 ad9 G9) Q0.1 := by
  subst gq
  exact ⟨by rw [f1], Or.inl f1, n9, cq9, ad9, G9, rfl, f2, hq, hn, had⟩
end FIN
/-- what the class's memory says of a strand that runs -/
theorem k_ctx {G N : vM} {n s us i ca e r w : Nat} (h : Sm G N n s) (hU : IU N n us) (hi : i < n) (h1 : N.1 (tb i) 0 = 1) (hI : tI N us (tb i) ca e r w) :
    G.1 (tb i) 8 = 1 ∧ G.1 (tb i) 11 = nI ca ∧ G.1 (tb i) 12 = nI e ∧ G.1 (tb i + 18) 3 = nI r ∧ G.1 (tb i + 18) 4 = nI w ∧ (∀ k, k < r → G.1 (tb i + 15) k = nI (nn (G.1 (tb i + 15) k)) ∧ nn (G.1 (tb i + 15) k) < 200) ∧ (∀ k, k < w → G.1 (tb i + 16) k = nI (nn (G.1 (tb i + 16) k)) ∧ nn (G.1 (tb i + 16) k) < 200) ∧ (∀ q, q < e → G.1 (tb i + 11) q = 0 → G.1 (tb i) 13 = nI q) ∧ G.1 5 2 = nI n ∧ G.1 1 5 = nI us := by
  obtain ⟨q3, hca, h4, he, h5, hr, h6, hw, hso, huq, hct, hctm, hwt, hwtm, hwt0, hpk, hs9, hem, hov, hrg, hsv, hrd, hwr, hva⟩ := id hI
  obtain ⟨⟨r1, r2, r3, r4, r5, r6, r7, r8, r9, r10, r11, r12, r13, r14, r15, r16, r17⟩, h12, hA, hc1⟩ := h.T hi
  have hu := hU.us
  rw [h4, nn_nI (by omega)] at hA
  have pv : ∀ v, vV us (N.1 17) v → v.toInt32 = nI (nn v.toInt32) ∧ nn v.toInt32 < 200 := fun v hv => by
    obtain ⟨p, hp, -, rfl⟩ := hv
    rw [toI_var (by omega), nn_nI (by omega)]; exact ⟨rfl, by omega⟩
  refine ⟨r1.trans h1, r4.trans q3, h12.trans h4, r5.trans h5, r6.trans h6, fun k hk => ?_, fun k hk => ?_, fun q hq q0 => ?_, h.2.2.2.2.2.1.1, (h.v hU).1⟩
  · rw [r15]; exact pv _ (hrd k hk)
  · rw [r16]; exact pv _ (hwr k hk)
  · rw [r9] at q0; exact hA.at hq q0 huq
/-- what it says of the strands that wait -/
theorem k_wait {G N : vM} {n s us : Nat} (h : Sm G N n s) (hU : IU N n us) : ∀ j, j < n → G.1 (tb j) 8 = 2 → ∃ r k : Nat, G.1 (tb j + 18) 3 = nI r ∧ r ≤ 40 ∧ G.1 (tb j) 13 = nI k ∧ k < 24 := by
  intro j hj h8
  obtain ⟨ca, e, r, w, hI⟩ := hU.at hj
  obtain ⟨q3, hca, h4, he, h5, hr, h6, hw, hso, huq, hct, hctm, hwt, hwtm, hwt0, hpk, hs9, hem, hov, hrg, hsv, hrd, hwr, hva⟩ := id hI
  obtain ⟨⟨r1, r2, r3, r4, r5, -⟩, h12, hA, hc1⟩ := h.T hj
  rw [h4, nn_nI (by omega)] at hA
  obtain ⟨k, hk, k0⟩ := hpk (r1.symm.trans h8)
  exact ⟨r, k, r5.trans h5, hr, hA.at hk k0 huq, by omega⟩
theorem k_in {N : vM} {us b ca e r w : Nat} (hI : tI N us b ca e r w) (h : fIn N b) : ∃ k, k < e ∧ N.1 (b + 11) k = 0 := by
  obtain ⟨k, hk, h0, -⟩ := fIn_at hI h
  exact ⟨k, hk, h0⟩
theorem vV_of {us : Nat} {pr : Nat → Int32} {v : Int64} (h : vO us pr v) (hu : us ≤ 200) (hv : isV v) : vV us pr v := by
  rcases h with y9 | ⟨p, hp, -, y9⟩ | y9
  · exact absurd (Int64.lt_of_lt_of_le (b := 8589934592) y9 (by decide)) (Int64.not_lt.mpr hv)
  · exact absurd hv (by rw [y9]; exact (big_pair (by omega)).2.2)
  · exact y9
theorem isP_n {v : Int64} (h : isP v) : ¬ isI v := Int64.not_lt.mpr h.1
theorem isV_n {v : Int64} (h : isV v) : ¬ isI v := fun z9 => absurd (Int64.lt_of_lt_of_le (b := 8589934592) z9 (by decide)) (Int64.not_lt.mpr h)
theorem call_pos {G N : vM} {us b ca e r w : Nat} (r4 : G.1 b 11 = N.1 b 3) (r11 : G.1 (b + 13) = N.1 (b + 13)) (hI : tI N us b ca e r w) (hn : gCall G b e 11) : 1 ≤ ca := by
  obtain ⟨q3, hca, h4, he, h5, hr, h6, hw, hso, huq, hct, hctm, hwt, hwtm, hwt0, hpk, hs9, hem, hov, hrg, hsv, hrd, hwr, hva⟩ := id hI
  have hn' : (if e = 0 then 0 else N.1 (b + 13) (e - 1)) < nI ca := by
    have h9 : (if e = 0 then 0 else G.1 (b + 13) (e - 1)) < G.1 b 11 := hn
    rw [r11, r4, q3] at h9; exact h9
  rcases Nat.eq_zero_or_pos ca with y9 | y9
  · exfalso
    subst y9
    by_cases e0 : e = 0
    · rw [if_pos e0] at hn'; exact absurd hn' (by decide)
    · rw [if_neg e0, (hct (e - 1) (by omega)).1] at hn'
      exact absurd hn' (nI_nlt (Nat.zero_le _) (by have := (hct (e - 1) (by omega)).2; omega))
  · exact y9
theorem fReading_2 {N : vM} {b x : Nat} {v : Int64} : (fReading N b x v).2 = 0 ∨ (fReading N b x v).2 < 0 := by
  unfold fReading
  split
  · exact Or.inl rfl
  · split
    · exact Or.inl rfl
    · split
      · exact Or.inl rfl
      · split
        · exact Or.inr (show (-5 : Int32) < 0 by decide)
        · exact Or.inl rfl
theorem gWriteV_2 {M : vM} {b w9 ja jb : Nat} : (gWriteV M b w9 ja jb).2 = 0 ∨ (gWriteV M b w9 ja jb).2 < 0 := by
  unfold gWriteV
  split
  · exact Or.inr (show (-5 : Int32) < 0 by decide)
  · exact Or.inl rfl
theorem fGather_1 {N : vM} {n us x : Nat} (h0 : x ≠ 0) (h17 : x ≠ 17) (h18 : x ≠ 18) (h19 : x ≠ 19) (h20 : x ≠ 20) : (fGather N n us).1 x = N.1 x := by
  unfold fGather
  dsimp only
  rw [fSlide_1 h0 h17 h19 h20, mRI_n _ _ _ h18, fRoots_1 h0 h18]
theorem made_go {N : vM} {n b : Nat} {ip : Bool} {x y z : Int32} (h : N.1 0 3 = 200) (h2 : ¬ (fGather N n 200).1 0 3 = 200) : fMade (fGather N n 200) n b ip x y z = fMade N n b ip x y z := by
  simp only [fMade, h, h2, if_true, if_false]
theorem made_no {N : vM} {n b : Nat} {ip : Bool} {x y z : Int32} (h : N.1 0 3 = 200) (h2 : (fGather N n 200).1 0 3 = 200) : fMade N n b ip x y z = (fGather N n 200, -3) := by
  simp only [fMade, h, h2, if_true]
theorem opM_in : ∀ o, o < 30 → ((opM.getD o 0).toInt < 1 ∨ 9 < (opM.getD o 0).toInt) → ¬ (16 ≤ o ∧ o ≤ 24) := by decide +kernel
theorem opM_out : ∀ o, o < 30 → ((opM.getD o 0).toInt < 1 ∨ 9 < (opM.getD o 0).toInt) → o = 0 ∨ o = 1 ∨ o = 2 ∨ o = 3 ∨ o = 4 ∨ o = 5 ∨ o = 6 ∨ o = 7 ∨ o = 8 ∨ o = 9 ∨ o = 10 ∨ o = 11 ∨ o = 12 ∨ o = 13 ∨ o = 14 ∨ o = 15 ∨ o = 25 ∨ o = 26 ∨ o = 27 ∨ o = 28 ∨ o = 29 := fun o ho h => by
  have h9 := opM_in o ho h
  omega
theorem opM_1 : ∀ o, o < 30 → opM.getD o 0 = 1 → o = 16 := by decide +kernel
theorem opM_2 : ∀ o, o < 30 → opM.getD o 0 = 2 → o = 17 := by decide +kernel
theorem opM_3 : ∀ o, o < 30 → opM.getD o 0 = 3 → o = 19 := by decide +kernel
theorem opM_4 : ∀ o, o < 30 → opM.getD o 0 = 4 → o = 23 := by decide +kernel
theorem opM_5 : ∀ o, o < 30 → opM.getD o 0 = 5 → o = 24 := by decide +kernel
theorem opM_6 : ∀ o, o < 30 → opM.getD o 0 = 6 → o = 18 := by decide +kernel
theorem opM_7 : ∀ o, o < 30 → opM.getD o 0 = 7 → o = 20 := by decide +kernel
theorem opM_8 : ∀ o, o < 30 → opM.getD o 0 = 8 → o = 22 := by decide +kernel
theorem opM_9 : ∀ o, o < 30 → opM.getD o 0 = 9 → o = 21 := by decide +kernel
