/-! AN INSTRUCTION IS PUT: WORLDS -/
abbrev wK3 (Y : Nat → ClassId) (n s s' cp cq : Nat) (ad : Nat → Nat) (M : vM) : va_W := pM (cK n s cp cq ad Y) (csK n s' cp) ad M
def gRow (o x y z : Int32) : Nat → Int32 := fun k => if k = 0 then o else if k = 1 then x else if k = 2 then y else if k = 3 then z else 0
def gIns (M : vM) (s : Nat) (o x y z : Int32) : vM := mRI M (ib s) (gRow o x y z)
def adI (ad : Nat → Nat) (s h0 : Nat) : Nat → Nat := fun c => if c = ib s then h0 else ad c
def gAdd3 (M : vM) (s : Nat) : vM := mI (mI M 3 0 (M.1 3 0 + 1)) 3 2 (nI (s + 1))
theorem gAdd3_n {M : vM} {s c : Nat} (h : c ≠ 3) : (gAdd3 M s).1 c = M.1 c := by
  unfold gAdd3; rw [mI_n _ _ _ _ h, mI_n _ _ _ _ h]
theorem csK_i {n s cp : Nat} : csK n (s + 1) cp = csK n s cp ++ [ib s] := by
  unfold csK
  rw [List.range_succ, List.map_append]
  simp only [List.append_assoc, List.map_cons, List.map_nil]
theorem csK_nz {n s cp cp' : Nat} (h : cp ≠ 0) (h' : cp' ≠ 0) : csK n s cp = csK n s cp' := by
  unfold csK; rw [if_neg h, if_neg h']
theorem csK_ib {c n s cp : Nat} (hn : n ≤ 16) (h : c ∈ csK n s cp) : c ≠ ib s := by
  rcases csK_mem h with h | ⟨-, h⟩ | ⟨i, k, h1, h2, h3⟩ | ⟨k, h1, h2⟩
  · intro z9
    have hb : ib s ∈ [0, 1, 2, 3, 5, 6, 14, 15, 16, 17, 18, 20, 21] := z9 ▸ h
    simp [ib] at hb
    omega
  · unfold ib; omega
  · unfold ib; unfold tb at h3; omega
  · unfold ib at h2 ⊢; omega
theorem mIk_c {s : Nat} {ad ad' : Nat → Nat} (h : ∀ j, j < s → ad' (ib j) = ad (ib j)) : mIk s ad' = mIk s ad := by
  funext j
  unfold mIk
  by_cases hj : j < s
  · rw [if_pos hj, if_pos hj, h j hj]
  · rw [if_neg hj, if_neg hj]
theorem mTk_c {n : Nat} {ad ad' : Nat → Nat} (h : ∀ j, j < n → ad' (tb j) = ad (tb j)) : mTk n ad' = mTk n ad := by
  funext j
  unfold mTk
  by_cases hj : j < n
  · rw [if_pos hj, if_pos hj, h j hj]
  · rw [if_neg hj, if_neg hj]
theorem mIk_s {s : Nat} {ad : Nat → Nat} : va_up (mIk s ad) s (some (ad (ib s))) = mIk (s + 1) ad := by
  funext j
  show (if j = s then some (ad (ib s)) else mIk s ad j) = _
  unfold mIk
  by_cases hjn : j = s
  · subst hjn; rw [if_pos rfl, if_pos (by omega)]
  · rw [if_neg hjn]
    by_cases hj2 : j < s
    · rw [if_pos hj2, if_pos (by omega)]
    · rw [if_neg hj2, if_neg (by omega)]
theorem mIk_cpy {s : Nat} {ad : Nat → Nat} : va_cpy (mIk s ad) (fun _ => none) 0 0 s = mIk s ad := by
  funext j
  unfold va_cpy
  by_cases hj : j < s
  · rw [if_pos ⟨Nat.zero_le _, by omega⟩]; congr 1; omega
  · rw [if_neg (by omega)]; unfold mIk; rw [if_neg hj]
section PUTL
variable {Y : Nat → ClassId} {ad : Nat → Nat} {M : vM} {n s cp cq : Nat}
theorem cK_all {c s0 cp0 : Nat} {ad' : Nat → Nat} {f : Nat → Int32} {g : Nat → Int64} (hc : c ∈ csK n s0 cp0) (hn : n ≤ 16) (h : ∀ x, x ≠ ib s → ad' x = ad x) : cK n s cp cq ad' Y c f g = cK n s cp cq ad Y c f g := by
  by_cases e4 : c = 4
  · subst e4; rw [hK_4, hK_4, mIk_c (fun j hj => h _ (by unfold ib; omega))]
  · by_cases e6 : c = 6
    · subst e6; rw [hK_6, hK_6, mTk_c (fun j hj => h _ (by unfold tb ib; omega))]
    · exact cK_cong hc hn e4 e6 (fun _ => h _ (by unfold ib; omega)) (fun _ => h _ (by unfold ib; omega)) (fun x _ _ hx => h x (by unfold tb at hx; unfold ib; omega))
theorem wI_eq {h0 : Nat} {o x y z : Int32} (hn : n ≤ 16) : wK Y n s cp cq ad M ++ [(h0, .inr (2, [.int o, .int x, .int y, .int z]))] = wK3 Y n s (s + 1) cp cq (adI ad s h0) (gIns M s o x y z) := by
  show pw (csK n s cp) ad _ ++ _ = pw (csK n (s + 1) cp) _ _
  rw [csK_i]
  unfold pw
  rw [List.map_append]
  have h1 : ∀ x, x ≠ ib s → adI ad s h0 x = ad x := fun x hx => if_neg hx
  have e1 : List.map (fun c => (ad c, cK n s cp cq ad Y c (M.1 c) (M.2 c))) (csK n s cp) = List.map (fun c => (adI ad s h0 c, cK n s cp cq (adI ad s h0) Y c ((gIns M s o x y z).1 c) ((gIns M s o x y z).2 c))) (csK n s cp) := by
    refine List.map_congr_left (fun c hc => ?_)
    have hcs := csK_ib hn hc
    rw [h1 c hcs, cK_all hc hn h1, show (gIns M s o x y z).1 c = M.1 c from mRI_n _ _ _ hcs]
    rfl
  rw [e1]
  congr 1
  show _ = [(adI ad s h0 (ib s), cK n s cp cq (adI ad s h0) Y (ib s) ((gIns M s o x y z).1 (ib s)) ((gIns M s o x y z).2 (ib s)))]
  rw [hI_ib, show adI ad s h0 (ib s) = h0 from if_pos rfl, show (gIns M s o x y z).1 (ib s) = gRow o x y z from mRI_r _ _ _]
  rfl
theorem add3_c {cp0 cp' : Nat} {ad' : Nat → Nat} {X : Nat → va_E} {c : Nat} (hc : c ∈ csK n (s + 1) cp0) (hn : n ≤ 16) (h3 : X 3 = .inr (0, GL ad' 3 ((gAdd3 M s).1 3))) (h4 : c = 4 → X 4 = aQ (Y 4) cp' (mIk (s + 1) ad')) (hX : ∀ c, c ≠ 3 → c ≠ 4 → X c = cK n s cp cq ad Y c (M.1 c) (M.2 c)) (had : ∀ x, x ≠ 4 → ad' x = ad x) : X c = cK n (s + 1) cp' cq ad' Y c ((gAdd3 M s).1 c) ((gAdd3 M s).2 c) := by
  by_cases e3 : c = 3
  · subst e3; rw [h3, hK_3]
  · by_cases e4 : c = 4
    · subst e4; rw [h4 rfl, hK_4]
    · rw [hX c e3 e4, gAdd3_n e3]
      show _ = cK n (s + 1) cp' cq ad' Y c (M.1 c) (M.2 c)
      by_cases e6 : c = 6
      · subst e6; rw [hK_6, hK_6, mTk_c (fun j _ => had _ (by unfold tb; omega))]
      · exact (cK_cong hc hn e4 e6 (fun z9 => absurd z9 e3) (fun _ => had _ (by decide)) (fun x h9 _ _ => had x h9)).symm
variable {A : Nat → Prop} {q0 q1 b9 : Nat}
theorem w3F (hD : va_D A (wK3 Y n s (s + 1) cp cq ad M)) (hn : n ≤ 16) (hcp : cp ≠ 0) (h3 : (csK n (s + 1) cp)[q0]? = some 3) (h4 : (csK n (s + 1) cp)[q1]? = some 4) : ((wK3 Y n s (s + 1) cp cq ad M).set q1 (ad 4, aQ (Y 4) cp (va_up (mIk s ad) s (some (ad (ib s)))))).set q0 (ad 3, lQ (M.1 3 0 + 1) (ad 4) (nI (s + 1))) = wK Y n (s + 1) cp cq ad (gAdd3 M s) := by
  obtain ⟨q9, g1, g2⟩ := pM_at (cell := cK n s cp cq ad Y) (cs := csK n (s + 1) cp) (ad := ad) (M := M) (mK_4 hcp) (hK_4 _ _)
  have hq : q9 = q1 := pw_inj hD g1 h4
  subst hq
  have hD2 := hD.set (e := aQ (Y 4) cp (va_up (mIk s ad) s (some (ad (ib s))))) g2
  unfold wK3 pM at hD hD2 ⊢
  rw [pw_set hD h4] at hD2 ⊢
  rw [pw_set hD2 h3]
  refine pw_congr (fun _ _ => rfl) (fun c hc => add3_c (cp := cp) (cq := cq) (ad := ad) hc hn ?_ (fun _ => ?_) (fun c e3 e4 => ?_) (fun _ _ => rfl))
  · rw [va_up_self]; unfold GL gAdd3; rw [mI_s, mI_o _ _ _ _ (by decide), mI_s]
  · rw [va_up_ne _ _ (by decide), va_up_self, mIk_s]
  · rw [va_up_ne _ _ e3, va_up_ne _ _ e4]
theorem w3G (hD : va_D A (wK3 Y n s (s + 1) cp cq ad M)) (hn : n ≤ 16) (hcp : cp ≠ 0) (h3 : (csK n (s + 1) cp)[q0]? = some 3) (h4 : (csK n (s + 1) cp)[q1]? = some 4) : ((wK3 Y n s (s + 1) cp cq ad M).set q0 (ad 3, lQ (M.1 3 0 + 1) b9 (nI (s + 1)))).set q1 (b9, aQ (Y 4) (ncap s) (va_up (va_cpy (mIk s ad) (fun _ => none) 0 0 s) s (some (ad (ib s))))) = wK Y n (s + 1) (ncap s) cq (fun c => if c = 4 then b9 else ad c) (gAdd3 M s) := by
  obtain ⟨q9, g1, g2⟩ := pM_at (cell := cK n s cp cq ad Y) (cs := csK n (s + 1) cp) (ad := ad) (M := M) mK_3 (hK_3 _ _)
  have hq : q9 = q0 := pw_inj hD g1 h3
  subst hq
  have hD2 := hD.set (e := lQ (M.1 3 0 + 1) b9 (nI (s + 1))) g2
  have hnc : ncap s ≠ 0 := by have := ncap_le s; omega
  unfold wK3 pM at hD hD2 ⊢
  rw [pw_set hD h3] at hD2 ⊢
  rw [pw_rep hD2 h4]
  show _ = pw (csK n (s + 1) (ncap s)) _ _
  rw [csK_nz (cp' := ncap s) hcp hnc]
  have hm : mIk (s + 1) (fun c => if c = 4 then b9 else ad c) = mIk (s + 1) ad := mIk_c (fun j _ => if_neg (by unfold ib; omega))
  refine pw_congr (fun _ _ => rfl) (fun c hc => add3_c (cp := cp) (cq := cq) (ad := ad) hc hn ?_ (fun _ => ?_) (fun c e3 e4 => ?_) (fun x hx => if_neg hx))
  · rw [va_up_ne _ _ (by decide), va_up_self]; unfold GL gAdd3; rw [mI_s, mI_o _ _ _ _ (by decide), mI_s]; rfl
  · rw [va_up_self, hm, mIk_cpy, mIk_s]
  · rw [va_up_ne _ _ e4, va_up_ne _ _ e3]
variable {K : vKt} {nL n1 n2 pc : Nat} {lv : List (Nat × Value)} {st : List Value}
theorem v_w3Z (hD : va_D A (wK3 Y n 0 1 0 cq ad M)) (hn : n ≤ 16) (h3 : (csK n 1 0)[q0]? = some 3) (kk : V K nL (wK Y n 1 10 cq (fun c => if c = 4 then b9 else ad c) (gAdd3 M 0)) n1 n2 pc lv st) : V K nL ((wK3 Y n 0 1 0 cq ad M).set q0 (ad 3, lQ (M.1 3 0 + 1) b9 (nI (0 + 1))) ++ [(b9, aQ (Y 4) (ncap 0) (va_up (va_cpy (mIk 0 ad) (fun _ => none) 0 0 0) 0 (some (ad (ib 0)))))]) n1 n2 pc lv st := by
  have hm : mIk (0 + 1) (fun c => if c = 4 then b9 else ad c) = mIk (0 + 1) ad := mIk_c (fun j _ => if_neg (by unfold ib; omega))
  have hs : (wK3 Y n 0 1 0 cq ad M).set q0 (ad 3, lQ (M.1 3 0 + 1) b9 (nI (0 + 1))) = pw (csK n 1 0) (fun c => if c = 4 then b9 else ad c) (fun c => cK n 1 10 cq (fun c => if c = 4 then b9 else ad c) Y c ((gAdd3 M 0).1 c) ((gAdd3 M 0).2 c)) := by
    unfold wK3 pM at hD ⊢
    rw [pw_set hD h3]
    refine pw_congr (fun c hc => ?_) (fun c hc => add3_c (s := 0) (cp := 0) (cq := cq) (ad := ad) hc hn ?_ (fun z9 => ?_) (fun c e3 e4 => ?_) (fun x hx => if_neg hx))
    · rw [if_neg]
      intro z9
      subst z9
      rcases csK_mem hc with h | ⟨h, -⟩ | ⟨i, k, -, -, h⟩ | ⟨k, -, h⟩
      · exact absurd h (by decide)
      · exact h rfl
      · unfold tb at h; omega
      · unfold ib at h; omega
    · rw [va_up_self]; unfold GL gAdd3; rw [mI_s, mI_o _ _ _ _ (by decide), mI_s]; rfl
    · exfalso
      subst z9
      rcases csK_mem hc with h | ⟨h, -⟩ | ⟨i, k, -, -, h⟩ | ⟨k, -, h⟩
      · exact absurd h (by decide)
      · exact h rfl
      · unfold tb at h; omega
      · unfold ib at h; omega
    · rw [va_up_ne _ _ e3]
  rw [hs]
  have hsp : csK n 1 0 = [0, 1, 2, 3, 5, 6, 14, 15, 16, 17, 18, 20, 21] ++ ((List.range n).flatMap (fun i => [tb i, tb i + 8, tb i + 9, tb i + 10, tb i + 11, tb i + 12, tb i + 13, tb i + 14, tb i + 15, tb i + 16, tb i + 17, tb i + 18]) ++ (List.range 1).map ib) := by
    unfold csK; rw [if_pos rfl, List.nil_append]
  rw [hsp, show ∀ (a b : List Nat) (f : Nat → Nat) (G : Nat → va_E), pw (a ++ b) f G = pw a f G ++ pw b f G from fun a b f G => List.map_append]
  refine v_swap ?_
  refine v_eqw ?_ kk
  show _ = pw (csK n 1 10) _ _
  have hsp2 : csK n 1 10 = ([0, 1, 2, 3, 5, 6, 14, 15, 16, 17, 18, 20, 21] ++ [4]) ++ ((List.range n).flatMap (fun i => [tb i, tb i + 8, tb i + 9, tb i + 10, tb i + 11, tb i + 12, tb i + 13, tb i + 14, tb i + 15, tb i + 16, tb i + 17, tb i + 18]) ++ (List.range 1).map ib) := by
    unfold csK; rw [if_neg (by decide), List.append_assoc]
  rw [hsp2]
  have e4 : [(b9, aQ (Y 4) (ncap 0) (va_up (va_cpy (mIk 0 ad) (fun _ => none) 0 0 0) 0 (some (ad (ib 0)))))] = pw [4] (fun c => if c = 4 then b9 else ad c) (fun c => cK n 1 10 cq (fun c => if c = 4 then b9 else ad c) Y c ((gAdd3 M 0).1 c) ((gAdd3 M 0).2 c)) := by
    show _ = [((if 4 = 4 then b9 else ad 4), cK n 1 10 cq (fun c => if c = 4 then b9 else ad c) Y 4 ((gAdd3 M 0).1 4) ((gAdd3 M 0).2 4))]
    rw [if_pos rfl, hK_4, hm, mIk_cpy, mIk_s]
    rfl
  rw [e4]
  unfold pw
  rw [← List.map_append, ← List.map_append]
end PUTL
