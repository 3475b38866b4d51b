/-! THE CLASS'S ROWS COPIED; LOGS AND STRANDS -/
theorem w_in_Sys : Cond.initialized "java/lang/System" ∈ gw := gw_in (i := 88) (by decide +kernel) (by decide +kernel)
theorem p_copyl {K : vKt} {cc : ByteArray} {own : String} {nL n1 n2 pc pc' : Nat} {lv : List (Nat × Value)} {st : List Value} {cell : vCell} {cs : List Nat} {ad : Nat → Nat} {M : vM} {c c2 : Nat} (X : vOk K cc own nL) {index : Nat} (hlink : Cond.methodLink own index arraycopyName ∈ gw) (hm : c ∈ cs) (hm2 : c2 ∈ cs) (t0 : Nat) {cT : ClassId} {m1 m2 : Nat} (he : ∀ f g, cell c f g = .inl (cT, m1, .inr (.inl g))) (he2 : ∀ f g, cell c2 f g = .inl (cT, m2, .inr (.inl g))) (ht : (vTy (kY K))[t0]? = some (cT, .long)) {ix iy iz : Int32} (sp dp nq : Nat) (hx : ix = nI sp) (hy : iy = nI dp) (hz : iz = nI nq) (h4 : sp + nq ≤ m1) (h5 : dp + nq ≤ m2) (h6 : m1 < 2 ^ 31) (h7 : m2 < 2 ^ 31) (hframes : 1 ≤ (kR K).frames) (hlocals : (st.map fun v => v.category).sum + (nativeFrameWords "java/lang/System" "arraycopy" 5 + 11) ≤ (kR K).locals) (d : decode cc pc = .ok (.invokestatic index, 3)) (e : pc + 3 = pc')
    (kk : V K nL (pM cell cs ad (mRL M c2 (vcp (M.2 c) sp dp nq (M.2 c2)))) n1 n2 pc' lv st) : V K nL (pM cell cs ad M) n1 n2 pc lv (.int iz :: .int iy :: .ref (ad c2) :: .int ix :: .ref (ad c) :: st) := by
  refine v_atD (fun hD9 => ?_)
  obtain ⟨q0, g1, g2⟩ := pM_at (ad := ad) (M := M) hm (he (M.1 c) (M.2 c))
  obtain ⟨q1, g3, g4⟩ := pM_at (ad := ad) (M := M) hm2 (he2 (M.1 c2) (M.2 c2))
  subst e hx hy hz
  intro H locs ls hP hD hS hl9
  refine va_copyl X.x X.b (X.1.2.2.1.trans hl9.1.symm) X.o (X.w hlink) (X.w w_na_System_arraycopy_723) (X.w w_st_System_arraycopy_723) (X.w w_in_Sys) X.k hP hD hS q0 q1 t0 t0 g2 g4 ht ht rfl (nI_pos (by omega)) (nI_pos (by omega)) (nI_pos (by omega)) (by rw [nI_clamp (by omega), nI_clamp (by omega)]; exact h4) (by rw [nI_clamp (by omega), nI_clamp (by omega)]; exact h5) (fun _ _ => rfl) hframes hlocals d (fun H1 locs1 hP1 hD1 hS1 => ?_)
  rw [nI_clamp (by omega), nI_clamp (by omega), nI_clamp (by omega)] at hP1 hD1
  have hset := pM_set2 hD9 g3 (f := vcp (M.2 c) sp dp nq (M.2 c2)) (e := .inl (cT, m2, .inr (.inl (vcp (M.2 c) sp dp nq (M.2 c2))))) (he2 _ _)
  have h8 : va_cpy (M.2 c) (M.2 c2) sp dp nq = vcp (M.2 c) sp dp nq (M.2 c2) := rfl
  rw [h8, hset] at hP1 hD1
  exact kk H1 locs1 ls hP1 hD1 hS1 hl9
def gRest (M : vM) (b k : Nat) : vM := mRL (mI (mI M b 11 (M.1 (b + 13) k)) b 10 (M.1 (b + 12) k)) (b + 8) (vcp (M.2 (b + 9)) (16 * k) 0 16 (M.2 (b + 8)))
def gOpen (M : vM) (b e : Nat) (kind alt : Int32) : vM :=
  let M1 := if kind = 0 then mI M b 13 (nI e) else M
  let M5 := mI (mI (mI (mI M1 (b + 11) e kind) (b + 12) e alt) (b + 13) e (M.1 b 11)) (b + 14) e (M.1 (b + 18) 4)
  mI (mRL M5 (b + 9) (vcp (M.2 (b + 8)) 0 (16 * e) 16 (M.2 (b + 9)))) b 12 (nI (e + 1))
def gBack (M : vM) (b k : Nat) : vM := gDrop (mI (gRest M b k) (b + 18) 4 (M.1 (b + 14) k)) b (nI k)
def gFail (M : vM) (b : Nat) (why : Int32) : vM := gClear (gDrop (mI (mI M b 8 4) b 9 why) b 0) b
def gAgain (M : vM) (b k : Nat) (clk : Int32) : vM := gBegin (gDrop (gRest M b k) b (nI (k + 1))) b clk
set_option maxHeartbeats 4000000 in
set_option maxRecDepth 100000 in
theorem c_X6_restore {l : Launch} {D : va_G} {Y : Nat → ClassId} {zz : Nat → Nat} {n s cp cq : Nat} {ad : Nat → Nat} {M : vM} {i k : Nat} (hi : i < n) (h16 : i < 16) (hk : k < 24) : Ct l D Y zz yX6_restore cX6_restore 2 none 1 60 [.ref (ad (tb i)), .int (nI k)] (wK Y n s cp cq ad M) 0 0 (fun r w => r = none ∧ w = wK Y n s cp cq ad (gRest M (tb i) k)) := by
  refine v_entry (by decide +kernel) (Nat.le_of_ble_eq_true rfl) ?_
  intro K X R hR hnm hl hD hY hz
  subst hl hD hY hz
  refine v_sub (lv' := [(0, .ref (ad (tb i))), (1, .int (nI k))]) [0, 1] rfl ?_
  refine v_aload_n (pc' := 1) (i := 0) (j := 0) X dX6_restore_0 rfl rfl rfl ?_
  refine v_aload_n (pc' := 2) (i := 0) (j := 0) X dX6_restore_1 rfl rfl rfl ?_
  refine fk_X6_25 (pc' := 5) X hi h16 dX6_restore_2 rfl ?_
  refine v_iload_n (pc' := 6) (i := 1) (j := 1) X dX6_restore_5 rfl rfl rfl ?_
  refine ak_G13 (pc' := 7) X hi h16 (v := M.1 (tb i + 13) k) (k) rfl (by omega) rfl dX6_restore_6 rfl ?_
  refine fq_X6_48 (pc' := 10) X hi h16 dX6_restore_7 rfl ?_
  refine v_aload_n (pc' := 11) (i := 0) (j := 0) X dX6_restore_10 rfl rfl rfl ?_
  refine v_aload_n (pc' := 12) (i := 0) (j := 0) X dX6_restore_11 rfl rfl rfl ?_
  refine fk_X6_22 (pc' := 15) X hi h16 dX6_restore_12 rfl ?_
  refine v_iload_n (pc' := 16) (i := 1) (j := 1) X dX6_restore_15 rfl rfl rfl ?_
  refine ak_G12 (pc' := 17) X hi h16 (v := M.1 (tb i + 12) k) (k) rfl (by omega) (congrFun (mI_n _ _ _ _ (by omega)) _) dX6_restore_16 rfl ?_
  refine fq_X6_57 (pc' := 20) X hi h16 dX6_restore_17 rfl ?_
  refine v_aload_n (pc' := 21) (i := 0) (j := 0) X dX6_restore_20 rfl rfl rfl ?_
  refine fk_X6_31 (pc' := 24) X hi h16 dX6_restore_21 rfl ?_
  refine v_iload_n (pc' := 25) (i := 1) (j := 1) X dX6_restore_24 rfl rfl rfl ?_
  refine v_bipush (pc' := 27) (v := 16) X dX6_restore_25 (by decide) rfl ?_
  refine v_imulV (pc' := 28) (v := nI ((k) * 16)) X (pk_mul (k) 16) dX6_restore_27 rfl ?_
  refine v_aload_n (pc' := 29) (i := 0) (j := 0) X dX6_restore_28 rfl rfl rfl ?_
  refine fk_X6_9 (pc' := 32) X hi h16 dX6_restore_29 rfl ?_
  refine v_iconst (pc' := 33) (v := 0) X dX6_restore_32 (by decide) rfl ?_
  refine v_bipush (pc' := 35) (v := 16) X dX6_restore_33 (by decide) rfl ?_
  refine p_copyl (pc' := 38) X w_ml_X6_63 (mG_9 hi) (mG_8 hi) 1 (hG_9 h16) (hG_8 h16) rfl ((k) * 16) (0) (16) rfl rfl rfl (by omega) (by omega) (by decide) (by decide) (by rw [hR]; exact Nat.le_of_ble_eq_true rfl) (by rw [hR]; exact Nat.le_of_ble_eq_true rfl) dX6_restore_35 rfl ?_
  refine v_return X R (Nat.zero_le _) (Nat.zero_le _) dX6_restore_38 ?_
  exact ⟨rfl, rfl⟩
