/-! GATHERING: the walk (reference) -/
set_option maxHeartbeats 4000000 in
set_option maxRecDepth 100000 in
/-- gather() -/
theorem c_X9_gather {l : Launch} {D : va_G} {Y : Nat → ClassId} {z : Nat → Nat} {n : Nat} {ad : Nat → Nat} {M : vM} {us : Nat} (hG : gOK M n us) : Ct l D Y z yX9_gather cX9_gather 5 none 4 89 [.ref (ad (0))] (wM Y n ad M) 0 0 (fun r w => r = none ∧ w = wM Y n ad (fGather M n us)) := by
  refine v_entry (by decide +kernel) (Nat.le_of_ble_eq_true rfl) ?_
  intro K X R hR hnm hl hD hY hz
  subst hl hD hY hz
  refine v_sub (lv' := [(0, .ref (ad (0)))]) [0] rfl ?_
  obtain ⟨hus, hus2, hn, hn16, hfs, hgl, hts, h17⟩ := id hG
  refine v_aload_n (pc' := 1) (i := 0) (j := 0) X dX9_gather_0 rfl rfl rfl ?_
  refine v_dup (pc' := 2) X dX9_gather_1 rfl rfl ?_
  refine fg_X9_226 (pc' := 5) X (v := M.1 0 6) rfl dX9_gather_2 rfl ?_
  refine v_iconst (pc' := 6) (v := 1) X dX9_gather_5 (by decide) rfl ?_
  refine v_iadd (pc' := 7) X dX9_gather_6 rfl ?_
  refine fp_X9_226 (pc' := 10) X dX9_gather_7 rfl ?_
  refine v_iconst (pc' := 11) (v := 0) X dX9_gather_10 (by decide) rfl ?_
  refine v_istore_n (pc' := 12) (i := 1) (lv' := [(1, .int 0), (0, .ref (ad (0)))]) X dX9_gather_11 rfl (by decide) rfl rfl ?_
  have hloop : ∀ (dd_hloop : Nat) (p : Nat), 200 - p < dd_hloop → (p ≤ 200) → V K 5 (wM (kY K) n ad (mRI (mI M 0 6 (M.1 0 6 + 1)) 18 (zr (M.1 18) p))) 0 0 12 [(1, .int (nI p)), (0, .ref (ad (0)))] [] := by
    intro dd_hloop
    induction dd_hloop with
    | zero => intro p hlt_hloop; exact absurd hlt_hloop (Nat.not_lt_zero _)
    | succ dd_hloop ih_hloop =>
      intro p hlt_hloop hp
      refine v_iload_n (pc' := 13) (i := 1) (j := 0) X dX9_gather_12 rfl rfl rfl ?_
      refine v_sipush (pc' := 16) (v := 200) X dX9_gather_13 (by decide) rfl ?_
      refine v_icmp_ge (pc' := 19) (tgt := 32) X dX9_gather_16 (by decide) rfl (fun hc_16 => ?_) (fun hc_16 => ?_)
      -- taken 16
      · have hpe : p = 200 := by have hh := le_of_nI (a := 200) (b := p) hc_16 (by omega) (by omega); omega
        rw [hpe]
        refine v_aload_n (pc' := 33) (i := 0) (j := 1) X dX9_gather_32 rfl rfl rfl ?_
        refine v_aload_n (pc' := 34) (i := 0) (j := 1) X dX9_gather_33 rfl rfl rfl ?_
        refine fg_X9_32 (pc' := 37) X dX9_gather_34 rfl ?_
        refine v_bipush (pc' := 39) (v := 8) X dX9_gather_37 (by decide) rfl ?_
        refine v_callV (pc' := 42) X (st := []) (c_X9_reachRow (M := (mRI (mI M 0 6 (M.1 0 6 + 1)) 18 (zr (M.1 18) 200))) mM_14 hM_14 (by decide) (e := 8) (by decide) hgl (by rw [mRI_r]; exact zr_01)) k_X9_reachRow w_ml_X9_229 w_im_X9_reachRow w_se_X9_X9_reachRow (rv_M) (by rw [hR]; exact ⟨Nat.le_of_ble_eq_true rfl, Nat.le_of_ble_eq_true rfl⟩) rfl rfl (Nat.le_of_ble_eq_true rfl) dX9_gather_39 rfl (⟨Nat.zero_le _, Nat.zero_le _⟩) ?_
        rintro _ _ ⟨x9, rfl, rfl⟩
        refine v_eqw (ws' := wM (kY K) n ad (fRoots M 0)) (by rw [mRI_mRI, mRI_r]; rfl) ?_
        refine v_pop (pc' := 43) X dX9_gather_42 rfl rfl ?_
        refine v_iconst (pc' := 44) (v := 0) X dX9_gather_43 (by decide) rfl ?_
        refine v_istore_n (pc' := 45) (i := 1) (lv' := [(1, .int 0), (0, .ref (ad (0)))]) X dX9_gather_44 rfl (by decide) rfl rfl ?_
        have hloop2 : ∀ (dd_hloop2 : Nat) (j : Nat), n - j < dd_hloop2 → (j ≤ n) → V K 5 (wM (kY K) n ad (fRoots M j)) 0 0 45 [(1, .int (nI j)), (0, .ref (ad (0)))] [] := by
          intro dd_hloop2
          induction dd_hloop2 with
          | zero => intro j hlt_hloop2; exact absurd hlt_hloop2 (Nat.not_lt_zero _)
          | succ dd_hloop2 ih_hloop2 =>
            intro j hlt_hloop2 hj
            refine v_iload_n (pc' := 46) (i := 1) (j := 0) X dX9_gather_45 rfl rfl rfl ?_
            refine v_aload_n (pc' := 47) (i := 0) (j := 1) X dX9_gather_46 rfl rfl rfl ?_
            refine fg_X9_7 (pc' := 50) X (v := nI n) ((fRoots_10 (by decide)).trans hn) dX9_gather_47 rfl ?_
            refine v_icmp_ge (pc' := 53) (tgt := 208) X dX9_gather_50 (by decide) rfl (fun hc_50 => ?_) (fun hc_50 => ?_)
            -- taken 50
            · have hje : j = n := by have hh := le_of_nI hc_50 (by omega) (by omega); omega
              rw [hje]
              have hGN : gOK (fRoots M n) n us := gOK_roots hG
              have hN01 : row01 ((fRoots M n).1 18) := fRoots_01 n
              generalize hNe : fRoots M n = N at hGN hN01 ⊢
              obtain ⟨hus, hus2, hn2, hn162, hfs, hgl2, hts2, h172⟩ := id hGN
              refine v_iconst (pc' := 209) (v := 1) X dX9_gather_208 (by decide) rfl ?_
              refine v_istore_n (pc' := 210) (i := 1) (lv' := [(1, .int 1), (0, .ref (ad (0)))]) X dX9_gather_209 rfl (by decide) rfl rfl ?_
              have hloop4 : ∀ (dd_hloop4 : Nat) (f : Nat → Int32) (x1 : Int32), 2 * zcnt f 200 + (if x1 = 0 then 0 else 1) < dd_hloop4 → (btw (N.1 18) (N.2 15) (N.2 16) us f) → ((x1 = 0 ∧ ∀ q, q < us → f q = 1 → ec (N.2 15) (N.2 16) f q) ∨ x1 = 1) → V K 5 (wM (kY K) n ad (mRI N 18 f)) 0 0 210 [(1, .int x1), (0, .ref (ad (0)))] [] := by
                intro dd_hloop4
                induction dd_hloop4 with
                | zero => intro f x1 hlt_hloop4; exact absurd hlt_hloop4 (Nat.not_lt_zero _)
                | succ dd_hloop4 ih_hloop4 =>
                  intro f x1 hlt_hloop4 hbf hx1
                  refine v_iload_n (pc' := 211) (i := 1) (j := 0) X dX9_gather_210 rfl rfl rfl ?_
                  refine v_if_eq (pc' := 214) (tgt := 273) X dX9_gather_211 (by decide) rfl (fun hc_211 => ?_) (fun hc_211 => ?_)
                  -- taken 211
                  · refine v_aload_n (pc' := 274) (i := 0) (j := 1) X dX9_gather_273 rfl rfl rfl ?_
                    refine v_callV (pc' := 277) X (st := []) (c_X9_slide (M := (mRI N 18 f)) (gOK_18 hGN)) k_X9_slide w_ml_X9_236 w_im_X9_slide w_se_X9_X9_slide (rv_M) (by rw [hR]; exact ⟨Nat.le_of_ble_eq_true rfl, Nat.le_of_ble_eq_true rfl⟩) rfl rfl (Nat.le_of_ble_eq_true rfl) dX9_gather_274 rfl (⟨Nat.zero_le _, Nat.zero_le _⟩) ?_
                    rintro _ _ ⟨rfl, rfl⟩
                    refine v_return X R (Nat.zero_le _) (Nat.zero_le _) dX9_gather_277 ?_
                    have hcl9 : ∀ q, q < us → f q = 1 → ec (N.2 15) (N.2 16) f q := (hx1.resolve_right (fun z9 => by rw [z9] at hc_211; exact absurd hc_211 (by decide))).2
                    have hfe := btw_end hus2 hbf hcl9
                    refine ⟨rfl, ?_⟩
                    unfold fGather
                    rw [hNe]
                    exact congrArg (fun f9 => wM (kY K) n ad (fSlide (mRI N 18 f9) n us)) hfe
                  -- not taken 211
                  · obtain rfl : x1 = 1 := hx1.resolve_left (fun z9 => hc_211 z9.1)
                    refine v_iconst (pc' := 215) (v := 0) X dX9_gather_214 (by decide) rfl ?_
                    refine v_istore_n (pc' := 216) (i := 1) (lv' := [(1, .int 0), (0, .ref (ad (0)))]) X dX9_gather_215 rfl (by decide) rfl rfl ?_
                    refine v_iconst (pc' := 217) (v := 0) X dX9_gather_216 (by decide) rfl ?_
                    refine v_istore_n (pc' := 218) (i := 2) (lv' := [(2, .int 0), (1, .int 0), (0, .ref (ad (0)))]) X dX9_gather_217 rfl (by decide) rfl rfl ?_
                    have hloop5 : ∀ (dd_hloop5 : Nat) (p : Nat) (g : Nat → Int32) (x2 : Int32), us - p < dd_hloop5 → (p ≤ us) → (btw (N.1 18) (N.2 15) (N.2 16) us g) → (PX (N.2 15) (N.2 16) x2 g f p) → V K 5 (wM (kY K) n ad (mRI N 18 g)) 0 0 218 [(2, .int (nI p)), (1, .int x2), (0, .ref (ad (0)))] [] := by
                      intro dd_hloop5
                      induction dd_hloop5 with
                      | zero => intro p g x2 hlt_hloop5; exact absurd hlt_hloop5 (Nat.not_lt_zero _)
                      | succ dd_hloop5 ih_hloop5 =>
                        intro p g x2 hlt_hloop5 hp hbg hpx
                        refine v_iload_n (pc' := 219) (i := 2) (j := 0) X dX9_gather_218 rfl rfl rfl ?_
                        refine v_aload_n (pc' := 220) (i := 0) (j := 2) X dX9_gather_219 rfl rfl rfl ?_
                        refine fg_X9_143 (pc' := 223) X (v := nI us) ((congrFun (mRI_n _ _ _ (by decide)) _).trans hus) dX9_gather_220 rfl ?_
                        refine v_icmp_ge (pc' := 226) (tgt := 270) X dX9_gather_223 (by decide) rfl (fun hc_223 => ?_) (fun hc_223 => ?_)
                        -- taken 223
                        · refine v_goto (pc' := 210) X dX9_gather_270 (by decide) ?_
                          have hpe : p = us := by have hh := le_of_nI hc_223 (by omega) (by omega); omega
                          rw [hpe] at hpx
                          refine v_sub (lv' := [(1, .int x2), (0, .ref (ad (0)))]) [1, 2] rfl ?_
                          exact ih_hloop4 g x2 (by rcases hpx with ⟨rfl, rfl, -⟩ | ⟨rfl, hz⟩ <;> simp at hlt_hloop4 ⊢ <;> omega) hbg (by rcases hpx with ⟨rfl, -, hq9⟩ | ⟨rfl, -⟩; exact Or.inl ⟨rfl, hq9⟩; exact Or.inr rfl)
                        -- not taken 223
                        · have hpu : p < us := by
                            rcases Nat.lt_or_ge p us with q9 | q9
                            · exact q9
                            · exact absurd (nI_le q9 (by omega)) hc_223
                          refine v_aload_n (pc' := 227) (i := 0) (j := 2) X dX9_gather_226 rfl rfl rfl ?_
                          refine fg_X9_46 (pc' := 230) X dX9_gather_227 rfl ?_
                          refine v_iload_n (pc' := 231) (i := 2) (j := 0) X dX9_gather_230 rfl rfl rfl ?_
                          refine ag_M18 (pc' := 232) X (v := (g) p) (p) rfl (by omega) (congrFun (mRI_r _ _ _) _) dX9_gather_231 rfl ?_
                          refine v_if_ne (pc' := 235) (tgt := 238) X dX9_gather_232 (by decide) rfl (fun hc_232 => ?_) (fun hc_232 => ?_)
                          -- taken 232
                          · have hg1 : g p = 1 := (hbg.1 p (by omega)).resolve_left hc_232
                            have hclp := Cl_e hpu (hbg.2.2.2 p (by omega) hg1)
                            have hb1 : btw (N.1 18) (N.2 15) (N.2 16) us (mk1 g (N.2 15 p)) := btw_mk hbg (hfs p hpu).1 hclp.1
                            have hb2 : btw (N.1 18) (N.2 15) (N.2 16) us (mk1 (mk1 g (N.2 15 p)) (N.2 16 p)) := btw_mk hb1 (hfs p hpu).2 hclp.2
                            refine v_iload_n (pc' := 239) (i := 1) (j := 1) X dX9_gather_238 rfl rfl rfl ?_
                            refine v_aload_n (pc' := 240) (i := 0) (j := 2) X dX9_gather_239 rfl rfl rfl ?_
                            refine v_aload_n (pc' := 241) (i := 0) (j := 2) X dX9_gather_240 rfl rfl rfl ?_
                            refine fg_X9_36 (pc' := 244) X dX9_gather_241 rfl ?_
                            refine v_iload_n (pc' := 245) (i := 2) (j := 0) X dX9_gather_244 rfl rfl rfl ?_
                            refine ag_M15 (pc' := 246) X (v := N.2 15 p) (p) rfl (by omega) (congrFun (congrFun (mRI_2 _ _ _) _) _) dX9_gather_245 rfl ?_
                            refine v_callV (pc' := 249) X (st := [.int x2]) (c_X9_reach (M := (mRI N 18 g)) (v := N.2 15 p) (hfs p hpu).1 (by rw [mRI_r]; exact hbg.1)) k_X9_reach w_ml_X9_219 w_im_X9_reach w_se_X9_X9_reach (rv_M) (by rw [hR]; exact ⟨Nat.le_of_ble_eq_true rfl, Nat.le_of_ble_eq_true rfl⟩) rfl rfl (Nat.le_of_ble_eq_true rfl) dX9_gather_246 rfl (⟨Nat.zero_le _, Nat.zero_le _⟩) ?_
                            rintro _ _ ⟨rfl, rfl⟩
                            refine v_eqw (ws' := wM (kY K) n ad (mRI N 18 (mk1 g (N.2 15 p)))) (by rw [mRI_mRI, mRI_r]) ?_
                            rw [mRI_r]
                            refine v_ior (pc' := 250) X dX9_gather_249 rfl ?_
                            refine v_istore_n (pc' := 251) (i := 1) (lv' := [(1, .int (x2 ||| (bP (¬ isI (N.2 15 p) ∧ g (pl (N.2 15 p)) = 0)))), (2, .int (nI p)), (0, .ref (ad (0)))]) X dX9_gather_250 rfl (by decide) rfl rfl ?_
                            refine v_iload_n (pc' := 252) (i := 1) (j := 0) X dX9_gather_251 rfl rfl rfl ?_
                            refine v_aload_n (pc' := 253) (i := 0) (j := 2) X dX9_gather_252 rfl rfl rfl ?_
                            refine v_aload_n (pc' := 254) (i := 0) (j := 2) X dX9_gather_253 rfl rfl rfl ?_
                            refine fg_X9_39 (pc' := 257) X dX9_gather_254 rfl ?_
                            refine v_iload_n (pc' := 258) (i := 2) (j := 1) X dX9_gather_257 rfl rfl rfl ?_
                            refine ag_M16 (pc' := 259) X (v := N.2 16 p) (p) rfl (by omega) (congrFun (congrFun (mRI_2 _ _ _) _) _) dX9_gather_258 rfl ?_
                            refine v_callV (pc' := 262) X (st := [.int (x2 ||| (bP (¬ isI (N.2 15 p) ∧ g (pl (N.2 15 p)) = 0)))]) (c_X9_reach (M := (mRI N 18 (mk1 g (N.2 15 p)))) (v := N.2 16 p) (hfs p hpu).2 (by rw [mRI_r]; exact hb1.1)) k_X9_reach w_ml_X9_219 w_im_X9_reach w_se_X9_X9_reach (rv_M) (by rw [hR]; exact ⟨Nat.le_of_ble_eq_true rfl, Nat.le_of_ble_eq_true rfl⟩) rfl rfl (Nat.le_of_ble_eq_true rfl) dX9_gather_259 rfl (⟨Nat.zero_le _, Nat.zero_le _⟩) ?_
                            rintro _ _ ⟨rfl, rfl⟩
                            refine v_eqw (ws' := wM (kY K) n ad (mRI N 18 (mk1 (mk1 g (N.2 15 p)) (N.2 16 p)))) (by rw [mRI_mRI, mRI_r]) ?_
                            rw [mRI_r]
                            refine v_ior (pc' := 263) X dX9_gather_262 rfl ?_
                            refine v_istore_n (pc' := 264) (i := 1) (lv' := [(1, .int ((x2 ||| (bP (¬ isI (N.2 15 p) ∧ g (pl (N.2 15 p)) = 0))) ||| (bP (¬ isI (N.2 16 p) ∧ (mk1 g (N.2 15 p)) (pl (N.2 16 p)) = 0)))), (2, .int (nI p)), (0, .ref (ad (0)))]) X dX9_gather_263 rfl (by decide) rfl rfl ?_
                            refine v_iinc (pc' := 267) (j := 1) (v := nI (p + 1)) (lv' := [(2, .int (nI (p + 1))), (1, .int ((x2 ||| (bP (¬ isI (N.2 15 p) ∧ g (pl (N.2 15 p)) = 0))) ||| (bP (¬ isI (N.2 16 p) ∧ (mk1 g (N.2 15 p)) (pl (N.2 16 p)) = 0)))), (0, .ref (ad (0)))]) X dX9_gather_264 rfl (nI_add (p) 1) (by decide) rfl rfl ?_
                            refine v_goto (pc' := 218) X dX9_gather_267 (by decide) ?_
                            exact ih_hloop5 (p + 1) _ _ (by omega) (by omega) hb2 (PX_step hpx hbg.1 (hfs p hpu).1 (hfs p hpu).2)
                          -- not taken 232
                          · refine v_goto (pc' := 264) X dX9_gather_235 (by decide) ?_
                            refine v_iinc (pc' := 267) (j := 0) (v := nI (p + 1)) (lv' := [(2, .int (nI (p + 1))), (1, .int x2), (0, .ref (ad (0)))]) X dX9_gather_264 rfl (nI_add (p) 1) (by decide) rfl rfl ?_
                            refine v_goto (pc' := 218) X dX9_gather_267 (by decide) ?_
                            exact ih_hloop5 (p + 1) g x2 (by omega) (by omega) hbg (PX_skip hpx hc_232)
                    exact hloop5 _ 0 f 0 (Nat.lt_succ_self _) (Nat.zero_le _) hbf (Or.inl ⟨rfl, rfl, fun q9 h9 => absurd h9 (Nat.not_lt_zero q9)⟩)
              refine v_eqw (ws' := wM (kY K) n ad (mRI N 18 (N.1 18))) (by rw [mRI_self]) ?_
              exact hloop4 _ (N.1 18) 1 (Nat.lt_succ_self _) ⟨hN01, fun _ _ h9 => h9, fun _ _ => rfl, fun p9 _ h9 S9 hr9 _ => hr9 p9 h9⟩ (Or.inr rfl)
            -- not taken 50
            · have hjn : j < n := by
                rcases Nat.lt_or_ge j n with q9 | q9
                · exact q9
                · exact absurd (nI_le q9 (by omega)) hc_50
              obtain ⟨e, r, ww, h4, he, h5, hr, h6, hw, h8a, h9, h15, h16, h17t⟩ := hts j hjn
              have hX : (fRoots M j).1 (tb j) = M.1 (tb j) := fRoots_1 (by unfold tb; omega) (by unfold tb; omega)
              have hX4 : (fRoots M j).1 (tb j) 4 = M.1 (tb j) 4 := congrFun hX 4
              have hX5 : (fRoots M j).1 (tb j) 5 = M.1 (tb j) 5 := congrFun hX 5
              have hX6 : (fRoots M j).1 (tb j) 6 = M.1 (tb j) 6 := congrFun hX 6
              have h8 : ∀ k, k < 16 → ok1 ((fRoots M j).2 (tb j + 8) k) := fun k9 hk9 => fRoots_reg (h8a k9 hk9)
              have hX9 : (fRoots M j).2 (tb j + 9) = M.2 (tb j + 9) := fRoots_2 (fun j9 hj9 => by unfold tb; omega)
              have hX15 : (fRoots M j).2 (tb j + 15) = M.2 (tb j + 15) := fRoots_2 (fun j9 hj9 => by unfold tb; omega)
              have hX16 : (fRoots M j).2 (tb j + 16) = M.2 (tb j + 16) := fRoots_2 (fun j9 hj9 => by unfold tb; omega)
              have hX17 : (fRoots M j).2 (tb j + 17) = M.2 (tb j + 17) := fRoots_2 (fun j9 hj9 => by unfold tb; omega)
              have h01 : row01 ((fRoots M j).1 18) := fRoots_01 j
              have hr01 : row01 ((fRoots M j).1 18) := fRoots_01 j
              have hj136 : V K 5 (wM (kY K) n ad (mRL (fRoots M j) (tb j + 8) (rzR ((fRoots M j).1 (tb j) 0) ((fRoots M j).2 (tb j + 8)) 16))) 0 0 136 [(2, .ref (ad (tb j))), (1, .int (nI j)), (0, .ref (ad (0)))] [] := by
                have hX18 : (mRL (fRoots M j) (tb j + 8) (rzR ((fRoots M j).1 (tb j) 0) ((fRoots M j).2 (tb j + 8)) 16)).1 18 = (fRoots M j).1 18 := rfl
                replace hX9 : ∀ f9 : Nat → Int32, (mRI (mRL (fRoots M j) (tb j + 8) (rzR ((fRoots M j).1 (tb j) 0) ((fRoots M j).2 (tb j + 8)) 16)) 18 f9).2 (tb j + 9) = M.2 (tb j + 9) := fun f9 => (mRL_n _ _ _ (by omega)).trans hX9
                replace hX15 : ∀ f9 : Nat → Int32, (mRI (mRL (fRoots M j) (tb j + 8) (rzR ((fRoots M j).1 (tb j) 0) ((fRoots M j).2 (tb j + 8)) 16)) 18 f9).2 (tb j + 15) = M.2 (tb j + 15) := fun f9 => (mRL_n _ _ _ (by omega)).trans hX15
                replace hX16 : ∀ f9 : Nat → Int32, (mRI (mRL (fRoots M j) (tb j + 8) (rzR ((fRoots M j).1 (tb j) 0) ((fRoots M j).2 (tb j + 8)) 16)) 18 f9).2 (tb j + 16) = M.2 (tb j + 16) := fun f9 => (mRL_n _ _ _ (by omega)).trans hX16
                replace hX17 : ∀ f9 : Nat → Int32, (mRI (mRL (fRoots M j) (tb j + 8) (rzR ((fRoots M j).1 (tb j) 0) ((fRoots M j).2 (tb j + 8)) 16)) 18 f9).2 (tb j + 17) = M.2 (tb j + 17) := fun f9 => (mRL_n _ _ _ (by omega)).trans hX17
                refine v_aload_n (pc' := 137) (i := 0) (j := 2) X dX9_gather_136 rfl rfl rfl ?_
                refine v_aload_n (pc' := 138) (i := 2) (j := 0) X dX9_gather_137 rfl rfl rfl ?_
                refine fg_X9_105 (pc' := 141) X hjn dX9_gather_138 rfl ?_
                refine v_bipush (pc' := 143) (v := 16) X dX9_gather_141 (by decide) rfl ?_
                refine v_callV (pc' := 146) X (st := []) (c_X9_reachRow (M := (mRL (fRoots M j) (tb j + 8) (rzR ((fRoots M j).1 (tb j) 0) ((fRoots M j).2 (tb j + 8)) 16))) (mT_8 hjn) hT_8 (by decide) (e := 16) (by omega) (fun k9 hk9 => by rw [mRL_r]; exact rzR_ok (h8 k9 hk9)) (by rw [hX18]; exact h01)) k_X9_reachRow w_ml_X9_229 w_im_X9_reachRow w_se_X9_X9_reachRow (rv_M) (by rw [hR]; exact ⟨Nat.le_of_ble_eq_true rfl, Nat.le_of_ble_eq_true rfl⟩) rfl rfl (Nat.le_of_ble_eq_true rfl) dX9_gather_143 rfl (⟨Nat.zero_le _, Nat.zero_le _⟩) ?_
                rintro _ _ ⟨x9, rfl, rfl⟩
                refine v_eqw (ws' := wM (kY K) n ad (mRI (mRL (fRoots M j) (tb j + 8) (rzR ((fRoots M j).1 (tb j) 0) ((fRoots M j).2 (tb j + 8)) 16)) 18 (mkR ((fRoots M j).1 18) (rzR ((fRoots M j).1 (tb j) 0) ((fRoots M j).2 (tb j + 8)) 16) 16))) (by rw [mRL_1, mRL_r]) ?_
                replace hr01 := mkR_01 hr01 (rzR ((fRoots M j).1 (tb j) 0) ((fRoots M j).2 (tb j + 8)) 16) 16
                refine v_pop (pc' := 147) X dX9_gather_146 rfl rfl ?_
                refine v_aload_n (pc' := 148) (i := 0) (j := 2) X dX9_gather_147 rfl rfl rfl ?_
                refine v_aload_n (pc' := 149) (i := 2) (j := 0) X dX9_gather_148 rfl rfl rfl ?_
                refine fg_X9_233 (pc' := 152) X hjn dX9_gather_149 rfl ?_
                refine v_bipush (pc' := 154) (v := 16) X dX9_gather_152 (by decide) rfl ?_
                refine v_aload_n (pc' := 155) (i := 2) (j := 0) X dX9_gather_154 rfl rfl rfl ?_
                refine fg_X9_121 (pc' := 158) X hjn (v := nI e) ((congrFun (mRI_n _ _ _ (by unfold tb; omega)) _).trans ((congrFun (congrFun (mRL_1 _ _ _) _) _).trans (hX4.trans h4))) dX9_gather_155 rfl ?_
                refine v_imulV (pc' := 159) (v := nI (16 * (e))) X (pk_mul 16 (e)) dX9_gather_158 rfl ?_
                refine v_callV (pc' := 162) X (st := []) (c_X9_reachRow (M := (mRI (mRL (fRoots M j) (tb j + 8) (rzR ((fRoots M j).1 (tb j) 0) ((fRoots M j).2 (tb j + 8)) 16)) 18 (mkR ((fRoots M j).1 18) (rzR ((fRoots M j).1 (tb j) 0) ((fRoots M j).2 (tb j + 8)) 16) 16))) (mT_9 hjn) hT_9 (by decide) (e := 16 * (e)) (by omega) (fun k9 hk9 => by rw [hX9]; exact h9 k9 hk9) (by rw [mRI_r]; exact hr01)) k_X9_reachRow w_ml_X9_229 w_im_X9_reachRow w_se_X9_X9_reachRow (rv_M) (by rw [hR]; exact ⟨Nat.le_of_ble_eq_true rfl, Nat.le_of_ble_eq_true rfl⟩) rfl rfl (Nat.le_of_ble_eq_true rfl) dX9_gather_159 rfl (⟨Nat.zero_le _, Nat.zero_le _⟩) ?_
                rintro _ _ ⟨x9, rfl, rfl⟩
                refine v_eqw (ws' := wM (kY K) n ad (mRI (mRL (fRoots M j) (tb j + 8) (rzR ((fRoots M j).1 (tb j) 0) ((fRoots M j).2 (tb j + 8)) 16)) 18 (mkR (mkR ((fRoots M j).1 18) (rzR ((fRoots M j).1 (tb j) 0) ((fRoots M j).2 (tb j + 8)) 16) 16) ((fRoots M j).2 (tb j + 9)) (16 * (e))))) (by rw [mRI_mRI, mRI_r, show (mRI (mRL (fRoots M j) (tb j + 8) (rzR ((fRoots M j).1 (tb j) 0) ((fRoots M j).2 (tb j + 8)) 16)) 18 (mkR ((fRoots M j).1 18) (rzR ((fRoots M j).1 (tb j) 0) ((fRoots M j).2 (tb j + 8)) 16) 16)).2 (tb j + 9) = (fRoots M j).2 (tb j + 9) from mRL_n _ _ _ (by omega)]) ?_
                replace hr01 := mkR_01 hr01 ((fRoots M j).2 (tb j + 9)) (16 * (e))
                refine v_pop (pc' := 163) X dX9_gather_162 rfl rfl ?_
                refine v_aload_n (pc' := 164) (i := 0) (j := 2) X dX9_gather_163 rfl rfl rfl ?_
                refine v_aload_n (pc' := 165) (i := 2) (j := 0) X dX9_gather_164 rfl rfl rfl ?_
                refine fg_X9_152 (pc' := 168) X hjn dX9_gather_165 rfl ?_
                refine v_aload_n (pc' := 169) (i := 2) (j := 0) X dX9_gather_168 rfl rfl rfl ?_
                refine fg_X9_149 (pc' := 172) X hjn (v := nI r) ((congrFun (mRI_n _ _ _ (by unfold tb; omega)) _).trans ((congrFun (congrFun (mRL_1 _ _ _) _) _).trans (hX5.trans h5))) dX9_gather_169 rfl ?_
                refine v_callV (pc' := 175) X (st := []) (c_X9_reachRow (M := (mRI (mRL (fRoots M j) (tb j + 8) (rzR ((fRoots M j).1 (tb j) 0) ((fRoots M j).2 (tb j + 8)) 16)) 18 (mkR (mkR ((fRoots M j).1 18) (rzR ((fRoots M j).1 (tb j) 0) ((fRoots M j).2 (tb j + 8)) 16) 16) ((fRoots M j).2 (tb j + 9)) (16 * (e))))) (mT_15 hjn) hT_15 (by decide) (e := r) (by omega) (fun k9 hk9 => by rw [hX15]; exact h15 k9 hk9) (by rw [mRI_r]; exact hr01)) k_X9_reachRow w_ml_X9_229 w_im_X9_reachRow w_se_X9_X9_reachRow (rv_M) (by rw [hR]; exact ⟨Nat.le_of_ble_eq_true rfl, Nat.le_of_ble_eq_true rfl⟩) rfl rfl (Nat.le_of_ble_eq_true rfl) dX9_gather_172 rfl (⟨Nat.zero_le _, Nat.zero_le _⟩) ?_
                rintro _ _ ⟨x9, rfl, rfl⟩
                refine v_eqw (ws' := wM (kY K) n ad (mRI (mRL (fRoots M j) (tb j + 8) (rzR ((fRoots M j).1 (tb j) 0) ((fRoots M j).2 (tb j + 8)) 16)) 18 (mkR (mkR (mkR ((fRoots M j).1 18) (rzR ((fRoots M j).1 (tb j) 0) ((fRoots M j).2 (tb j + 8)) 16) 16) ((fRoots M j).2 (tb j + 9)) (16 * (e))) ((fRoots M j).2 (tb j + 15)) r))) (by rw [mRI_mRI, mRI_r, show (mRI (mRL (fRoots M j) (tb j + 8) (rzR ((fRoots M j).1 (tb j) 0) ((fRoots M j).2 (tb j + 8)) 16)) 18 (mkR (mkR ((fRoots M j).1 18) (rzR ((fRoots M j).1 (tb j) 0) ((fRoots M j).2 (tb j + 8)) 16) 16) ((fRoots M j).2 (tb j + 9)) (16 * (e)))).2 (tb j + 15) = (fRoots M j).2 (tb j + 15) from mRL_n _ _ _ (by omega)]) ?_
                replace hr01 := mkR_01 hr01 ((fRoots M j).2 (tb j + 15)) r
                refine v_pop (pc' := 176) X dX9_gather_175 rfl rfl ?_
                refine v_aload_n (pc' := 177) (i := 0) (j := 2) X dX9_gather_176 rfl rfl rfl ?_
                refine v_aload_n (pc' := 178) (i := 2) (j := 0) X dX9_gather_177 rfl rfl rfl ?_
                refine fg_X9_175 (pc' := 181) X hjn dX9_gather_178 rfl ?_
                refine v_aload_n (pc' := 182) (i := 2) (j := 0) X dX9_gather_181 rfl rfl rfl ?_
                refine fg_X9_172 (pc' := 185) X hjn (v := nI ww) ((congrFun (mRI_n _ _ _ (by unfold tb; omega)) _).trans ((congrFun (congrFun (mRL_1 _ _ _) _) _).trans (hX6.trans h6))) dX9_gather_182 rfl ?_
                refine v_callV (pc' := 188) X (st := []) (c_X9_reachRow (M := (mRI (mRL (fRoots M j) (tb j + 8) (rzR ((fRoots M j).1 (tb j) 0) ((fRoots M j).2 (tb j + 8)) 16)) 18 (mkR (mkR (mkR ((fRoots M j).1 18) (rzR ((fRoots M j).1 (tb j) 0) ((fRoots M j).2 (tb j + 8)) 16) 16) ((fRoots M j).2 (tb j + 9)) (16 * (e))) ((fRoots M j).2 (tb j + 15)) r))) (mT_16 hjn) hT_16 (by decide) (e := ww) (by omega) (fun k9 hk9 => by rw [hX16]; exact h16 k9 hk9) (by rw [mRI_r]; exact hr01)) k_X9_reachRow w_ml_X9_229 w_im_X9_reachRow w_se_X9_X9_reachRow (rv_M) (by rw [hR]; exact ⟨Nat.le_of_ble_eq_true rfl, Nat.le_of_ble_eq_true rfl⟩) rfl rfl (Nat.le_of_ble_eq_true rfl) dX9_gather_185 rfl (⟨Nat.zero_le _, Nat.zero_le _⟩) ?_
                rintro _ _ ⟨x9, rfl, rfl⟩
                refine v_eqw (ws' := wM (kY K) n ad (mRI (mRL (fRoots M j) (tb j + 8) (rzR ((fRoots M j).1 (tb j) 0) ((fRoots M j).2 (tb j + 8)) 16)) 18 (mkR (mkR (mkR (mkR ((fRoots M j).1 18) (rzR ((fRoots M j).1 (tb j) 0) ((fRoots M j).2 (tb j + 8)) 16) 16) ((fRoots M j).2 (tb j + 9)) (16 * (e))) ((fRoots M j).2 (tb j + 15)) r) ((fRoots M j).2 (tb j + 16)) ww))) (by rw [mRI_mRI, mRI_r, show (mRI (mRL (fRoots M j) (tb j + 8) (rzR ((fRoots M j).1 (tb j) 0) ((fRoots M j).2 (tb j + 8)) 16)) 18 (mkR (mkR (mkR ((fRoots M j).1 18) (rzR ((fRoots M j).1 (tb j) 0) ((fRoots M j).2 (tb j + 8)) 16) 16) ((fRoots M j).2 (tb j + 9)) (16 * (e))) ((fRoots M j).2 (tb j + 15)) r)).2 (tb j + 16) = (fRoots M j).2 (tb j + 16) from mRL_n _ _ _ (by omega)]) ?_
                replace hr01 := mkR_01 hr01 ((fRoots M j).2 (tb j + 16)) ww
                refine v_pop (pc' := 189) X dX9_gather_188 rfl rfl ?_
                refine v_aload_n (pc' := 190) (i := 0) (j := 2) X dX9_gather_189 rfl rfl rfl ?_
                refine v_aload_n (pc' := 191) (i := 2) (j := 0) X dX9_gather_190 rfl rfl rfl ?_
                refine fg_X9_178 (pc' := 194) X hjn dX9_gather_191 rfl ?_
                refine v_aload_n (pc' := 195) (i := 2) (j := 0) X dX9_gather_194 rfl rfl rfl ?_
                refine fg_X9_172 (pc' := 198) X hjn (v := nI ww) ((congrFun (mRI_n _ _ _ (by unfold tb; omega)) _).trans ((congrFun (congrFun (mRL_1 _ _ _) _) _).trans (hX6.trans h6))) dX9_gather_195 rfl ?_
                refine v_callV (pc' := 201) X (st := []) (c_X9_reachRow (M := (mRI (mRL (fRoots M j) (tb j + 8) (rzR ((fRoots M j).1 (tb j) 0) ((fRoots M j).2 (tb j + 8)) 16)) 18 (mkR (mkR (mkR (mkR ((fRoots M j).1 18) (rzR ((fRoots M j).1 (tb j) 0) ((fRoots M j).2 (tb j + 8)) 16) 16) ((fRoots M j).2 (tb j + 9)) (16 * (e))) ((fRoots M j).2 (tb j + 15)) r) ((fRoots M j).2 (tb j + 16)) ww))) (mT_17 hjn) hT_17 (by decide) (e := ww) (by omega) (fun k9 hk9 => by rw [hX17]; exact h17t k9 hk9) (by rw [mRI_r]; exact hr01)) k_X9_reachRow w_ml_X9_229 w_im_X9_reachRow w_se_X9_X9_reachRow (rv_M) (by rw [hR]; exact ⟨Nat.le_of_ble_eq_true rfl, Nat.le_of_ble_eq_true rfl⟩) rfl rfl (Nat.le_of_ble_eq_true rfl) dX9_gather_198 rfl (⟨Nat.zero_le _, Nat.zero_le _⟩) ?_
                rintro _ _ ⟨x9, rfl, rfl⟩
                refine v_eqw (ws' := wM (kY K) n ad (mRI (mRL (fRoots M j) (tb j + 8) (rzR ((fRoots M j).1 (tb j) 0) ((fRoots M j).2 (tb j + 8)) 16)) 18 (mkR (mkR (mkR (mkR (mkR ((fRoots M j).1 18) (rzR ((fRoots M j).1 (tb j) 0) ((fRoots M j).2 (tb j + 8)) 16) 16) ((fRoots M j).2 (tb j + 9)) (16 * (e))) ((fRoots M j).2 (tb j + 15)) r) ((fRoots M j).2 (tb j + 16)) ww) ((fRoots M j).2 (tb j + 17)) ww))) (by rw [mRI_mRI, mRI_r, show (mRI (mRL (fRoots M j) (tb j + 8) (rzR ((fRoots M j).1 (tb j) 0) ((fRoots M j).2 (tb j + 8)) 16)) 18 (mkR (mkR (mkR (mkR ((fRoots M j).1 18) (rzR ((fRoots M j).1 (tb j) 0) ((fRoots M j).2 (tb j + 8)) 16) 16) ((fRoots M j).2 (tb j + 9)) (16 * (e))) ((fRoots M j).2 (tb j + 15)) r) ((fRoots M j).2 (tb j + 16)) ww)).2 (tb j + 17) = (fRoots M j).2 (tb j + 17) from mRL_n _ _ _ (by omega)]) ?_
                replace hr01 := mkR_01 hr01 ((fRoots M j).2 (tb j + 17)) ww
                refine v_pop (pc' := 202) X dX9_gather_201 rfl rfl ?_
                refine v_iinc (pc' := 205) (j := 1) (v := nI (j + 1)) (lv' := [(1, .int (nI (j + 1))), (2, .ref (ad (tb j))), (0, .ref (ad (0)))]) X dX9_gather_202 rfl (nI_add (j) 1) (by decide) rfl rfl ?_
                refine v_goto (pc' := 45) X dX9_gather_205 (by decide) ?_
                have hW : fRoots M (j + 1) = (mRI (mRL (fRoots M j) (tb j + 8) (rzR ((fRoots M j).1 (tb j) 0) ((fRoots M j).2 (tb j + 8)) 16)) 18 (mkR (mkR (mkR (mkR (mkR ((fRoots M j).1 18) (rzR ((fRoots M j).1 (tb j) 0) ((fRoots M j).2 (tb j + 8)) 16) 16) ((fRoots M j).2 (tb j + 9)) (16 * (e))) ((fRoots M j).2 (tb j + 15)) r) ((fRoots M j).2 (tb j + 16)) ww) ((fRoots M j).2 (tb j + 17)) ww)) := by
                  rw [fRoots]; unfold fRootT fRootF
                  rw [hX4, hX5, hX6, h4, h5, h6, nn_nI (by omega), nn_nI (by omega), nn_nI (by omega)]
                refine v_eqw (ws' := wM (kY K) n ad (fRoots M (j + 1))) (by rw [hW]) ?_
                refine v_sub (lv' := [(1, .int (nI (j + 1))), (0, .ref (ad (0)))]) [0, 2] rfl ?_
                exact ih_hloop2 (j + 1) (by omega) (by omega)
              refine v_aload_n (pc' := 54) (i := 0) (j := 1) X dX9_gather_53 rfl rfl rfl ?_
              refine fg_X9_28 (pc' := 57) X dX9_gather_54 rfl ?_
              refine v_iload_n (pc' := 58) (i := 1) (j := 0) X dX9_gather_57 rfl rfl rfl ?_
              refine ag_M13 (pc' := 59) X (j) rfl (by omega) (by omega) dX9_gather_58 rfl ?_
              refine v_astore_n (pc' := 60) (i := 2) (lv' := [(2, .ref (ad (tb j))), (1, .int (nI j)), (0, .ref (ad (0)))]) X dX9_gather_59 rfl (by decide) rfl rfl ?_
              refine v_aload_n (pc' := 61) (i := 2) (j := 0) X dX9_gather_60 rfl rfl rfl ?_
              refine fg_X9_208 (pc' := 64) X (by omega) (v := (fRoots M j).1 (tb j) 0) rfl dX9_gather_61 rfl ?_
              refine v_iconst (pc' := 65) (v := 3) X dX9_gather_64 (by decide) rfl ?_
              refine v_icmp_eq (pc' := 68) (tgt := 76) X dX9_gather_65 (by decide) rfl (fun hc_65 => ?_) (fun hc_65 => ?_)
              -- taken 65
              · have hov : (fRoots M j).1 (tb j) 0 = 3 ∨ (fRoots M j).1 (tb j) 0 = 4 := Or.inl hc_65
                refine v_iconst (pc' := 77) (v := 1) X dX9_gather_76 (by decide) rfl ?_
                refine v_goto (pc' := 81) X dX9_gather_77 (by decide) ?_
                refine v_istore_n (pc' := 82) (i := 3) (lv' := [(3, .int 1), (2, .ref (ad (tb j))), (1, .int (nI j)), (0, .ref (ad (0)))]) X dX9_gather_81 rfl (by decide) rfl rfl ?_
                refine v_iconst (pc' := 83) (v := 0) X dX9_gather_82 (by decide) rfl ?_
                refine v_istore (pc' := 85) (lv' := [(4, .int 0), (3, .int 1), (2, .ref (ad (tb j))), (1, .int (nI j)), (0, .ref (ad (0)))]) X dX9_gather_83 (by decide) rfl rfl ?_
                have hloop3 : ∀ (dd_hloop3 : Nat) (k : Nat), 16 - k < dd_hloop3 → (k ≤ 16) → V K 5 (wM (kY K) n ad (mRL (fRoots M j) (tb j + 8) (rzR ((fRoots M j).1 (tb j) 0) ((fRoots M j).2 (tb j + 8)) k))) 0 0 85 [(4, .int (nI k)), (3, .int 1), (2, .ref (ad (tb j))), (1, .int (nI j)), (0, .ref (ad (0)))] [] := by
                  intro dd_hloop3
                  induction dd_hloop3 with
                  | zero => intro k hlt_hloop3; exact absurd hlt_hloop3 (Nat.not_lt_zero _)
                  | succ dd_hloop3 ih_hloop3 =>
                    intro k hlt_hloop3 hk
                    refine v_iload_n (pc' := 86) (i := 3) (j := 1) X dX9_gather_85 rfl rfl rfl ?_
                    refine v_if_eq (pc' := 89) (tgt := 136) X dX9_gather_86 (by decide) rfl (fun hc_86 => absurd hc_86 (by decide)) (fun _ => ?_)
                    refine v_iload (pc' := 91) (j := 0) X dX9_gather_89 rfl rfl ?_
                    refine v_bipush (pc' := 93) (v := 16) X dX9_gather_91 (by decide) rfl ?_
                    refine v_icmp_ge (pc' := 96) (tgt := 136) X dX9_gather_93 (by decide) rfl (fun hc_93 => ?_) (fun hc_93 => ?_)
                    -- taken 93
                    · obtain rfl : k = 16 := by have hh := le_of_nI (a := 16) (b := k) hc_93 (by omega) (by omega); omega
                      refine v_sub (lv' := [(2, .ref (ad (tb j))), (1, .int (nI j)), (0, .ref (ad (0)))]) [2, 3, 4] rfl ?_
                      exact hj136
                    -- not taken 93
                    · have hk2 : k < 16 := by
                        rcases Nat.lt_or_ge k 16 with q9 | q9
                        · exact q9
                        · exact absurd (nI_le q9 (by omega)) hc_93
                      refine v_aload_n (pc' := 97) (i := 2) (j := 2) X dX9_gather_96 rfl rfl rfl ?_
                      refine fg_X9_105 (pc' := 100) X hjn dX9_gather_97 rfl ?_
                      refine v_iload (pc' := 102) (j := 0) X dX9_gather_100 rfl rfl ?_
                      refine ag_T8 (pc' := 103) X hjn (v := (fRoots M j).2 (tb j + 8) k) (k) rfl (by omega) (by rw [mRL_r]; exact rzR_ge) dX9_gather_102 rfl ?_
                      refine v_callS (pc' := 106) X (st := []) (c_X9_isInt (n := n) (ad := ad) (M := (mRL (fRoots M j) (tb j + 8) (rzR ((fRoots M j).1 (tb j) 0) ((fRoots M j).2 (tb j + 8)) k))) (v := (fRoots M j).2 (tb j + 8) k)) k_X9_isInt w_ml_X9_108 w_st_X9_isInt (by rw [hR]; exact ⟨Nat.le_of_ble_eq_true rfl, Nat.le_of_ble_eq_true rfl⟩) rfl rfl (Nat.le_of_ble_eq_true rfl) dX9_gather_103 rfl (⟨Nat.zero_le _, Nat.zero_le _⟩) ?_
                      rintro _ _ ⟨rfl, rfl⟩
                      refine v_ifB_ne (pc' := 109) (tgt := 130) X dX9_gather_106 (by decide) rfl (fun hc_106 => ?_) (fun hc_106 => ?_)
                      -- taken 106
                      · refine v_iinc (pc' := 133) (j := 0) (v := nI (k + 1)) (lv' := [(4, .int (nI (k + 1))), (3, .int 1), (2, .ref (ad (tb j))), (1, .int (nI j)), (0, .ref (ad (0)))]) X dX9_gather_130 rfl (nI_add (k) 1) (by decide) rfl rfl ?_
                        refine v_goto (pc' := 85) X dX9_gather_133 (by decide) ?_
                        refine v_eqw (ws' := wM (kY K) n ad (mRL (fRoots M j) (tb j + 8) (rzR ((fRoots M j).1 (tb j) 0) ((fRoots M j).2 (tb j + 8)) (k + 1)))) (by rw [rzR_n (fun z9 => z9.1 hc_106)]) ?_
                        exact ih_hloop3 (k + 1) (by omega) (by omega)
                      -- not taken 106
                      · refine v_aload_n (pc' := 110) (i := 2) (j := 2) X dX9_gather_109 rfl rfl rfl ?_
                        refine fg_X9_208 (pc' := 113) X hjn (v := (fRoots M j).1 (tb j) 0) (congrFun (congrFun (mRL_1 _ _ _) _) _) dX9_gather_110 rfl ?_
                        refine v_iconst (pc' := 114) (v := 4) X dX9_gather_113 (by decide) rfl ?_
                        refine v_icmp_eq (pc' := 117) (tgt := 122) X dX9_gather_114 (by decide) rfl (fun hc_114 => ?_) (fun hc_114 => ?_)
                        -- taken 114
                        · refine v_aload_n (pc' := 123) (i := 2) (j := 2) X dX9_gather_122 rfl rfl rfl ?_
                          refine fg_X9_105 (pc' := 126) X hjn dX9_gather_123 rfl ?_
                          refine v_iload (pc' := 128) (j := 0) X dX9_gather_126 rfl rfl ?_
                          refine v_lconst (pc' := 129) (v := 0) X dX9_gather_128 (by decide) rfl ?_
                          refine as_T8 (pc' := 130) X hjn (k) rfl (by omega) dX9_gather_129 rfl ?_
                          refine v_iinc (pc' := 133) (j := 0) (v := nI (k + 1)) (lv' := [(4, .int (nI (k + 1))), (3, .int 1), (2, .ref (ad (tb j))), (1, .int (nI j)), (0, .ref (ad (0)))]) X dX9_gather_130 rfl (nI_add (k) 1) (by decide) rfl rfl ?_
                          refine v_goto (pc' := 85) X dX9_gather_133 (by decide) ?_
                          refine v_eqw (ws' := wM (kY K) n ad (mRL (fRoots M j) (tb j + 8) (rzR ((fRoots M j).1 (tb j) 0) ((fRoots M j).2 (tb j + 8)) (k + 1)))) (by rw [mL_mRL, rzR_k hov hc_106 (Or.inl hc_114)]) ?_
                          exact ih_hloop3 (k + 1) (by omega) (by omega)
                        -- not taken 114
                        · refine v_iload (pc' := 119) (j := 0) X dX9_gather_117 rfl rfl ?_
                          refine v_if_le (pc' := 122) (tgt := 130) X dX9_gather_119 (by decide) rfl (fun hc_119 => ?_) (fun hc_119 => ?_)
                          -- taken 119
                          · refine v_iinc (pc' := 133) (j := 0) (v := nI (k + 1)) (lv' := [(4, .int (nI (k + 1))), (3, .int 1), (2, .ref (ad (tb j))), (1, .int (nI j)), (0, .ref (ad (0)))]) X dX9_gather_130 rfl (nI_add (k) 1) (by decide) rfl rfl ?_
                            refine v_goto (pc' := 85) X dX9_gather_133 (by decide) ?_
                            refine v_eqw (ws' := wM (kY K) n ad (mRL (fRoots M j) (tb j + 8) (rzR ((fRoots M j).1 (tb j) 0) ((fRoots M j).2 (tb j + 8)) (k + 1)))) (by rw [rzR_n (fun z9 => z9.2.elim hc_114 (fun y9 => absurd hc_119 (nI_nle y9 (by omega))))]) ?_
                            exact ih_hloop3 (k + 1) (by omega) (by omega)
                          -- not taken 119
                          · refine v_aload_n (pc' := 123) (i := 2) (j := 2) X dX9_gather_122 rfl rfl rfl ?_
                            refine fg_X9_105 (pc' := 126) X hjn dX9_gather_123 rfl ?_
                            refine v_iload (pc' := 128) (j := 0) X dX9_gather_126 rfl rfl ?_
                            refine v_lconst (pc' := 129) (v := 0) X dX9_gather_128 (by decide) rfl ?_
                            refine as_T8 (pc' := 130) X hjn (k) rfl (by omega) dX9_gather_129 rfl ?_
                            refine v_iinc (pc' := 133) (j := 0) (v := nI (k + 1)) (lv' := [(4, .int (nI (k + 1))), (3, .int 1), (2, .ref (ad (tb j))), (1, .int (nI j)), (0, .ref (ad (0)))]) X dX9_gather_130 rfl (nI_add (k) 1) (by decide) rfl rfl ?_
                            refine v_goto (pc' := 85) X dX9_gather_133 (by decide) ?_
                            refine v_eqw (ws' := wM (kY K) n ad (mRL (fRoots M j) (tb j + 8) (rzR ((fRoots M j).1 (tb j) 0) ((fRoots M j).2 (tb j + 8)) (k + 1)))) (by rw [mL_mRL, rzR_k hov hc_106 (Or.inr (by rcases Nat.eq_zero_or_pos k with z9 | z9; exact absurd (show nI k ≤ 0 by rw [z9]; decide) hc_119; exact z9))]) ?_
                            exact ih_hloop3 (k + 1) (by omega) (by omega)
                refine v_eqw (ws' := wM (kY K) n ad (mRL (fRoots M j) (tb j + 8) (rzR ((fRoots M j).1 (tb j) 0) ((fRoots M j).2 (tb j + 8)) 0))) (by rw [rzR_0, mRL_self]) ?_
                exact hloop3 _ 0 (Nat.lt_succ_self _) (Nat.zero_le _)
              -- not taken 65
              · refine v_aload_n (pc' := 69) (i := 2) (j := 0) X dX9_gather_68 rfl rfl rfl ?_
                refine fg_X9_208 (pc' := 72) X (by omega) (v := (fRoots M j).1 (tb j) 0) rfl dX9_gather_69 rfl ?_
                refine v_iconst (pc' := 73) (v := 4) X dX9_gather_72 (by decide) rfl ?_
                refine v_icmp_ne (pc' := 76) (tgt := 80) X dX9_gather_73 (by decide) rfl (fun hc_73 => ?_) (fun hc_73 => ?_)
                -- taken 73
                · have hnov : ¬ ((fRoots M j).1 (tb j) 0 = 3 ∨ (fRoots M j).1 (tb j) 0 = 4) := fun z9 => z9.elim hc_65 hc_73
                  refine v_iconst (pc' := 81) (v := 0) X dX9_gather_80 (by decide) rfl ?_
                  refine v_istore_n (pc' := 82) (i := 3) (lv' := [(3, .int 0), (2, .ref (ad (tb j))), (1, .int (nI j)), (0, .ref (ad (0)))]) X dX9_gather_81 rfl (by decide) rfl rfl ?_
                  refine v_iconst (pc' := 83) (v := 0) X dX9_gather_82 (by decide) rfl ?_
                  refine v_istore (pc' := 85) (lv' := [(4, .int 0), (3, .int 0), (2, .ref (ad (tb j))), (1, .int (nI j)), (0, .ref (ad (0)))]) X dX9_gather_83 (by decide) rfl rfl ?_
                  refine v_iload_n (pc' := 86) (i := 3) (j := 1) X dX9_gather_85 rfl rfl rfl ?_
                  refine v_if_eq (pc' := 89) (tgt := 136) X dX9_gather_86 (by decide) rfl (fun _ => ?_) (fun hc_86 => absurd (by decide) hc_86)
                  refine v_eqw (ws' := wM (kY K) n ad (mRL (fRoots M j) (tb j + 8) (rzR ((fRoots M j).1 (tb j) 0) ((fRoots M j).2 (tb j + 8)) 16))) (by rw [rzR_off hnov, mRL_self]) ?_
                  refine v_sub (lv' := [(2, .ref (ad (tb j))), (1, .int (nI j)), (0, .ref (ad (0)))]) [2, 3, 4] rfl ?_
                  exact hj136
                -- not taken 73
                · have hov : (fRoots M j).1 (tb j) 0 = 3 ∨ (fRoots M j).1 (tb j) 0 = 4 := Or.inr hc_73
                  refine v_iconst (pc' := 77) (v := 1) X dX9_gather_76 (by decide) rfl ?_
                  refine v_goto (pc' := 81) X dX9_gather_77 (by decide) ?_
                  refine v_istore_n (pc' := 82) (i := 3) (lv' := [(3, .int 1), (2, .ref (ad (tb j))), (1, .int (nI j)), (0, .ref (ad (0)))]) X dX9_gather_81 rfl (by decide) rfl rfl ?_
                  refine v_iconst (pc' := 83) (v := 0) X dX9_gather_82 (by decide) rfl ?_
                  refine v_istore (pc' := 85) (lv' := [(4, .int 0), (3, .int 1), (2, .ref (ad (tb j))), (1, .int (nI j)), (0, .ref (ad (0)))]) X dX9_gather_83 (by decide) rfl rfl ?_
                  have hloop3 : ∀ (dd_hloop3 : Nat) (k : Nat), 16 - k < dd_hloop3 → (k ≤ 16) → V K 5 (wM (kY K) n ad (mRL (fRoots M j) (tb j + 8) (rzR ((fRoots M j).1 (tb j) 0) ((fRoots M j).2 (tb j + 8)) k))) 0 0 85 [(4, .int (nI k)), (3, .int 1), (2, .ref (ad (tb j))), (1, .int (nI j)), (0, .ref (ad (0)))] [] := by
                    intro dd_hloop3
                    induction dd_hloop3 with
                    | zero => intro k hlt_hloop3; exact absurd hlt_hloop3 (Nat.not_lt_zero _)
                    | succ dd_hloop3 ih_hloop3 =>
                      intro k hlt_hloop3 hk
                      refine v_iload_n (pc' := 86) (i := 3) (j := 1) X dX9_gather_85 rfl rfl rfl ?_
                      refine v_if_eq (pc' := 89) (tgt := 136) X dX9_gather_86 (by decide) rfl (fun hc_86 => absurd hc_86 (by decide)) (fun _ => ?_)
                      refine v_iload (pc' := 91) (j := 0) X dX9_gather_89 rfl rfl ?_
                      refine v_bipush (pc' := 93) (v := 16) X dX9_gather_91 (by decide) rfl ?_
                      refine v_icmp_ge (pc' := 96) (tgt := 136) X dX9_gather_93 (by decide) rfl (fun hc_93 => ?_) (fun hc_93 => ?_)
                      -- taken 93
                      · obtain rfl : k = 16 := by have hh := le_of_nI (a := 16) (b := k) hc_93 (by omega) (by omega); omega
                        refine v_sub (lv' := [(2, .ref (ad (tb j))), (1, .int (nI j)), (0, .ref (ad (0)))]) [2, 3, 4] rfl ?_
                        exact hj136
                      -- not taken 93
                      · have hk2 : k < 16 := by
                          rcases Nat.lt_or_ge k 16 with q9 | q9
                          · exact q9
                          · exact absurd (nI_le q9 (by omega)) hc_93
                        refine v_aload_n (pc' := 97) (i := 2) (j := 2) X dX9_gather_96 rfl rfl rfl ?_
                        refine fg_X9_105 (pc' := 100) X hjn dX9_gather_97 rfl ?_
                        refine v_iload (pc' := 102) (j := 0) X dX9_gather_100 rfl rfl ?_
                        refine ag_T8 (pc' := 103) X hjn (v := (fRoots M j).2 (tb j + 8) k) (k) rfl (by omega) (by rw [mRL_r]; exact rzR_ge) dX9_gather_102 rfl ?_
                        refine v_callS (pc' := 106) X (st := []) (c_X9_isInt (n := n) (ad := ad) (M := (mRL (fRoots M j) (tb j + 8) (rzR ((fRoots M j).1 (tb j) 0) ((fRoots M j).2 (tb j + 8)) k))) (v := (fRoots M j).2 (tb j + 8) k)) k_X9_isInt w_ml_X9_108 w_st_X9_isInt (by rw [hR]; exact ⟨Nat.le_of_ble_eq_true rfl, Nat.le_of_ble_eq_true rfl⟩) rfl rfl (Nat.le_of_ble_eq_true rfl) dX9_gather_103 rfl (⟨Nat.zero_le _, Nat.zero_le _⟩) ?_
                        rintro _ _ ⟨rfl, rfl⟩
                        refine v_ifB_ne (pc' := 109) (tgt := 130) X dX9_gather_106 (by decide) rfl (fun hc_106 => ?_) (fun hc_106 => ?_)
                        -- taken 106
                        · refine v_iinc (pc' := 133) (j := 0) (v := nI (k + 1)) (lv' := [(4, .int (nI (k + 1))), (3, .int 1), (2, .ref (ad (tb j))), (1, .int (nI j)), (0, .ref (ad (0)))]) X dX9_gather_130 rfl (nI_add (k) 1) (by decide) rfl rfl ?_
                          refine v_goto (pc' := 85) X dX9_gather_133 (by decide) ?_
                          refine v_eqw (ws' := wM (kY K) n ad (mRL (fRoots M j) (tb j + 8) (rzR ((fRoots M j).1 (tb j) 0) ((fRoots M j).2 (tb j + 8)) (k + 1)))) (by rw [rzR_n (fun z9 => z9.1 hc_106)]) ?_
                          exact ih_hloop3 (k + 1) (by omega) (by omega)
                        -- not taken 106
                        · refine v_aload_n (pc' := 110) (i := 2) (j := 2) X dX9_gather_109 rfl rfl rfl ?_
                          refine fg_X9_208 (pc' := 113) X hjn (v := (fRoots M j).1 (tb j) 0) (congrFun (congrFun (mRL_1 _ _ _) _) _) dX9_gather_110 rfl ?_
                          refine v_iconst (pc' := 114) (v := 4) X dX9_gather_113 (by decide) rfl ?_
                          refine v_icmp_eq (pc' := 117) (tgt := 122) X dX9_gather_114 (by decide) rfl (fun hc_114 => ?_) (fun hc_114 => ?_)
                          -- taken 114
                          · refine v_aload_n (pc' := 123) (i := 2) (j := 2) X dX9_gather_122 rfl rfl rfl ?_
                            refine fg_X9_105 (pc' := 126) X hjn dX9_gather_123 rfl ?_
                            refine v_iload (pc' := 128) (j := 0) X dX9_gather_126 rfl rfl ?_
                            refine v_lconst (pc' := 129) (v := 0) X dX9_gather_128 (by decide) rfl ?_
                            refine as_T8 (pc' := 130) X hjn (k) rfl (by omega) dX9_gather_129 rfl ?_
                            refine v_iinc (pc' := 133) (j := 0) (v := nI (k + 1)) (lv' := [(4, .int (nI (k + 1))), (3, .int 1), (2, .ref (ad (tb j))), (1, .int (nI j)), (0, .ref (ad (0)))]) X dX9_gather_130 rfl (nI_add (k) 1) (by decide) rfl rfl ?_
                            refine v_goto (pc' := 85) X dX9_gather_133 (by decide) ?_
                            refine v_eqw (ws' := wM (kY K) n ad (mRL (fRoots M j) (tb j + 8) (rzR ((fRoots M j).1 (tb j) 0) ((fRoots M j).2 (tb j + 8)) (k + 1)))) (by rw [mL_mRL, rzR_k hov hc_106 (Or.inl hc_114)]) ?_
                            exact ih_hloop3 (k + 1) (by omega) (by omega)
                          -- not taken 114
                          · refine v_iload (pc' := 119) (j := 0) X dX9_gather_117 rfl rfl ?_
                            refine v_if_le (pc' := 122) (tgt := 130) X dX9_gather_119 (by decide) rfl (fun hc_119 => ?_) (fun hc_119 => ?_)
                            -- taken 119
                            · refine v_iinc (pc' := 133) (j := 0) (v := nI (k + 1)) (lv' := [(4, .int (nI (k + 1))), (3, .int 1), (2, .ref (ad (tb j))), (1, .int (nI j)), (0, .ref (ad (0)))]) X dX9_gather_130 rfl (nI_add (k) 1) (by decide) rfl rfl ?_
                              refine v_goto (pc' := 85) X dX9_gather_133 (by decide) ?_
                              refine v_eqw (ws' := wM (kY K) n ad (mRL (fRoots M j) (tb j + 8) (rzR ((fRoots M j).1 (tb j) 0) ((fRoots M j).2 (tb j + 8)) (k + 1)))) (by rw [rzR_n (fun z9 => z9.2.elim hc_114 (fun y9 => absurd hc_119 (nI_nle y9 (by omega))))]) ?_
                              exact ih_hloop3 (k + 1) (by omega) (by omega)
                            -- not taken 119
                            · refine v_aload_n (pc' := 123) (i := 2) (j := 2) X dX9_gather_122 rfl rfl rfl ?_
                              refine fg_X9_105 (pc' := 126) X hjn dX9_gather_123 rfl ?_
                              refine v_iload (pc' := 128) (j := 0) X dX9_gather_126 rfl rfl ?_
                              refine v_lconst (pc' := 129) (v := 0) X dX9_gather_128 (by decide) rfl ?_
                              refine as_T8 (pc' := 130) X hjn (k) rfl (by omega) dX9_gather_129 rfl ?_
                              refine v_iinc (pc' := 133) (j := 0) (v := nI (k + 1)) (lv' := [(4, .int (nI (k + 1))), (3, .int 1), (2, .ref (ad (tb j))), (1, .int (nI j)), (0, .ref (ad (0)))]) X dX9_gather_130 rfl (nI_add (k) 1) (by decide) rfl rfl ?_
                              refine v_goto (pc' := 85) X dX9_gather_133 (by decide) ?_
                              refine v_eqw (ws' := wM (kY K) n ad (mRL (fRoots M j) (tb j + 8) (rzR ((fRoots M j).1 (tb j) 0) ((fRoots M j).2 (tb j + 8)) (k + 1)))) (by rw [mL_mRL, rzR_k hov hc_106 (Or.inr (by rcases Nat.eq_zero_or_pos k with z9 | z9; exact absurd (show nI k ≤ 0 by rw [z9]; decide) hc_119; exact z9))]) ?_
                              exact ih_hloop3 (k + 1) (by omega) (by omega)
                  refine v_eqw (ws' := wM (kY K) n ad (mRL (fRoots M j) (tb j + 8) (rzR ((fRoots M j).1 (tb j) 0) ((fRoots M j).2 (tb j + 8)) 0))) (by rw [rzR_0, mRL_self]) ?_
                  exact hloop3 _ 0 (Nat.lt_succ_self _) (Nat.zero_le _)
        exact hloop2 _ 0 (Nat.lt_succ_self _) (Nat.zero_le _)
      -- not taken 16
      · have hp2 : p < 200 := by
          rcases Nat.lt_or_ge p 200 with q9 | q9
          · exact q9
          · exact absurd (nI_le q9 (by omega)) hc_16
        refine v_aload_n (pc' := 20) (i := 0) (j := 1) X dX9_gather_19 rfl rfl rfl ?_
        refine fg_X9_46 (pc' := 23) X dX9_gather_20 rfl ?_
        refine v_iload_n (pc' := 24) (i := 1) (j := 0) X dX9_gather_23 rfl rfl rfl ?_
        refine v_iconst (pc' := 25) (v := 0) X dX9_gather_24 (by decide) rfl ?_
        refine as_M18 (pc' := 26) X (y := 0) (by decide) (p) rfl (by omega) dX9_gather_25 rfl ?_
        refine v_iinc (pc' := 29) (j := 0) (v := nI (p + 1)) (lv' := [(1, .int (nI (p + 1))), (0, .ref (ad (0)))]) X dX9_gather_26 rfl (nI_add (p) 1) (by decide) rfl rfl ?_
        refine v_goto (pc' := 12) X dX9_gather_29 (by decide) ?_
        refine v_eqw (ws' := wM (kY K) n ad (mRI (mI M 0 6 (M.1 0 6 + 1)) 18 (zr (M.1 18) (p + 1)))) (by rw [mI_mRI, zr_s]) ?_
        exact ih_hloop (p + 1) (by omega) (by omega)
  refine v_eqw (ws' := wM (kY K) n ad (mRI (mI M 0 6 (M.1 0 6 + 1)) 18 (zr (M.1 18) 0))) (by rw [zr_0]; exact (congrArg (pM _ _ _) (by rw [show M.1 18 = (mI M 0 6 (M.1 0 6 + 1)).1 18 from (mI_n _ _ _ _ (by decide)).symm, mRI_self])).symm) ?_
  exact hloop _ 0 (Nat.lt_succ_self _) (Nat.zero_le _)
