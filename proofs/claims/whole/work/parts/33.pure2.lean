/-! THE INVARIANT IS KEPT: a task's steps -/
theorem sm_ob1 {M : vM} {b : Nat} (hb : 22 ≤ b) {v : Int32} : sameT M (mI M b 1 v) b := sameT_mI ⟨by omega, by omega⟩ hb
theorem ti_ob1 {M : vM} {us b ca e r w : Nat} (hb : 22 ≤ b) {v : Int32} (hI : tI M us b ca e r w) : tI (mI M b 1 v) us b ca e r w := by
  rw [tI_C] at hI
  have q0 : (mI M b 1 v).1 (b + 11) = M.1 (b + 11) := mI_n _ _ _ _ (by omega)
  have q1 : (mI M b 1 v).1 (b + 13) = M.1 (b + 13) := mI_n _ _ _ _ (by omega)
  have q2 : (mI M b 1 v).1 (b + 14) = M.1 (b + 14) := mI_n _ _ _ _ (by omega)
  have q3 : (mI M b 1 v).2 (b + 8) = M.2 (b + 8) := rfl
  have q4 : (mI M b 1 v).2 (b + 9) = M.2 (b + 9) := rfl
  have q5 : (mI M b 1 v).2 (b + 15) = M.2 (b + 15) := rfl
  have q6 : (mI M b 1 v).2 (b + 16) = M.2 (b + 16) := rfl
  have q7 : (mI M b 1 v).2 (b + 17) = M.2 (b + 17) := rfl
  have q8 : (mI M b 1 v).1 (17) = M.1 17 := mI_n _ _ _ _ (by omega)
  rw [tI_C, q0, q1, q2, q3, q4, q5, q6, q7, q8]
  exact tC_ob hI (mI_o _ _ _ _ (by decide)) (mI_o _ _ _ _ (by decide)) (mI_o _ _ _ _ (by decide)) (mI_o _ _ _ _ (by decide)) (mI_o _ _ _ _ (by decide))
theorem sm_ob2 {M : vM} {b : Nat} (hb : 22 ≤ b) {v : Int32} : sameT M (mI M b 2 v) b := sameT_mI ⟨by omega, by omega⟩ hb
theorem ti_ob2 {M : vM} {us b ca e r w : Nat} (hb : 22 ≤ b) {v : Int32} (hI : tI M us b ca e r w) : tI (mI M b 2 v) us b ca e r w := by
  rw [tI_C] at hI
  have q0 : (mI M b 2 v).1 (b + 11) = M.1 (b + 11) := mI_n _ _ _ _ (by omega)
  have q1 : (mI M b 2 v).1 (b + 13) = M.1 (b + 13) := mI_n _ _ _ _ (by omega)
  have q2 : (mI M b 2 v).1 (b + 14) = M.1 (b + 14) := mI_n _ _ _ _ (by omega)
  have q3 : (mI M b 2 v).2 (b + 8) = M.2 (b + 8) := rfl
  have q4 : (mI M b 2 v).2 (b + 9) = M.2 (b + 9) := rfl
  have q5 : (mI M b 2 v).2 (b + 15) = M.2 (b + 15) := rfl
  have q6 : (mI M b 2 v).2 (b + 16) = M.2 (b + 16) := rfl
  have q7 : (mI M b 2 v).2 (b + 17) = M.2 (b + 17) := rfl
  have q8 : (mI M b 2 v).1 (17) = M.1 17 := mI_n _ _ _ _ (by omega)
  rw [tI_C, q0, q1, q2, q3, q4, q5, q6, q7, q8]
  exact tC_ob hI (mI_o _ _ _ _ (by decide)) (mI_o _ _ _ _ (by decide)) (mI_o _ _ _ _ (by decide)) (mI_o _ _ _ _ (by decide)) (mI_o _ _ _ _ (by decide))
theorem sm_ob7 {M : vM} {b : Nat} (hb : 22 ≤ b) {v : Int32} : sameT M (mI M b 7 v) b := sameT_mI ⟨by omega, by omega⟩ hb
theorem ti_ob7 {M : vM} {us b ca e r w : Nat} (hb : 22 ≤ b) {v : Int32} (hI : tI M us b ca e r w) : tI (mI M b 7 v) us b ca e r w := by
  rw [tI_C] at hI
  have q0 : (mI M b 7 v).1 (b + 11) = M.1 (b + 11) := mI_n _ _ _ _ (by omega)
  have q1 : (mI M b 7 v).1 (b + 13) = M.1 (b + 13) := mI_n _ _ _ _ (by omega)
  have q2 : (mI M b 7 v).1 (b + 14) = M.1 (b + 14) := mI_n _ _ _ _ (by omega)
  have q3 : (mI M b 7 v).2 (b + 8) = M.2 (b + 8) := rfl
  have q4 : (mI M b 7 v).2 (b + 9) = M.2 (b + 9) := rfl
  have q5 : (mI M b 7 v).2 (b + 15) = M.2 (b + 15) := rfl
  have q6 : (mI M b 7 v).2 (b + 16) = M.2 (b + 16) := rfl
  have q7 : (mI M b 7 v).2 (b + 17) = M.2 (b + 17) := rfl
  have q8 : (mI M b 7 v).1 (17) = M.1 17 := mI_n _ _ _ _ (by omega)
  rw [tI_C, q0, q1, q2, q3, q4, q5, q6, q7, q8]
  exact tC_ob hI (mI_o _ _ _ _ (by decide)) (mI_o _ _ _ _ (by decide)) (mI_o _ _ _ _ (by decide)) (mI_o _ _ _ _ (by decide)) (mI_o _ _ _ _ (by decide))
theorem sm_c10 {M : vM} {b : Nat} (hb : 22 ≤ b) {k : Nat} {v : Int32} : sameT M (mI M (b + 10) k v) b := sameT_mI ⟨by omega, by omega⟩ hb
theorem ti_c10 {M : vM} {us b ca e r w : Nat} (hb : 22 ≤ b) {k : Nat} {v : Int32} (hI : tI M us b ca e r w) : tI (mI M (b + 10) k v) us b ca e r w := by
  rw [tI_C] at hI
  have q0 : (mI M (b + 10) k v).1 (b + 11) = M.1 (b + 11) := mI_n _ _ _ _ (by omega)
  have q1 : (mI M (b + 10) k v).1 (b + 13) = M.1 (b + 13) := mI_n _ _ _ _ (by omega)
  have q2 : (mI M (b + 10) k v).1 (b + 14) = M.1 (b + 14) := mI_n _ _ _ _ (by omega)
  have q3 : (mI M (b + 10) k v).2 (b + 8) = M.2 (b + 8) := rfl
  have q4 : (mI M (b + 10) k v).2 (b + 9) = M.2 (b + 9) := rfl
  have q5 : (mI M (b + 10) k v).2 (b + 15) = M.2 (b + 15) := rfl
  have q6 : (mI M (b + 10) k v).2 (b + 16) = M.2 (b + 16) := rfl
  have q7 : (mI M (b + 10) k v).2 (b + 17) = M.2 (b + 17) := rfl
  have q8 : (mI M (b + 10) k v).1 (17) = M.1 17 := mI_n _ _ _ _ (by omega)
  rw [tI_C, q0, q1, q2, q3, q4, q5, q6, q7, q8]
  exact tC_ob hI (congrFun (mI_n _ _ _ _ (by omega)) _) (congrFun (mI_n _ _ _ _ (by omega)) _) (congrFun (mI_n _ _ _ _ (by omega)) _) (congrFun (mI_n _ _ _ _ (by omega)) _) (congrFun (mI_n _ _ _ _ (by omega)) _)
theorem sm_c12 {M : vM} {b : Nat} (hb : 22 ≤ b) {k : Nat} {v : Int32} : sameT M (mI M (b + 12) k v) b := sameT_mI ⟨by omega, by omega⟩ hb
theorem ti_c12 {M : vM} {us b ca e r w : Nat} (hb : 22 ≤ b) {k : Nat} {v : Int32} (hI : tI M us b ca e r w) : tI (mI M (b + 12) k v) us b ca e r w := by
  rw [tI_C] at hI
  have q0 : (mI M (b + 12) k v).1 (b + 11) = M.1 (b + 11) := mI_n _ _ _ _ (by omega)
  have q1 : (mI M (b + 12) k v).1 (b + 13) = M.1 (b + 13) := mI_n _ _ _ _ (by omega)
  have q2 : (mI M (b + 12) k v).1 (b + 14) = M.1 (b + 14) := mI_n _ _ _ _ (by omega)
  have q3 : (mI M (b + 12) k v).2 (b + 8) = M.2 (b + 8) := rfl
  have q4 : (mI M (b + 12) k v).2 (b + 9) = M.2 (b + 9) := rfl
  have q5 : (mI M (b + 12) k v).2 (b + 15) = M.2 (b + 15) := rfl
  have q6 : (mI M (b + 12) k v).2 (b + 16) = M.2 (b + 16) := rfl
  have q7 : (mI M (b + 12) k v).2 (b + 17) = M.2 (b + 17) := rfl
  have q8 : (mI M (b + 12) k v).1 (17) = M.1 17 := mI_n _ _ _ _ (by omega)
  rw [tI_C, q0, q1, q2, q3, q4, q5, q6, q7, q8]
  exact tC_ob hI (congrFun (mI_n _ _ _ _ (by omega)) _) (congrFun (mI_n _ _ _ _ (by omega)) _) (congrFun (mI_n _ _ _ _ (by omega)) _) (congrFun (mI_n _ _ _ _ (by omega)) _) (congrFun (mI_n _ _ _ _ (by omega)) _)
theorem ti_cnt0 {M : vM} {us b ca e r w : Nat} (hb : 22 ≤ b) {k : Nat} {v : Int32} (hI : tI M us b ca e r w) : tI (mI M 0 k v) us b ca e r w := by
  rw [tI_C] at hI
  have q0 : (mI M 0 k v).1 (b + 11) = M.1 (b + 11) := mI_n _ _ _ _ (by omega)
  have q1 : (mI M 0 k v).1 (b + 13) = M.1 (b + 13) := mI_n _ _ _ _ (by omega)
  have q2 : (mI M 0 k v).1 (b + 14) = M.1 (b + 14) := mI_n _ _ _ _ (by omega)
  have q3 : (mI M 0 k v).2 (b + 8) = M.2 (b + 8) := rfl
  have q4 : (mI M 0 k v).2 (b + 9) = M.2 (b + 9) := rfl
  have q5 : (mI M 0 k v).2 (b + 15) = M.2 (b + 15) := rfl
  have q6 : (mI M 0 k v).2 (b + 16) = M.2 (b + 16) := rfl
  have q7 : (mI M 0 k v).2 (b + 17) = M.2 (b + 17) := rfl
  have q8 : (mI M 0 k v).1 (17) = M.1 17 := mI_n _ _ _ _ (by omega)
  rw [tI_C, q0, q1, q2, q3, q4, q5, q6, q7, q8]
  exact tC_ob hI (congrFun (mI_n _ _ _ _ (by omega)) _) (congrFun (mI_n _ _ _ _ (by omega)) _) (congrFun (mI_n _ _ _ _ (by omega)) _) (congrFun (mI_n _ _ _ _ (by omega)) _) (congrFun (mI_n _ _ _ _ (by omega)) _)
theorem sm_reg {M : vM} {b : Nat} (hb : 22 ≤ b) {j : Nat} {v : Int64} : sameT M (mL M (b + 8) j v) b := sameT_mL ⟨by omega, by omega⟩
theorem ti_reg {M : vM} {us b ca e r w : Nat} (hb : 22 ≤ b) {j : Nat} {v : Int64} (hI : tI M us b ca e r w) (hv : vO us (M.1 17) v) : tI (mL M (b + 8) j v) us b ca e r w := by
  rw [tI_C] at hI
  have q0 : (mL M (b + 8) j v).1 (b + 11) = M.1 (b + 11) := rfl
  have q1 : (mL M (b + 8) j v).1 (b + 13) = M.1 (b + 13) := rfl
  have q2 : (mL M (b + 8) j v).1 (b + 14) = M.1 (b + 14) := rfl
  have q3 : (mL M (b + 8) j v).2 (b + 8) = vp_updL (M.2 (b + 8)) j v := mL_r _ _ _ _
  have q4 : (mL M (b + 8) j v).2 (b + 9) = M.2 (b + 9) := mL_n _ _ _ _ (by omega)
  have q5 : (mL M (b + 8) j v).2 (b + 15) = M.2 (b + 15) := mL_n _ _ _ _ (by omega)
  have q6 : (mL M (b + 8) j v).2 (b + 16) = M.2 (b + 16) := mL_n _ _ _ _ (by omega)
  have q7 : (mL M (b + 8) j v).2 (b + 17) = M.2 (b + 17) := mL_n _ _ _ _ (by omega)
  have q8 : (mL M (b + 8) j v).1 (17) = M.1 17 := rfl
  rw [tI_C, q0, q1, q2, q3, q4, q5, q6, q7, q8]
  exact tC_reg hI hv
theorem sm_end {M : vM} {b : Nat} (hb : 22 ≤ b) {how why : Int32} : sameT M (fEnd M b how why) b := ((((sameT_mI ⟨by omega, by omega⟩ hb).trans (sameT_mI ⟨by omega, by omega⟩ hb)).trans (sameT_mI ⟨by omega, by omega⟩ hb)).trans (sameT_mI ⟨by omega, by omega⟩ hb)).trans (sameT_mI ⟨by omega, by omega⟩ hb)
theorem ti_end {M : vM} {us b ca e r w : Nat} (hb : 22 ≤ b) {how why : Int32} (hI : tI M us b ca e r w) (h0 : how = 3 ∨ how = 4) : tI (fEnd M b how why) us b ca 0 0 0 := by
  rw [tI_C] at hI
  have q0 : (mI (mI (mI (mI (mI M b 0 how) b 1 why) b 4 0) b 5 0) b 6 0).1 (b + 11) = M.1 (b + 11) := (mI_n _ _ _ _ (by omega)).trans ((mI_n _ _ _ _ (by omega)).trans ((mI_n _ _ _ _ (by omega)).trans ((mI_n _ _ _ _ (by omega)).trans (mI_n _ _ _ _ (by omega)))))
  have q1 : (mI (mI (mI (mI (mI M b 0 how) b 1 why) b 4 0) b 5 0) b 6 0).1 (b + 13) = M.1 (b + 13) := (mI_n _ _ _ _ (by omega)).trans ((mI_n _ _ _ _ (by omega)).trans ((mI_n _ _ _ _ (by omega)).trans ((mI_n _ _ _ _ (by omega)).trans (mI_n _ _ _ _ (by omega)))))
  have q2 : (mI (mI (mI (mI (mI M b 0 how) b 1 why) b 4 0) b 5 0) b 6 0).1 (b + 14) = M.1 (b + 14) := (mI_n _ _ _ _ (by omega)).trans ((mI_n _ _ _ _ (by omega)).trans ((mI_n _ _ _ _ (by omega)).trans ((mI_n _ _ _ _ (by omega)).trans (mI_n _ _ _ _ (by omega)))))
  have q3 : (mI (mI (mI (mI (mI M b 0 how) b 1 why) b 4 0) b 5 0) b 6 0).2 (b + 8) = M.2 (b + 8) := rfl
  have q4 : (mI (mI (mI (mI (mI M b 0 how) b 1 why) b 4 0) b 5 0) b 6 0).2 (b + 9) = M.2 (b + 9) := rfl
  have q5 : (mI (mI (mI (mI (mI M b 0 how) b 1 why) b 4 0) b 5 0) b 6 0).2 (b + 15) = M.2 (b + 15) := rfl
  have q6 : (mI (mI (mI (mI (mI M b 0 how) b 1 why) b 4 0) b 5 0) b 6 0).2 (b + 16) = M.2 (b + 16) := rfl
  have q7 : (mI (mI (mI (mI (mI M b 0 how) b 1 why) b 4 0) b 5 0) b 6 0).2 (b + 17) = M.2 (b + 17) := rfl
  have q8 : (mI (mI (mI (mI (mI M b 0 how) b 1 why) b 4 0) b 5 0) b 6 0).1 (17) = M.1 17 := (mI_n _ _ _ _ (by omega)).trans ((mI_n _ _ _ _ (by omega)).trans ((mI_n _ _ _ _ (by omega)).trans ((mI_n _ _ _ _ (by omega)).trans (mI_n _ _ _ _ (by omega)))))
  show tI (mI (mI (mI (mI (mI M b 0 how) b 1 why) b 4 0) b 5 0) b 6 0) us b ca 0 0 0
  rw [tI_C, q0, q1, q2, q3, q4, q5, q6, q7, q8]
  exact tC_end hI (by rw [show _ = how from ((mI_o _ _ _ _ (by decide)).trans ((mI_o _ _ _ _ (by decide)).trans ((mI_o _ _ _ _ (by decide)).trans ((mI_o _ _ _ _ (by decide)).trans (mI_s _ _ _ _)))))]; exact h0) ((mI_o _ _ _ _ (by decide)).trans ((mI_o _ _ _ _ (by decide)).trans ((mI_o _ _ _ _ (by decide)).trans ((mI_o _ _ _ _ (by decide)).trans (mI_o _ _ _ _ (by decide)))))) ((mI_o _ _ _ _ (by decide)).trans ((mI_o _ _ _ _ (by decide)).trans (mI_s _ _ _ _))) ((mI_o _ _ _ _ (by decide)).trans (mI_s _ _ _ _)) (mI_s _ _ _ _)
theorem sm_nest {M : vM} {b : Nat} (hb : 22 ≤ b) {e9 : Nat} {kind to : Int32} : sameT M (fNest M b e9 kind to) b := (((((sameT_mI ⟨by omega, by omega⟩ hb).trans (sameT_mI ⟨by omega, by omega⟩ hb)).trans (sameT_mI ⟨by omega, by omega⟩ hb)).trans (sameT_mI ⟨by omega, by omega⟩ hb)).trans (sameT_mRL ⟨by omega, by omega⟩)).trans (sameT_mI ⟨by omega, by omega⟩ hb)
theorem ti_nest {M : vM} {us b ca e r w : Nat} (hb : 22 ≤ b) {e9 : Nat} {kind to : Int32} (hI : tI M us b ca e r w) (he9 : e9 = e) (he2 : e < 24) (hk : kind = 0 ∨ kind = 1 ∨ kind = 2) (hka : kind = 0 → ∀ k, k < e → M.1 (b + 11) k ≠ 0) (h1 : M.1 b 0 = 1) : tI (fNest M b e9 kind to) us b ca (e + 1) r w := by
  rw [tI_C] at hI
  have q0 : (mI (mRL (mI (mI (mI (mI M (b + 11) e9 kind) (b + 12) e9 to) (b + 13) e9 (M.1 b 3)) (b + 14) e9 (M.1 b 6)) (b + 9) (vcp (M.2 (b + 8)) 0 (16 * e9) 16 (M.2 (b + 9)))) b 4 (nI (e9 + 1))).1 (b + 11) = upd (M.1 (b + 11)) e9 kind := (mI_n _ _ _ _ (by omega)).trans ((mI_n _ _ _ _ (by omega)).trans ((mI_n _ _ _ _ (by omega)).trans ((mI_n _ _ _ _ (by omega)).trans (mI_r _ _ _ _))))
  have q1 : (mI (mRL (mI (mI (mI (mI M (b + 11) e9 kind) (b + 12) e9 to) (b + 13) e9 (M.1 b 3)) (b + 14) e9 (M.1 b 6)) (b + 9) (vcp (M.2 (b + 8)) 0 (16 * e9) 16 (M.2 (b + 9)))) b 4 (nI (e9 + 1))).1 (b + 13) = upd (M.1 (b + 13)) e9 (M.1 b 3) := (mI_n _ _ _ _ (by omega)).trans ((mI_n _ _ _ _ (by omega)).trans ((mI_r _ _ _ _).trans (congrArg (fun f => upd f e9 (M.1 b 3)) ((mI_n _ _ _ _ (by omega)).trans (mI_n _ _ _ _ (by omega))))))
  have q2 : (mI (mRL (mI (mI (mI (mI M (b + 11) e9 kind) (b + 12) e9 to) (b + 13) e9 (M.1 b 3)) (b + 14) e9 (M.1 b 6)) (b + 9) (vcp (M.2 (b + 8)) 0 (16 * e9) 16 (M.2 (b + 9)))) b 4 (nI (e9 + 1))).1 (b + 14) = upd (M.1 (b + 14)) e9 (M.1 b 6) := (mI_n _ _ _ _ (by omega)).trans ((mI_r _ _ _ _).trans (congrArg (fun f => upd f e9 (M.1 b 6)) ((mI_n _ _ _ _ (by omega)).trans ((mI_n _ _ _ _ (by omega)).trans (mI_n _ _ _ _ (by omega))))))
  have q3 : (mI (mRL (mI (mI (mI (mI M (b + 11) e9 kind) (b + 12) e9 to) (b + 13) e9 (M.1 b 3)) (b + 14) e9 (M.1 b 6)) (b + 9) (vcp (M.2 (b + 8)) 0 (16 * e9) 16 (M.2 (b + 9)))) b 4 (nI (e9 + 1))).2 (b + 8) = M.2 (b + 8) := mRL_n _ _ _ (by omega)
  have q4 : (mI (mRL (mI (mI (mI (mI M (b + 11) e9 kind) (b + 12) e9 to) (b + 13) e9 (M.1 b 3)) (b + 14) e9 (M.1 b 6)) (b + 9) (vcp (M.2 (b + 8)) 0 (16 * e9) 16 (M.2 (b + 9)))) b 4 (nI (e9 + 1))).2 (b + 9) = (vcp (M.2 (b + 8)) 0 (16 * e9) 16 (M.2 (b + 9))) := mRL_r _ _ _
  have q5 : (mI (mRL (mI (mI (mI (mI M (b + 11) e9 kind) (b + 12) e9 to) (b + 13) e9 (M.1 b 3)) (b + 14) e9 (M.1 b 6)) (b + 9) (vcp (M.2 (b + 8)) 0 (16 * e9) 16 (M.2 (b + 9)))) b 4 (nI (e9 + 1))).2 (b + 15) = M.2 (b + 15) := mRL_n _ _ _ (by omega)
  have q6 : (mI (mRL (mI (mI (mI (mI M (b + 11) e9 kind) (b + 12) e9 to) (b + 13) e9 (M.1 b 3)) (b + 14) e9 (M.1 b 6)) (b + 9) (vcp (M.2 (b + 8)) 0 (16 * e9) 16 (M.2 (b + 9)))) b 4 (nI (e9 + 1))).2 (b + 16) = M.2 (b + 16) := mRL_n _ _ _ (by omega)
  have q7 : (mI (mRL (mI (mI (mI (mI M (b + 11) e9 kind) (b + 12) e9 to) (b + 13) e9 (M.1 b 3)) (b + 14) e9 (M.1 b 6)) (b + 9) (vcp (M.2 (b + 8)) 0 (16 * e9) 16 (M.2 (b + 9)))) b 4 (nI (e9 + 1))).2 (b + 17) = M.2 (b + 17) := mRL_n _ _ _ (by omega)
  have q8 : (mI (mRL (mI (mI (mI (mI M (b + 11) e9 kind) (b + 12) e9 to) (b + 13) e9 (M.1 b 3)) (b + 14) e9 (M.1 b 6)) (b + 9) (vcp (M.2 (b + 8)) 0 (16 * e9) 16 (M.2 (b + 9)))) b 4 (nI (e9 + 1))).1 (17) = M.1 17 := (mI_n _ _ _ _ (by omega)).trans ((mI_n _ _ _ _ (by omega)).trans ((mI_n _ _ _ _ (by omega)).trans ((mI_n _ _ _ _ (by omega)).trans (mI_n _ _ _ _ (by omega)))))
  show tI (mI (mRL (mI (mI (mI (mI M (b + 11) e9 kind) (b + 12) e9 to) (b + 13) e9 (M.1 b 3)) (b + 14) e9 (M.1 b 6)) (b + 9) (vcp (M.2 (b + 8)) 0 (16 * e9) 16 (M.2 (b + 9)))) b 4 (nI (e9 + 1))) us b ca (e + 1) r w
  rw [tI_C, q0, q1, q2, q3, q4, q5, q6, q7, q8]
  subst he9
  exact tC_nest hI he2 hk hka ((((mI_o _ _ _ _ (by decide)).trans ((congrFun (mI_n _ _ _ _ (by omega)) _).trans ((congrFun (mI_n _ _ _ _ (by omega)) _).trans ((congrFun (mI_n _ _ _ _ (by omega)) _).trans (congrFun (mI_n _ _ _ _ (by omega)) _)))))).trans h1) ((mI_o _ _ _ _ (by decide)).trans ((congrFun (mI_n _ _ _ _ (by omega)) _).trans ((congrFun (mI_n _ _ _ _ (by omega)) _).trans ((congrFun (mI_n _ _ _ _ (by omega)) _).trans (congrFun (mI_n _ _ _ _ (by omega)) _))))) (mI_s _ _ _ _) ((mI_o _ _ _ _ (by decide)).trans ((congrFun (mI_n _ _ _ _ (by omega)) _).trans ((congrFun (mI_n _ _ _ _ (by omega)) _).trans ((congrFun (mI_n _ _ _ _ (by omega)) _).trans (congrFun (mI_n _ _ _ _ (by omega)) _))))) ((mI_o _ _ _ _ (by decide)).trans ((congrFun (mI_n _ _ _ _ (by omega)) _).trans ((congrFun (mI_n _ _ _ _ (by omega)) _).trans ((congrFun (mI_n _ _ _ _ (by omega)) _).trans (congrFun (mI_n _ _ _ _ (by omega)) _)))))
theorem sm_read {M : vM} {b : Nat} (hb : 22 ≤ b) {r9 : Nat} {v : Int64} {r1 : Int32} : sameT M (mI (mL M (b + 15) r9 v) b 5 r1) b := (sameT_mL ⟨by omega, by omega⟩).trans (sameT_mI ⟨by omega, by omega⟩ hb)
theorem ti_read {M : vM} {us b ca e r w : Nat} (hb : 22 ≤ b) {r9 : Nat} {v : Int64} {r1 : Int32} (hI : tI M us b ca e r w) (hr9 : r9 = r) (hr1 : r1 = nI (r + 1)) (hr2 : r < 40) (hv : vV us (M.1 17) v) (hat : ∃ k, k < e ∧ M.1 (b + 11) k = 0) : tI (mI (mL M (b + 15) r9 v) b 5 r1) us b ca e (r + 1) w := by
  rw [tI_C] at hI
  have q0 : (mI (mL M (b + 15) r9 v) b 5 r1).1 (b + 11) = M.1 (b + 11) := mI_n _ _ _ _ (by omega)
  have q1 : (mI (mL M (b + 15) r9 v) b 5 r1).1 (b + 13) = M.1 (b + 13) := mI_n _ _ _ _ (by omega)
  have q2 : (mI (mL M (b + 15) r9 v) b 5 r1).1 (b + 14) = M.1 (b + 14) := mI_n _ _ _ _ (by omega)
  have q3 : (mI (mL M (b + 15) r9 v) b 5 r1).2 (b + 8) = M.2 (b + 8) := mL_n _ _ _ _ (by omega)
  have q4 : (mI (mL M (b + 15) r9 v) b 5 r1).2 (b + 9) = M.2 (b + 9) := mL_n _ _ _ _ (by omega)
  have q5 : (mI (mL M (b + 15) r9 v) b 5 r1).2 (b + 15) = vp_updL (M.2 (b + 15)) r9 v := mL_r _ _ _ _
  have q6 : (mI (mL M (b + 15) r9 v) b 5 r1).2 (b + 16) = M.2 (b + 16) := mL_n _ _ _ _ (by omega)
  have q7 : (mI (mL M (b + 15) r9 v) b 5 r1).2 (b + 17) = M.2 (b + 17) := mL_n _ _ _ _ (by omega)
  have q8 : (mI (mL M (b + 15) r9 v) b 5 r1).1 (17) = M.1 17 := mI_n _ _ _ _ (by omega)
  rw [tI_C, q0, q1, q2, q3, q4, q5, q6, q7, q8]
  subst hr9 hr1
  exact tC_read hI hr2 hv hat (mI_o _ _ _ _ (by decide)) (mI_o _ _ _ _ (by decide)) (mI_o _ _ _ _ (by decide)) ((mI_s _ _ _ _)) (mI_o _ _ _ _ (by decide))
theorem sm_write {M : vM} {b : Nat} (hb : 22 ≤ b) {w9 : Nat} {v x : Int64} {w1 : Int32} : sameT M (mI (mL (mL M (b + 16) w9 v) (b + 17) w9 x) b 6 w1) b := ((sameT_mL ⟨by omega, by omega⟩).trans (sameT_mL ⟨by omega, by omega⟩)).trans (sameT_mI ⟨by omega, by omega⟩ hb)
theorem ti_write {M : vM} {us b ca e r w : Nat} (hb : 22 ≤ b) {w9 : Nat} {v x : Int64} {w1 : Int32} (hI : tI M us b ca e r w) (hw9 : w9 = w) (hw1 : w1 = nI (w + 1)) (hw2 : w < 40) (hv : vV us (M.1 17) v) (hx : vO us (M.1 17) x) (hat : ∃ k, k < e ∧ M.1 (b + 11) k = 0) : tI (mI (mL (mL M (b + 16) w9 v) (b + 17) w9 x) b 6 w1) us b ca e r (w + 1) := by
  rw [tI_C] at hI
  have q0 : (mI (mL (mL M (b + 16) w9 v) (b + 17) w9 x) b 6 w1).1 (b + 11) = M.1 (b + 11) := mI_n _ _ _ _ (by omega)
  have q1 : (mI (mL (mL M (b + 16) w9 v) (b + 17) w9 x) b 6 w1).1 (b + 13) = M.1 (b + 13) := mI_n _ _ _ _ (by omega)
  have q2 : (mI (mL (mL M (b + 16) w9 v) (b + 17) w9 x) b 6 w1).1 (b + 14) = M.1 (b + 14) := mI_n _ _ _ _ (by omega)
  have q3 : (mI (mL (mL M (b + 16) w9 v) (b + 17) w9 x) b 6 w1).2 (b + 8) = M.2 (b + 8) := (mL_n _ _ _ _ (by omega)).trans (mL_n _ _ _ _ (by omega))
  have q4 : (mI (mL (mL M (b + 16) w9 v) (b + 17) w9 x) b 6 w1).2 (b + 9) = M.2 (b + 9) := (mL_n _ _ _ _ (by omega)).trans (mL_n _ _ _ _ (by omega))
  have q5 : (mI (mL (mL M (b + 16) w9 v) (b + 17) w9 x) b 6 w1).2 (b + 15) = M.2 (b + 15) := (mL_n _ _ _ _ (by omega)).trans (mL_n _ _ _ _ (by omega))
  have q6 : (mI (mL (mL M (b + 16) w9 v) (b + 17) w9 x) b 6 w1).2 (b + 16) = vp_updL (M.2 (b + 16)) w9 v := (mL_n _ _ _ _ (by omega)).trans (mL_r _ _ _ _)
  have q7 : (mI (mL (mL M (b + 16) w9 v) (b + 17) w9 x) b 6 w1).2 (b + 17) = vp_updL (M.2 (b + 17)) w9 x := (mL_r _ _ _ _).trans (congrArg (fun f => vp_updL f w9 x) (mL_n _ _ _ _ (by omega)))
  have q8 : (mI (mL (mL M (b + 16) w9 v) (b + 17) w9 x) b 6 w1).1 (17) = M.1 17 := mI_n _ _ _ _ (by omega)
  rw [tI_C, q0, q1, q2, q3, q4, q5, q6, q7, q8]
  subst hw9 hw1
  exact tC_write hI hw2 hv hx hat (mI_o _ _ _ _ (by decide)) (mI_o _ _ _ _ (by decide)) (mI_o _ _ _ _ (by decide)) (mI_o _ _ _ _ (by decide)) (mI_s _ _ _ _)
theorem sm_calls {M : vM} {b : Nat} (hb : 22 ≤ b) {c9 : Nat} {v : Int32} : sameT M (mI M b 3 v) b := sameT_mI ⟨by omega, by omega⟩ hb
theorem ti_calls {M : vM} {us b ca e r w : Nat} (hb : 22 ≤ b) {c9 : Nat} {v : Int32} (hI : tI M us b ca e r w) (hc : c9 ≤ 40) (hv : v = nI c9) (hl : ∀ k, k < e → nn (M.1 (b + 13) k) ≤ c9) : tI (mI M b 3 v) us b c9 e r w := by
  rw [tI_C] at hI
  have q0 : (mI M b 3 v).1 (b + 11) = M.1 (b + 11) := mI_n _ _ _ _ (by omega)
  have q1 : (mI M b 3 v).1 (b + 13) = M.1 (b + 13) := mI_n _ _ _ _ (by omega)
  have q2 : (mI M b 3 v).1 (b + 14) = M.1 (b + 14) := mI_n _ _ _ _ (by omega)
  have q3 : (mI M b 3 v).2 (b + 8) = M.2 (b + 8) := rfl
  have q4 : (mI M b 3 v).2 (b + 9) = M.2 (b + 9) := rfl
  have q5 : (mI M b 3 v).2 (b + 15) = M.2 (b + 15) := rfl
  have q6 : (mI M b 3 v).2 (b + 16) = M.2 (b + 16) := rfl
  have q7 : (mI M b 3 v).2 (b + 17) = M.2 (b + 17) := rfl
  have q8 : (mI M b 3 v).1 (17) = M.1 17 := mI_n _ _ _ _ (by omega)
  rw [tI_C, q0, q1, q2, q3, q4, q5, q6, q7, q8]
  subst hv
  exact tC_calls hI hc hl (mI_o _ _ _ _ (by decide)) (mI_s _ _ _ _) (mI_o _ _ _ _ (by decide)) (mI_o _ _ _ _ (by decide)) (mI_o _ _ _ _ (by decide))
theorem sm_roll {M : vM} {b : Nat} (hb : 22 ≤ b) {k : Nat} : sameT M (fRollBack M b k) b := ((((sameT_mI ⟨by omega, by omega⟩ hb).trans (sameT_mRL ⟨by omega, by omega⟩)).trans (sameT_mI ⟨by omega, by omega⟩ hb)).trans (sameT_mI ⟨by omega, by omega⟩ hb)).trans (sameT_mI ⟨by omega, by omega⟩ hb)
theorem ti_roll {M : vM} {us b ca e r w : Nat} (hb : 22 ≤ b) {k : Nat} (hI : tI M us b ca e r w) (hk : k < e) (hrw : (∀ j, j < k → M.1 (b + 11) j ≠ 0) → r = 0 ∧ nn (M.1 (b + 14) k) = 0) (h1 : M.1 b 0 = 1) : tI (fRollBack M b k) us b (nn (M.1 (b + 13) k)) k r (nn (M.1 (b + 14) k)) := by
  rw [tI_C] at hI
  have q0 : (mI (mI (mI (mRL (mI M b 3 (M.1 (b + 13) k)) (b + 8) (vcp (M.2 (b + 9)) (16 * k) 0 16 (M.2 (b + 8)))) b 6 (M.1 (b + 14) k)) b 4 (nI k)) b 2 (M.1 (b + 12) k)).1 (b + 11) = M.1 (b + 11) := (mI_n _ _ _ _ (by omega)).trans ((mI_n _ _ _ _ (by omega)).trans ((mI_n _ _ _ _ (by omega)).trans (mI_n _ _ _ _ (by omega))))
  have q1 : (mI (mI (mI (mRL (mI M b 3 (M.1 (b + 13) k)) (b + 8) (vcp (M.2 (b + 9)) (16 * k) 0 16 (M.2 (b + 8)))) b 6 (M.1 (b + 14) k)) b 4 (nI k)) b 2 (M.1 (b + 12) k)).1 (b + 13) = M.1 (b + 13) := (mI_n _ _ _ _ (by omega)).trans ((mI_n _ _ _ _ (by omega)).trans ((mI_n _ _ _ _ (by omega)).trans (mI_n _ _ _ _ (by omega))))
  have q2 : (mI (mI (mI (mRL (mI M b 3 (M.1 (b + 13) k)) (b + 8) (vcp (M.2 (b + 9)) (16 * k) 0 16 (M.2 (b + 8)))) b 6 (M.1 (b + 14) k)) b 4 (nI k)) b 2 (M.1 (b + 12) k)).1 (b + 14) = M.1 (b + 14) := (mI_n _ _ _ _ (by omega)).trans ((mI_n _ _ _ _ (by omega)).trans ((mI_n _ _ _ _ (by omega)).trans (mI_n _ _ _ _ (by omega))))
  have q3 : (mI (mI (mI (mRL (mI M b 3 (M.1 (b + 13) k)) (b + 8) (vcp (M.2 (b + 9)) (16 * k) 0 16 (M.2 (b + 8)))) b 6 (M.1 (b + 14) k)) b 4 (nI k)) b 2 (M.1 (b + 12) k)).2 (b + 8) = (vcp (M.2 (b + 9)) (16 * k) 0 16 (M.2 (b + 8))) := mRL_r _ _ _
  have q4 : (mI (mI (mI (mRL (mI M b 3 (M.1 (b + 13) k)) (b + 8) (vcp (M.2 (b + 9)) (16 * k) 0 16 (M.2 (b + 8)))) b 6 (M.1 (b + 14) k)) b 4 (nI k)) b 2 (M.1 (b + 12) k)).2 (b + 9) = M.2 (b + 9) := mRL_n _ _ _ (by omega)
  have q5 : (mI (mI (mI (mRL (mI M b 3 (M.1 (b + 13) k)) (b + 8) (vcp (M.2 (b + 9)) (16 * k) 0 16 (M.2 (b + 8)))) b 6 (M.1 (b + 14) k)) b 4 (nI k)) b 2 (M.1 (b + 12) k)).2 (b + 15) = M.2 (b + 15) := mRL_n _ _ _ (by omega)
  have q6 : (mI (mI (mI (mRL (mI M b 3 (M.1 (b + 13) k)) (b + 8) (vcp (M.2 (b + 9)) (16 * k) 0 16 (M.2 (b + 8)))) b 6 (M.1 (b + 14) k)) b 4 (nI k)) b 2 (M.1 (b + 12) k)).2 (b + 16) = M.2 (b + 16) := mRL_n _ _ _ (by omega)
  have q7 : (mI (mI (mI (mRL (mI M b 3 (M.1 (b + 13) k)) (b + 8) (vcp (M.2 (b + 9)) (16 * k) 0 16 (M.2 (b + 8)))) b 6 (M.1 (b + 14) k)) b 4 (nI k)) b 2 (M.1 (b + 12) k)).2 (b + 17) = M.2 (b + 17) := mRL_n _ _ _ (by omega)
  have q8 : (mI (mI (mI (mRL (mI M b 3 (M.1 (b + 13) k)) (b + 8) (vcp (M.2 (b + 9)) (16 * k) 0 16 (M.2 (b + 8)))) b 6 (M.1 (b + 14) k)) b 4 (nI k)) b 2 (M.1 (b + 12) k)).1 (17) = M.1 17 := (mI_n _ _ _ _ (by omega)).trans ((mI_n _ _ _ _ (by omega)).trans ((mI_n _ _ _ _ (by omega)).trans (mI_n _ _ _ _ (by omega))))
  show tI (mI (mI (mI (mRL (mI M b 3 (M.1 (b + 13) k)) (b + 8) (vcp (M.2 (b + 9)) (16 * k) 0 16 (M.2 (b + 8)))) b 6 (M.1 (b + 14) k)) b 4 (nI k)) b 2 (M.1 (b + 12) k)) us b (nn (M.1 (b + 13) k)) k r (nn (M.1 (b + 14) k))
  rw [tI_C, q0, q1, q2, q3, q4, q5, q6, q7, q8]
  exact tC_roll hI hk hrw ((((mI_o _ _ _ _ (by decide)).trans ((mI_o _ _ _ _ (by decide)).trans ((mI_o _ _ _ _ (by decide)).trans (mI_o _ _ _ _ (by decide)))))).trans h1) ((mI_o _ _ _ _ (by decide)).trans ((mI_o _ _ _ _ (by decide)).trans ((mI_o _ _ _ _ (by decide)).trans (mI_s _ _ _ _)))) ((mI_o _ _ _ _ (by decide)).trans (mI_s _ _ _ _)) ((mI_o _ _ _ _ (by decide)).trans ((mI_o _ _ _ _ (by decide)).trans ((mI_o _ _ _ _ (by decide)).trans (mI_o _ _ _ _ (by decide))))) ((mI_o _ _ _ _ (by decide)).trans ((mI_o _ _ _ _ (by decide)).trans (mI_s _ _ _ _)))
theorem sm_again {M : vM} {b : Nat} (hb : 22 ≤ b) {k : Nat} {clk : Int32} : sameT M (fAgain M b k clk) b := (((((((sameT_mI ⟨by omega, by omega⟩ hb).trans (sameT_mRL ⟨by omega, by omega⟩)).trans (sameT_mI ⟨by omega, by omega⟩ hb)).trans (sameT_mI ⟨by omega, by omega⟩ hb)).trans (sameT_mI ⟨by omega, by omega⟩ hb)).trans (sameT_mI ⟨by omega, by omega⟩ hb)).trans (sameT_mI ⟨by omega, by omega⟩ hb)).trans (sameT_mI ⟨by omega, by omega⟩ hb)
theorem ti_again {M : vM} {us b ca e r w : Nat} (hb : 22 ≤ b) {k : Nat} {clk : Int32} (hI : tI M us b ca e r w) (hk : k < e) (hk0 : M.1 (b + 11) k = 0) : tI (fAgain M b k clk) us b (nn (M.1 (b + 13) k)) (k + 1) 0 0 := by
  rw [tI_C] at hI
  have q0 : (mI (mI (mI (mI (mI (mI (mRL (mI M b 3 (M.1 (b + 13) k)) (b + 8) (vcp (M.2 (b + 9)) (16 * k) 0 16 (M.2 (b + 8)))) b 4 (nI (k + 1))) b 5 0) b 6 0) b 7 clk) b 2 (M.1 (b + 12) k)) b 0 1).1 (b + 11) = M.1 (b + 11) := (mI_n _ _ _ _ (by omega)).trans ((mI_n _ _ _ _ (by omega)).trans ((mI_n _ _ _ _ (by omega)).trans ((mI_n _ _ _ _ (by omega)).trans ((mI_n _ _ _ _ (by omega)).trans ((mI_n _ _ _ _ (by omega)).trans (mI_n _ _ _ _ (by omega)))))))
  have q1 : (mI (mI (mI (mI (mI (mI (mRL (mI M b 3 (M.1 (b + 13) k)) (b + 8) (vcp (M.2 (b + 9)) (16 * k) 0 16 (M.2 (b + 8)))) b 4 (nI (k + 1))) b 5 0) b 6 0) b 7 clk) b 2 (M.1 (b + 12) k)) b 0 1).1 (b + 13) = M.1 (b + 13) := (mI_n _ _ _ _ (by omega)).trans ((mI_n _ _ _ _ (by omega)).trans ((mI_n _ _ _ _ (by omega)).trans ((mI_n _ _ _ _ (by omega)).trans ((mI_n _ _ _ _ (by omega)).trans ((mI_n _ _ _ _ (by omega)).trans (mI_n _ _ _ _ (by omega)))))))
  have q2 : (mI (mI (mI (mI (mI (mI (mRL (mI M b 3 (M.1 (b + 13) k)) (b + 8) (vcp (M.2 (b + 9)) (16 * k) 0 16 (M.2 (b + 8)))) b 4 (nI (k + 1))) b 5 0) b 6 0) b 7 clk) b 2 (M.1 (b + 12) k)) b 0 1).1 (b + 14) = M.1 (b + 14) := (mI_n _ _ _ _ (by omega)).trans ((mI_n _ _ _ _ (by omega)).trans ((mI_n _ _ _ _ (by omega)).trans ((mI_n _ _ _ _ (by omega)).trans ((mI_n _ _ _ _ (by omega)).trans ((mI_n _ _ _ _ (by omega)).trans (mI_n _ _ _ _ (by omega)))))))
  have q3 : (mI (mI (mI (mI (mI (mI (mRL (mI M b 3 (M.1 (b + 13) k)) (b + 8) (vcp (M.2 (b + 9)) (16 * k) 0 16 (M.2 (b + 8)))) b 4 (nI (k + 1))) b 5 0) b 6 0) b 7 clk) b 2 (M.1 (b + 12) k)) b 0 1).2 (b + 8) = (vcp (M.2 (b + 9)) (16 * k) 0 16 (M.2 (b + 8))) := mRL_r _ _ _
  have q4 : (mI (mI (mI (mI (mI (mI (mRL (mI M b 3 (M.1 (b + 13) k)) (b + 8) (vcp (M.2 (b + 9)) (16 * k) 0 16 (M.2 (b + 8)))) b 4 (nI (k + 1))) b 5 0) b 6 0) b 7 clk) b 2 (M.1 (b + 12) k)) b 0 1).2 (b + 9) = M.2 (b + 9) := mRL_n _ _ _ (by omega)
  have q5 : (mI (mI (mI (mI (mI (mI (mRL (mI M b 3 (M.1 (b + 13) k)) (b + 8) (vcp (M.2 (b + 9)) (16 * k) 0 16 (M.2 (b + 8)))) b 4 (nI (k + 1))) b 5 0) b 6 0) b 7 clk) b 2 (M.1 (b + 12) k)) b 0 1).2 (b + 15) = M.2 (b + 15) := mRL_n _ _ _ (by omega)
  have q6 : (mI (mI (mI (mI (mI (mI (mRL (mI M b 3 (M.1 (b + 13) k)) (b + 8) (vcp (M.2 (b + 9)) (16 * k) 0 16 (M.2 (b + 8)))) b 4 (nI (k + 1))) b 5 0) b 6 0) b 7 clk) b 2 (M.1 (b + 12) k)) b 0 1).2 (b + 16) = M.2 (b + 16) := mRL_n _ _ _ (by omega)
  have q7 : (mI (mI (mI (mI (mI (mI (mRL (mI M b 3 (M.1 (b + 13) k)) (b + 8) (vcp (M.2 (b + 9)) (16 * k) 0 16 (M.2 (b + 8)))) b 4 (nI (k + 1))) b 5 0) b 6 0) b 7 clk) b 2 (M.1 (b + 12) k)) b 0 1).2 (b + 17) = M.2 (b + 17) := mRL_n _ _ _ (by omega)
  have q8 : (mI (mI (mI (mI (mI (mI (mRL (mI M b 3 (M.1 (b + 13) k)) (b + 8) (vcp (M.2 (b + 9)) (16 * k) 0 16 (M.2 (b + 8)))) b 4 (nI (k + 1))) b 5 0) b 6 0) b 7 clk) b 2 (M.1 (b + 12) k)) b 0 1).1 (17) = M.1 17 := (mI_n _ _ _ _ (by omega)).trans ((mI_n _ _ _ _ (by omega)).trans ((mI_n _ _ _ _ (by omega)).trans ((mI_n _ _ _ _ (by omega)).trans ((mI_n _ _ _ _ (by omega)).trans ((mI_n _ _ _ _ (by omega)).trans (mI_n _ _ _ _ (by omega)))))))
  show tI (mI (mI (mI (mI (mI (mI (mRL (mI M b 3 (M.1 (b + 13) k)) (b + 8) (vcp (M.2 (b + 9)) (16 * k) 0 16 (M.2 (b + 8)))) b 4 (nI (k + 1))) b 5 0) b 6 0) b 7 clk) b 2 (M.1 (b + 12) k)) b 0 1) us b (nn (M.1 (b + 13) k)) (k + 1) 0 0
  rw [tI_C, q0, q1, q2, q3, q4, q5, q6, q7, q8]
  exact tC_again hI hk hk0 (mI_s _ _ _ _) ((mI_o _ _ _ _ (by decide)).trans ((mI_o _ _ _ _ (by decide)).trans ((mI_o _ _ _ _ (by decide)).trans ((mI_o _ _ _ _ (by decide)).trans ((mI_o _ _ _ _ (by decide)).trans ((mI_o _ _ _ _ (by decide)).trans (mI_s _ _ _ _))))))) ((mI_o _ _ _ _ (by decide)).trans ((mI_o _ _ _ _ (by decide)).trans ((mI_o _ _ _ _ (by decide)).trans ((mI_o _ _ _ _ (by decide)).trans ((mI_o _ _ _ _ (by decide)).trans (mI_s _ _ _ _)))))) ((mI_o _ _ _ _ (by decide)).trans ((mI_o _ _ _ _ (by decide)).trans ((mI_o _ _ _ _ (by decide)).trans ((mI_o _ _ _ _ (by decide)).trans (mI_s _ _ _ _))))) ((mI_o _ _ _ _ (by decide)).trans ((mI_o _ _ _ _ (by decide)).trans ((mI_o _ _ _ _ (by decide)).trans (mI_s _ _ _ _))))
theorem sm_out {M : vM} {b : Nat} (hb : 22 ≤ b) {v : Int32} : sameT M (mI (mI (mI M b 4 v) b 5 0) b 6 0) b := ((sameT_mI ⟨by omega, by omega⟩ hb).trans (sameT_mI ⟨by omega, by omega⟩ hb)).trans (sameT_mI ⟨by omega, by omega⟩ hb)
theorem ti_out {M : vM} {us b ca e r w : Nat} (hb : 22 ≤ b) {v : Int32} (hI : tI M us b ca e r w) {q : Nat} (hv : v = nI q) (hq : q < e) (hq0 : M.1 (b + 11) q = 0) (h1 : M.1 b 0 = 1) : tI (mI (mI (mI M b 4 v) b 5 0) b 6 0) us b ca q 0 0 := by
  rw [tI_C] at hI
  have q0 : (mI (mI (mI M b 4 v) b 5 0) b 6 0).1 (b + 11) = M.1 (b + 11) := (mI_n _ _ _ _ (by omega)).trans ((mI_n _ _ _ _ (by omega)).trans (mI_n _ _ _ _ (by omega)))
  have q1 : (mI (mI (mI M b 4 v) b 5 0) b 6 0).1 (b + 13) = M.1 (b + 13) := (mI_n _ _ _ _ (by omega)).trans ((mI_n _ _ _ _ (by omega)).trans (mI_n _ _ _ _ (by omega)))
  have q2 : (mI (mI (mI M b 4 v) b 5 0) b 6 0).1 (b + 14) = M.1 (b + 14) := (mI_n _ _ _ _ (by omega)).trans ((mI_n _ _ _ _ (by omega)).trans (mI_n _ _ _ _ (by omega)))
  have q3 : (mI (mI (mI M b 4 v) b 5 0) b 6 0).2 (b + 8) = M.2 (b + 8) := rfl
  have q4 : (mI (mI (mI M b 4 v) b 5 0) b 6 0).2 (b + 9) = M.2 (b + 9) := rfl
  have q5 : (mI (mI (mI M b 4 v) b 5 0) b 6 0).2 (b + 15) = M.2 (b + 15) := rfl
  have q6 : (mI (mI (mI M b 4 v) b 5 0) b 6 0).2 (b + 16) = M.2 (b + 16) := rfl
  have q7 : (mI (mI (mI M b 4 v) b 5 0) b 6 0).2 (b + 17) = M.2 (b + 17) := rfl
  have q8 : (mI (mI (mI M b 4 v) b 5 0) b 6 0).1 (17) = M.1 17 := (mI_n _ _ _ _ (by omega)).trans ((mI_n _ _ _ _ (by omega)).trans (mI_n _ _ _ _ (by omega)))
  rw [tI_C, q0, q1, q2, q3, q4, q5, q6, q7, q8]
  subst hv
  exact tC_out hI hq hq0 ((((mI_o _ _ _ _ (by decide)).trans ((mI_o _ _ _ _ (by decide)).trans (mI_o _ _ _ _ (by decide))))).trans h1) ((mI_o _ _ _ _ (by decide)).trans ((mI_o _ _ _ _ (by decide)).trans (mI_o _ _ _ _ (by decide)))) ((mI_o _ _ _ _ (by decide)).trans ((mI_o _ _ _ _ (by decide)).trans (mI_s _ _ _ _))) ((mI_o _ _ _ _ (by decide)).trans (mI_s _ _ _ _)) (mI_s _ _ _ _)
theorem sm_out2 {M : vM} {b : Nat} (hb : 22 ≤ b) {v : Int32} : sameT M (mI (mI (mI M b 5 0) b 6 0) b 4 v) b := ((sameT_mI ⟨by omega, by omega⟩ hb).trans (sameT_mI ⟨by omega, by omega⟩ hb)).trans (sameT_mI ⟨by omega, by omega⟩ hb)
theorem ti_out2 {M : vM} {us b ca e r w : Nat} (hb : 22 ≤ b) {v : Int32} (hI : tI M us b ca e r w) {q : Nat} (hv : v = nI q) (hq : q < e) (hq0 : M.1 (b + 11) q = 0) (h1 : M.1 b 0 = 1) : tI (mI (mI (mI M b 5 0) b 6 0) b 4 v) us b ca q 0 0 := by
  rw [tI_C] at hI
  have q0 : (mI (mI (mI M b 5 0) b 6 0) b 4 v).1 (b + 11) = M.1 (b + 11) := (mI_n _ _ _ _ (by omega)).trans ((mI_n _ _ _ _ (by omega)).trans (mI_n _ _ _ _ (by omega)))
  have q1 : (mI (mI (mI M b 5 0) b 6 0) b 4 v).1 (b + 13) = M.1 (b + 13) := (mI_n _ _ _ _ (by omega)).trans ((mI_n _ _ _ _ (by omega)).trans (mI_n _ _ _ _ (by omega)))
  have q2 : (mI (mI (mI M b 5 0) b 6 0) b 4 v).1 (b + 14) = M.1 (b + 14) := (mI_n _ _ _ _ (by omega)).trans ((mI_n _ _ _ _ (by omega)).trans (mI_n _ _ _ _ (by omega)))
  have q3 : (mI (mI (mI M b 5 0) b 6 0) b 4 v).2 (b + 8) = M.2 (b + 8) := rfl
  have q4 : (mI (mI (mI M b 5 0) b 6 0) b 4 v).2 (b + 9) = M.2 (b + 9) := rfl
  have q5 : (mI (mI (mI M b 5 0) b 6 0) b 4 v).2 (b + 15) = M.2 (b + 15) := rfl
  have q6 : (mI (mI (mI M b 5 0) b 6 0) b 4 v).2 (b + 16) = M.2 (b + 16) := rfl
  have q7 : (mI (mI (mI M b 5 0) b 6 0) b 4 v).2 (b + 17) = M.2 (b + 17) := rfl
  have q8 : (mI (mI (mI M b 5 0) b 6 0) b 4 v).1 (17) = M.1 17 := (mI_n _ _ _ _ (by omega)).trans ((mI_n _ _ _ _ (by omega)).trans (mI_n _ _ _ _ (by omega)))
  rw [tI_C, q0, q1, q2, q3, q4, q5, q6, q7, q8]
  subst hv
  exact tC_out hI hq hq0 ((((mI_o _ _ _ _ (by decide)).trans ((mI_o _ _ _ _ (by decide)).trans (mI_o _ _ _ _ (by decide))))).trans h1) ((mI_o _ _ _ _ (by decide)).trans ((mI_o _ _ _ _ (by decide)).trans (mI_o _ _ _ _ (by decide)))) (mI_s _ _ _ _) ((mI_o _ _ _ _ (by decide)).trans ((mI_o _ _ _ _ (by decide)).trans (mI_s _ _ _ _))) ((mI_o _ _ _ _ (by decide)).trans (mI_s _ _ _ _))
theorem sm_pop {M : vM} {b : Nat} (hb : 22 ≤ b) {v : Int32} : sameT M (mI M b 4 v) b := sameT_mI ⟨by omega, by omega⟩ hb
theorem ti_pop {M : vM} {us b ca e r w : Nat} (hb : 22 ≤ b) {v : Int32} (hI : tI M us b ca e r w) {q : Nat} (hv : v = nI q) (he9 : e = q + 1) (hq0 : M.1 (b + 11) q ≠ 0) (h1 : M.1 b 0 = 1) : tI (mI M b 4 v) us b ca q r w := by
  rw [tI_C] at hI
  have q0 : (mI M b 4 v).1 (b + 11) = M.1 (b + 11) := mI_n _ _ _ _ (by omega)
  have q1 : (mI M b 4 v).1 (b + 13) = M.1 (b + 13) := mI_n _ _ _ _ (by omega)
  have q2 : (mI M b 4 v).1 (b + 14) = M.1 (b + 14) := mI_n _ _ _ _ (by omega)
  have q3 : (mI M b 4 v).2 (b + 8) = M.2 (b + 8) := rfl
  have q4 : (mI M b 4 v).2 (b + 9) = M.2 (b + 9) := rfl
  have q5 : (mI M b 4 v).2 (b + 15) = M.2 (b + 15) := rfl
  have q6 : (mI M b 4 v).2 (b + 16) = M.2 (b + 16) := rfl
  have q7 : (mI M b 4 v).2 (b + 17) = M.2 (b + 17) := rfl
  have q8 : (mI M b 4 v).1 (17) = M.1 17 := mI_n _ _ _ _ (by omega)
  rw [tI_C, q0, q1, q2, q3, q4, q5, q6, q7, q8]
  subst hv he9
  exact tC_pop hI hq0 (((mI_o _ _ _ _ (by decide))).trans h1) (mI_o _ _ _ _ (by decide)) (mI_s _ _ _ _) (mI_o _ _ _ _ (by decide)) (mI_o _ _ _ _ (by decide))
theorem sm_park {M : vM} {b : Nat} (hb : 22 ≤ b)  : sameT M (mI M b 0 2) b := sameT_mI ⟨by omega, by omega⟩ hb
theorem ti_park {M : vM} {us b ca e r w : Nat} (hb : 22 ≤ b)  (hI : tI M us b ca e r w) (hat : ∃ k, k < e ∧ M.1 (b + 11) k = 0) : tI (mI M b 0 2) us b ca e r w := by
  rw [tI_C] at hI
  have q0 : (mI M b 0 2).1 (b + 11) = M.1 (b + 11) := mI_n _ _ _ _ (by omega)
  have q1 : (mI M b 0 2).1 (b + 13) = M.1 (b + 13) := mI_n _ _ _ _ (by omega)
  have q2 : (mI M b 0 2).1 (b + 14) = M.1 (b + 14) := mI_n _ _ _ _ (by omega)
  have q3 : (mI M b 0 2).2 (b + 8) = M.2 (b + 8) := rfl
  have q4 : (mI M b 0 2).2 (b + 9) = M.2 (b + 9) := rfl
  have q5 : (mI M b 0 2).2 (b + 15) = M.2 (b + 15) := rfl
  have q6 : (mI M b 0 2).2 (b + 16) = M.2 (b + 16) := rfl
  have q7 : (mI M b 0 2).2 (b + 17) = M.2 (b + 17) := rfl
  have q8 : (mI M b 0 2).1 (17) = M.1 17 := mI_n _ _ _ _ (by omega)
  rw [tI_C, q0, q1, q2, q3, q4, q5, q6, q7, q8]
  exact tC_park hI hat (mI_s _ _ _ _) (mI_o _ _ _ _ (by decide)) (mI_o _ _ _ _ (by decide)) (mI_o _ _ _ _ (by decide)) (mI_o _ _ _ _ (by decide))
/-- the invariant, with the number of places -/
def IU (M : vM) (n us : Nat) : Prop := ∃ sz pd, gI M n sz us pd ∧ ∀ i, i < n → ∃ ca e r w, tI M us (tb i) ca e r w
theorem IU.inv {M : vM} {n us : Nat} (h : IU M n us) : Inv M n := by
  obtain ⟨sz, pd, hg, ht⟩ := h; exact ⟨sz, us, pd, hg, ht⟩
theorem Inv.iu {M : vM} {n : Nat} (h : Inv M n) : ∃ us, IU M n us := by
  obtain ⟨sz, us, pd, hg, ht⟩ := h; exact ⟨us, sz, pd, hg, ht⟩
theorem IU.t {M M' : vM} {n us i : Nat} (h : IU M n us) (hi : i < n) (hs : sameT M M' (tb i)) (ht : ∀ ca e r w, tI M us (tb i) ca e r w → ∃ ca e r w, tI M' us (tb i) ca e r w) : IU M' n us := by
  obtain ⟨sz, pd, hg, hts⟩ := h
  refine ⟨sz, pd, hs.g hg, fun j hj => ?_⟩
  by_cases hji : j = i
  · subst hji
    obtain ⟨ca, e, r, w, q⟩ := hts j hj
    exact ht ca e r w q
  · obtain ⟨ca, e, r, w, q⟩ := hts j hj
    exact ⟨ca, e, r, w, hs.t hji q⟩
theorem tb22 {i : Nat} : 22 ≤ tb i := by unfold tb; omega
theorem IU.at {M : vM} {n us i : Nat} (h : IU M n us) (hi : i < n) : ∃ ca e r w, tI M us (tb i) ca e r w := by
  obtain ⟨sz, pd, hg, hts⟩ := h; exact hts i hi
theorem IU.us {M : vM} {n us : Nat} (h : IU M n us) : us ≤ 200 := by
  obtain ⟨sz, pd, hg, hts⟩ := h; exact hg.2.2.2.2.2.2.1
theorem iu_cnt {M : vM} {n us k : Nat} {v : Int32} (h : IU M n us) (hk : k ≠ 1 ∧ k ≠ 2 ∧ k ≠ 3 ∧ k ≠ 8) : IU (mI M 0 k v) n us := by
  obtain ⟨sz, pd, hg, hts⟩ := h
  have hs : ∀ b, sameT M (mI M 0 k v) b := fun b => sameT.cnt hk
  refine ⟨sz, pd, (hs (tb n)).g hg, fun j hj => ?_⟩
  obtain ⟨ca, e, r, w, q⟩ := hts j hj
  exact ⟨ca, e, r, w, (hs (tb n)).t (by omega) q⟩
theorem iu_ob1 {M : vM} {n us i : Nat} {v : Int32} (h : IU M n us) (hi : i < n) : IU (mI M (tb i) 1 v) n us := h.t hi (sm_ob1 tb22) (fun ca e r w q => ⟨_, _, _, _, ti_ob1 tb22 q⟩)
theorem iu_ob2 {M : vM} {n us i : Nat} {v : Int32} (h : IU M n us) (hi : i < n) : IU (mI M (tb i) 2 v) n us := h.t hi (sm_ob2 tb22) (fun ca e r w q => ⟨_, _, _, _, ti_ob2 tb22 q⟩)
theorem iu_ob7 {M : vM} {n us i : Nat} {v : Int32} (h : IU M n us) (hi : i < n) : IU (mI M (tb i) 7 v) n us := h.t hi (sm_ob7 tb22) (fun ca e r w q => ⟨_, _, _, _, ti_ob7 tb22 q⟩)
theorem iu_c10 {M : vM} {n us i k : Nat} {v : Int32} (h : IU M n us) (hi : i < n) : IU (mI M (tb i + 10) k v) n us := h.t hi (sm_c10 tb22) (fun ca e r w q => ⟨_, _, _, _, ti_c10 tb22 q⟩)
theorem iu_reg {M : vM} {n us i j : Nat} {v : Int64} (h : IU M n us) (hi : i < n) (hv : vO us (M.1 17) v) : IU (mL M (tb i + 8) j v) n us := h.t hi (sm_reg tb22) (fun ca e r w q => ⟨_, _, _, _, ti_reg tb22 q hv⟩)
theorem iu_end {M : vM} {n us i : Nat} {how why : Int32} (h : IU M n us) (hi : i < n) (h0 : how = 3 ∨ how = 4) : IU (fEnd M (tb i) how why) n us := h.t hi (sm_end tb22) (fun ca e r w q => ⟨_, _, _, _, ti_end tb22 q h0⟩)
