/-! LISTS: GROWING, ADDING (any world) -/
def ncap (c : Nat) : Nat := if c = 0 then 10 else c + max 1 (c / 2)
theorem ncap_le (c : Nat) : c + 1 ≤ ncap c ∧ ncap c ≤ c + c + 10 := by
  unfold ncap
  split
  · omega
  · have h1 : 1 ≤ max 1 (c / 2) := Nat.le_max_left _ _
    have h2 : max 1 (c / 2) ≤ 1 + c / 2 := Nat.max_le.mpr ⟨by omega, by omega⟩
    omega
theorem cpy0 {F : Nat → Option Nat} : va_cpy F (fun _ => none) 0 0 0 = fun _ => none := by
  funext k; exact if_neg (by omega)
theorem c_growE {l : Launch} {D : va_G} {Y : Nat → ClassId} {zz : Nat → Nat} {ws : va_W} {a q0 mn : Nat} {mc sz : Int32} (h0 : ws[q0]? = some (a, lQ mc (zz 32) sz)) (hmn : mn ≤ 10) : Ct l D Y zz yJx4a65c_grow_92f84 cJx4a65c_grow_92f84 4 (some (FieldType.array (FieldType.object "java/lang/Object"))) 3 124 [.ref a, .int (nI mn)] ws 1 10 (fun r w => ∃ b, r = some (.ref b) ∧ w = ws.set q0 (a, lQ mc b sz) ++ [(b, aQ (Y 4) 10 (fun _ => none))]) := by
  refine v_entry (by decide +kernel) (Nat.le_of_ble_eq_true rfl) ?_
  intro K X R hR hnm hl hD hY hz
  subst hl hD hY hz
  refine v_sub (lv' := [(0, .ref a), (1, .int (nI mn))]) [0, 1] rfl ?_
  refine v_aload_n (pc' := 1) (i := 0) (j := 0) X dJx4a65c_grow_92f84_0 rfl rfl rfl ?_
  refine v_get (pc' := 4) X inJx4a65c q0 h0 rfl 1 (by decide) w_fl_Jx4a65c_9 rfl rfl dJx4a65c_grow_92f84_1 rfl ?_
  refine v_tlen (pc' := 5) (v := 0) X X.zDt rfl dJx4a65c_grow_92f84_4 rfl ?_
  refine v_istore_n (pc' := 6) (i := 2) (lv' := [(2, .int 0), (0, .ref a), (1, .int (nI mn))]) X dJx4a65c_grow_92f84_5 rfl (by decide) rfl rfl ?_
  refine v_iload_n (pc' := 7) (i := 2) (j := 0) X dJx4a65c_grow_92f84_6 rfl rfl rfl ?_
  refine v_if_gt (pc' := 10) (tgt := 20) X dJx4a65c_grow_92f84_7 (by decide) rfl (fun h9 => absurd h9 (by decide)) (fun _ => ?_)
  refine v_aload_n (pc' := 11) (i := 0) (j := 1) X dJx4a65c_grow_92f84_10 rfl rfl rfl ?_
  refine v_get (pc' := 14) X inJx4a65c q0 h0 rfl 1 (by decide) w_fl_Jx4a65c_9 rfl rfl dJx4a65c_grow_92f84_11 rfl ?_
  refine v_gets (pc' := 17) X X.zD w_fl_Jx4a65c_39 rfl dJx4a65c_grow_92f84_14 rfl ?_
  refine v_acmp_eq (rx := some (kZ K 32)) (ry := some (kZ K 32)) (pc' := 20) (tgt := 45) X dJx4a65c_grow_92f84_17 (by decide) rfl (fun _ => ?_) (fun h9 => absurd rfl h9)
  refine v_aload_n (pc' := 46) (i := 0) (j := 1) X dJx4a65c_grow_92f84_45 rfl rfl rfl ?_
  refine v_bipush (pc' := 48) (v := nI 10) X dJx4a65c_grow_92f84_46 (by decide) rfl ?_
  refine v_iload_n (pc' := 49) (i := 1) (j := 2) X dJx4a65c_grow_92f84_48 rfl rfl rfl ?_
  refine v_mmax (pc' := 52) X (by decide) (by omega) w_ml_Jx4a65c_79 (by rw [hR]; exact Nat.le_of_ble_eq_true rfl) (by rw [hR]; exact Nat.le_of_ble_eq_true rfl) (Nat.zero_le _) (Nat.zero_le _) dJx4a65c_grow_92f84_49 rfl ?_
  rw [Nat.max_eq_left hmn]
  refine v_newq (pc' := 55) X 4 rfl w_cl_Jx4a65c_7 X.n.2.2.2.2.1 (N' := 10) (by decide) (by decide) (by decide) (by rw [hR]; exact Nat.le_of_ble_eq_true rfl) (by rw [hR]; exact Nat.le_of_ble_eq_true rfl) dJx4a65c_grow_92f84_52 rfl (fun b => ?_)
  refine v_dup_x1 (pc' := 56) X dJx4a65c_grow_92f84_55 rfl rfl rfl ?_
  refine v_put (pc' := 59) (ty := .array (.object "java/lang/Object")) (v := .ref b) X inJx4a65c tyJx4a65c tyJx4a65c_ok nmJx4a65c q0 (app_l h0) rfl 1 (by decide) w_fl_Jx4a65c_9 rfl rfl (by decide +kernel) rfl rfl (Nat.le_of_ble_eq_true rfl) dJx4a65c_grow_92f84_56 rfl ?_
  refine v_eqw (set_app h0) ?_
  refine v_areturn X R (Or.inr ⟨_, rfl⟩) (Or.inr ⟨_, rfl⟩) (Nat.le_of_ble_eq_true rfl) (Nat.le_of_ble_eq_true rfl) dJx4a65c_grow_92f84_59 ?_
  exact ⟨b, rfl, rfl⟩
theorem c_growG {l : Launch} {D : va_G} {Y : Nat → ClassId} {zz : Nat → Nat} {ws : va_W} {a b q0 q1 cap : Nat} {mc sz : Int32} {F : Nat → Option Nat} (h0 : ws[q0]? = some (a, lQ mc b sz)) (h1 : ws[q1]? = some (b, aQ (Y 4) cap F)) (hc0 : 0 < cap) (hcap : cap < 2 ^ 20) (hel : eOK ws F cap) : Ct l D Y zz yJx4a65c_grow_92f84 cJx4a65c_grow_92f84 4 (some (FieldType.array (FieldType.object "java/lang/Object"))) 3 124 [.ref a, .int (nI (cap + 1))] ws 1 (ncap cap) (fun r w => ∃ b9, r = some (.ref b9) ∧ w = ws.set q0 (a, lQ mc b9 sz) ++ [(b9, aQ (Y 4) (ncap cap) (va_cpy F (fun _ => none) 0 0 cap))]) := by
  refine v_entry (by decide +kernel) (Nat.le_of_ble_eq_true rfl) ?_
  intro K X R hR hnm hl hD hY hz
  subst hl hD hY hz
  have hnl := ncap_le cap
  have hnc : ncap cap = cap + max 1 (cap / 2) := if_neg (by omega)
  refine v_sub (lv' := [(0, .ref a), (1, .int (nI (cap + 1)))]) [0, 1] rfl ?_
  refine v_aload_n (pc' := 1) (i := 0) (j := 0) X dJx4a65c_grow_92f84_0 rfl rfl rfl ?_
  refine v_get (pc' := 4) X inJx4a65c q0 h0 rfl 1 (by decide) w_fl_Jx4a65c_9 rfl rfl dJx4a65c_grow_92f84_1 rfl ?_
  refine v_alen (pc' := 5) (v := nI cap) X q1 4 h1 rfl rfl dJx4a65c_grow_92f84_4 rfl ?_
  refine v_istore_n (pc' := 6) (i := 2) (lv' := [(2, .int (nI cap)), (0, .ref a), (1, .int (nI (cap + 1)))]) X dJx4a65c_grow_92f84_5 rfl (by decide) rfl rfl ?_
  refine v_iload_n (pc' := 7) (i := 2) (j := 0) X dJx4a65c_grow_92f84_6 rfl rfl rfl ?_
  refine v_if_gt (pc' := 10) (tgt := 20) X dJx4a65c_grow_92f84_7 (by decide) rfl (fun _ => ?_) (fun h9 => absurd (nI_lt (a := 0) hc0 (by omega)) h9)
  refine v_iload_n (pc' := 21) (i := 2) (j := 0) X dJx4a65c_grow_92f84_20 rfl rfl rfl ?_
  refine v_iload_n (pc' := 22) (i := 1) (j := 2) X dJx4a65c_grow_92f84_21 rfl rfl rfl ?_
  refine v_iload_n (pc' := 23) (i := 2) (j := 0) X dJx4a65c_grow_92f84_22 rfl rfl rfl ?_
  refine v_isubV (pc' := 24) (v := nI 1) X (by rw [pk_sub (by omega), show cap + 1 - cap = 1 by omega]) dJx4a65c_grow_92f84_23 rfl ?_
  refine v_iload_n (pc' := 25) (i := 2) (j := 0) X dJx4a65c_grow_92f84_24 rfl rfl rfl ?_
  refine v_iconst (pc' := 26) (v := 1) X dJx4a65c_grow_92f84_25 (by decide) rfl ?_
  refine v_ishr (pc' := 27) X dJx4a65c_grow_92f84_26 rfl ?_
  refine v_st1 (b := .int (nI (cap / 2))) (by rw [pk_shrN (by omega) _ 1 (by decide)]) ?_
  refine v_callS (pc' := 30) X (st := []) (c_newLength (a := cap) (b := 1) (c := cap / 2) (by omega) (by omega) (by omega) hc0) k_J8_newLength_cabcc w_ml_Jx4a65c_73 w_st_J8_newLength_cabcc (by rw [hR]; exact ⟨Nat.le_of_ble_eq_true rfl, Nat.le_of_ble_eq_true rfl⟩) rfl rfl (Nat.le_of_ble_eq_true rfl) dJx4a65c_grow_92f84_27 rfl (⟨Nat.zero_le _, Nat.zero_le _⟩) ?_
  rintro _ _ ⟨rfl, rfl⟩
  rw [← hnc]
  refine v_istore_n (pc' := 31) (i := 3) (lv' := [(3, .int (nI (ncap cap))), (2, .int (nI cap)), (0, .ref a), (1, .int (nI (cap + 1)))]) X dJx4a65c_grow_92f84_30 rfl (by decide) rfl rfl ?_
  refine v_aload_n (pc' := 32) (i := 0) (j := 2) X dJx4a65c_grow_92f84_31 rfl rfl rfl ?_
  refine v_aload_n (pc' := 33) (i := 0) (j := 2) X dJx4a65c_grow_92f84_32 rfl rfl rfl ?_
  refine v_get (pc' := 36) X inJx4a65c q0 h0 rfl 1 (by decide) w_fl_Jx4a65c_9 rfl rfl dJx4a65c_grow_92f84_33 rfl ?_
  refine v_iload_n (pc' := 37) (i := 3) (j := 0) X dJx4a65c_grow_92f84_36 rfl rfl rfl ?_
  refine v_callS (pc' := 40) X (st := [.ref a]) (c_copyOf2 (nc := ncap cap) h1 (by omega) (by omega) hel) k_J7_copyOf_1904c w_ml_Jx4a65c_66 w_st_J7_copyOf_1904c (by rw [hR]; exact ⟨Nat.le_of_ble_eq_true rfl, Nat.le_of_ble_eq_true rfl⟩) rfl rfl (Nat.le_of_ble_eq_true rfl) dJx4a65c_grow_92f84_37 rfl (by rw [hR]; exact ⟨Nat.le_of_ble_eq_true rfl, by show 0 + 0 + ncap cap ≤ ncap cap; omega⟩) ?_
  rintro _ _ ⟨b9, rfl, rfl⟩
  refine v_dup_x1 (pc' := 41) X dJx4a65c_grow_92f84_40 rfl rfl rfl ?_
  refine v_put (pc' := 44) (ty := .array (.object "java/lang/Object")) (v := .ref b9) X inJx4a65c tyJx4a65c tyJx4a65c_ok nmJx4a65c q0 (app_l h0) rfl 1 (by decide) w_fl_Jx4a65c_9 rfl rfl (by decide +kernel) rfl rfl (Nat.le_of_ble_eq_true rfl) dJx4a65c_grow_92f84_41 rfl ?_
  refine v_eqw (set_app h0) ?_
  refine v_areturn X R (Or.inr ⟨_, rfl⟩) (Or.inr ⟨_, rfl⟩) (Nat.le_of_ble_eq_true rfl) (by omega) dJx4a65c_grow_92f84_44 ?_
  exact ⟨b9, rfl, rfl⟩
/-- what a list's elements stand in: the shared empty row, or a row of the pool -/
def eRow (zz : Nat → Nat) (Y4 : ClassId) (ws : va_W) (b cap : Nat) (F : Nat → Option Nat) : Prop := (b = zz 32 ∧ cap = 0) ∨ (0 < cap ∧ ∃ q1 : Nat, ws[q1]? = some (b, aQ Y4 cap F))
theorem c_grow1 {l : Launch} {D : va_G} {Y : Nat → ClassId} {zz : Nat → Nat} {ws : va_W} {a b q0 cap : Nat} {mc sz : Int32} {F : Nat → Option Nat} (h0 : ws[q0]? = some (a, lQ mc b sz)) (hE : eRow zz (Y 4) ws b cap F) (hcap : cap < 2 ^ 20) (hel : eOK ws F cap) : Ct l D Y zz yJx4a65c_grow_92f84 cJx4a65c_grow_92f84 4 (some (FieldType.array (FieldType.object "java/lang/Object"))) 3 124 [.ref a, .int (nI (cap + 1))] ws 1 (ncap cap) (fun r w => ∃ b9, r = some (.ref b9) ∧ w = ws.set q0 (a, lQ mc b9 sz) ++ [(b9, aQ (Y 4) (ncap cap) (va_cpy F (fun _ => none) 0 0 cap))]) := by
  rcases hE with ⟨rfl, rfl⟩ | ⟨hc0, q1, h1⟩
  · rw [cpy0]
    exact c_growE h0 (by decide)
  · exact c_growG h0 h1 hc0 hcap hel
theorem c_grow0 {l : Launch} {D : va_G} {Y : Nat → ClassId} {zz : Nat → Nat} {ws : va_W} {a b q0 cap : Nat} {mc : Int32} {F : Nat → Option Nat} (h0 : ws[q0]? = some (a, lQ mc b (nI cap))) (hE : eRow zz (Y 4) ws b cap F) (hcap : cap < 2 ^ 20) (hel : eOK ws F cap) : Ct l D Y zz yJx4a65c_grow_d5877 cJx4a65c_grow_d5877 1 (some (FieldType.array (FieldType.object "java/lang/Object"))) 4 147 [.ref a] ws 1 (ncap cap) (fun r w => ∃ b9, r = some (.ref b9) ∧ w = ws.set q0 (a, lQ mc b9 (nI cap)) ++ [(b9, aQ (Y 4) (ncap cap) (va_cpy F (fun _ => none) 0 0 cap))]) := by
  refine v_entry (by decide +kernel) (Nat.le_of_ble_eq_true rfl) ?_
  intro K X R hR hnm hl hD hY hz
  subst hl hD hY hz
  refine v_sub (lv' := [(0, .ref a)]) [0] rfl ?_
  refine v_aload_n (pc' := 1) (i := 0) (j := 0) X dJx4a65c_grow_d5877_0 rfl rfl rfl ?_
  refine v_aload_n (pc' := 2) (i := 0) (j := 0) X dJx4a65c_grow_d5877_1 rfl rfl rfl ?_
  refine v_get (pc' := 5) X inJx4a65c q0 h0 rfl 2 (by decide) w_fl_Jx4a65c_48 rfl rfl dJx4a65c_grow_d5877_2 rfl ?_
  refine v_iconst (pc' := 6) (v := nI 1) X dJx4a65c_grow_d5877_5 (by decide) rfl ?_
  refine v_iaddV (pc' := 7) (v := nI (cap + 1)) X (nI_add cap 1) dJx4a65c_grow_d5877_6 rfl ?_
  refine v_callV (pc' := 10) X (st := []) (c_grow1 h0 hE hcap hel) k_Jx4a65c_grow_92f84 w_ml_Jx4a65c_69 w_im_Jx4a65c_grow_92f84 w_se_Jx4a65c_Jx4a65c_grow_92f84 ⟨q0, 0, _, _, h0, rfl, rfl⟩ (by rw [hR]; exact ⟨Nat.le_of_ble_eq_true rfl, Nat.le_of_ble_eq_true rfl⟩) rfl rfl (Nat.le_of_ble_eq_true rfl) dJx4a65c_grow_d5877_7 rfl (by rw [hR]; exact ⟨Nat.le_of_ble_eq_true rfl, by show 0 + ncap cap ≤ ncap cap; omega⟩) ?_
  rintro _ _ ⟨b9, rfl, rfl⟩
  refine v_areturn X R (Or.inr ⟨_, rfl⟩) (Or.inr ⟨_, rfl⟩) (Nat.le_of_ble_eq_true rfl) (by omega) dJx4a65c_grow_d5877_10 ?_
  exact ⟨b9, rfl, rfl⟩
theorem c_add3F {l : Launch} {D : va_G} {Y : Nat → ClassId} {zz : Nat → Nat} {ws : va_W} {a b x q0 q1 qx ci cap sz : Nat} {mc : Int32} {F : Nat → Option Nat} {vs : List Value} {r9 : vw_C} (h0 : ws[q0]? = some (a, lQ mc b (nI sz))) (h1 : ws[q1]? = some (b, aQ (Y 4) cap F)) (hsz : sz < cap) (hcap : cap < 2 ^ 20) (hx : ws[qx]? = some (x, .inr (ci, vs))) (hc : vwCl[ci]? = some r9) (hca : (r9.1, "java/lang/Object") ∈ vNC) : Ct l D Y zz yJx4a65c_add_72be8 cJx4a65c_add_72be8 4 none 5 167 [.ref a, .ref x, .ref b, .int (nI sz)] ws 0 0 (fun r w => r = none ∧ w = (ws.set q1 (b, aQ (Y 4) cap (va_up F sz (some x)))).set q0 (a, lQ mc b (nI (sz + 1)))) := by
  refine v_entry (by decide +kernel) (Nat.le_of_ble_eq_true rfl) ?_
  intro K X R hR hnm hl hD hY hz
  subst hl hD hY hz
  have hq : q0 ≠ q1 := fun z9 => by
    subst z9
    have h9 := Option.some.inj (h0.symm.trans h1)
    cases (Prod.mk.inj h9).2
  refine v_sub (lv' := [(0, .ref a), (1, .ref x), (2, .ref b), (3, .int (nI sz))]) [0, 1, 2, 3] rfl ?_
  refine v_iload_n (pc' := 1) (i := 3) (j := 3) X dJx4a65c_add_72be8_0 rfl rfl rfl ?_
  refine v_aload_n (pc' := 2) (i := 2) (j := 2) X dJx4a65c_add_72be8_1 rfl rfl rfl ?_
  refine v_alen (pc' := 3) (v := nI cap) X q1 4 h1 rfl rfl dJx4a65c_add_72be8_2 rfl ?_
  refine v_icmp_ne (pc' := 6) (tgt := 11) X dJx4a65c_add_72be8_3 (by decide) rfl (fun _ => ?_) (fun h9 => absurd (eq_of_nI h9 (by omega) (by omega)) (by omega))
  refine v_aload_n (pc' := 12) (i := 2) (j := 2) X dJx4a65c_add_72be8_11 rfl rfl rfl ?_
  refine v_iload_n (pc' := 13) (i := 3) (j := 3) X dJx4a65c_add_72be8_12 rfl rfl rfl ?_
  refine v_aload_n (pc' := 14) (i := 1) (j := 1) X dJx4a65c_add_72be8_13 rfl rfl rfl ?_
  refine v_aastO (pc' := 15) X q1 qx ci h1 hca hx hc sz rfl hsz (by omega) dJx4a65c_add_72be8_14 rfl ?_
  refine v_aload_n (pc' := 16) (i := 0) (j := 0) X dJx4a65c_add_72be8_15 rfl rfl rfl ?_
  refine v_iload_n (pc' := 17) (i := 3) (j := 3) X dJx4a65c_add_72be8_16 rfl rfl rfl ?_
  refine v_iconst (pc' := 18) (v := nI 1) X dJx4a65c_add_72be8_17 (by decide) rfl ?_
  refine v_iaddV (pc' := 19) (v := nI (sz + 1)) X (nI_add sz 1) dJx4a65c_add_72be8_18 rfl ?_
  refine v_put (pc' := 22) (ty := .int) (v := .int (nI (sz + 1))) X inJx4a65c tyJx4a65c tyJx4a65c_ok nmJx4a65c q0 (set_ne hq h0) rfl 2 (by decide) w_fl_Jx4a65c_48 rfl rfl (by decide +kernel) rfl rfl (Nat.le_of_ble_eq_true rfl) dJx4a65c_add_72be8_19 rfl ?_
  refine v_return X R (Nat.zero_le _) (Nat.zero_le _) dJx4a65c_add_72be8_22 ?_
  exact ⟨rfl, rfl⟩
theorem c_add3G {l : Launch} {D : va_G} {Y : Nat → ClassId} {zz : Nat → Nat} {ws : va_W} {a b x q0 qx ci cap : Nat} {mc : Int32} {F : Nat → Option Nat} {vs : List Value} {r9 : vw_C} (h0 : ws[q0]? = some (a, lQ mc b (nI cap))) (hE : eRow zz (Y 4) ws b cap F) (hcap : cap < 2 ^ 20) (hel : eOK ws F cap) (hxq : qx ≠ q0) (hx : ws[qx]? = some (x, .inr (ci, vs))) (hc : vwCl[ci]? = some r9) (hca : (r9.1, "java/lang/Object") ∈ vNC) : Ct l D Y zz yJx4a65c_add_72be8 cJx4a65c_add_72be8 4 none 5 167 [.ref a, .ref x, .ref b, .int (nI cap)] ws 1 (ncap cap) (fun r w => r = none ∧ ∃ b9, w = ws.set q0 (a, lQ mc b9 (nI (cap + 1))) ++ [(b9, aQ (Y 4) (ncap cap) (va_up (va_cpy F (fun _ => none) 0 0 cap) cap (some x)))]) := by
  refine v_entry (by decide +kernel) (Nat.le_of_ble_eq_true rfl) ?_
  intro K X R hR hnm hl hD hY hz
  subst hl hD hY hz
  have hnl := ncap_le cap
  refine v_sub (lv' := [(0, .ref a), (1, .ref x), (2, .ref b), (3, .int (nI cap))]) [0, 1, 2, 3] rfl ?_
  refine v_iload_n (pc' := 1) (i := 3) (j := 3) X dJx4a65c_add_72be8_0 rfl rfl rfl ?_
  refine v_aload_n (pc' := 2) (i := 2) (j := 2) X dJx4a65c_add_72be8_1 rfl rfl rfl ?_
  have hlen : V K 4 ws 0 0 3 [(0, .ref a), (1, .ref x), (2, .ref b), (3, .int (nI cap))] [.int (nI cap), .int (nI cap)] → V K 4 ws 0 0 2 [(0, .ref a), (1, .ref x), (2, .ref b), (3, .int (nI cap))] [.ref b, .int (nI cap)] := by
    intro k9
    rcases hE with ⟨rfl, rfl⟩ | ⟨hc0, q1, h1⟩
    · exact v_tlen (pc' := 3) (v := nI 0) X X.zDt rfl dJx4a65c_add_72be8_2 rfl k9
    · exact v_alen (pc' := 3) (v := nI cap) X q1 4 h1 rfl rfl dJx4a65c_add_72be8_2 rfl k9
  refine hlen ?_
  refine v_icmp_ne (pc' := 6) (tgt := 11) X dJx4a65c_add_72be8_3 (by decide) rfl (fun h9 => absurd rfl h9) (fun _ => ?_)
  refine v_aload_n (pc' := 7) (i := 0) (j := 0) X dJx4a65c_add_72be8_6 rfl rfl rfl ?_
  refine v_callV (pc' := 10) X (st := []) (c_grow0 h0 hE hcap hel) k_Jx4a65c_grow_d5877 w_ml_Jx4a65c_129 w_im_Jx4a65c_grow_d5877 w_se_Jx4a65c_Jx4a65c_grow_d5877 ⟨q0, 0, _, _, h0, rfl, rfl⟩ (by rw [hR]; exact ⟨Nat.le_of_ble_eq_true rfl, Nat.le_of_ble_eq_true rfl⟩) rfl rfl (Nat.le_of_ble_eq_true rfl) dJx4a65c_add_72be8_7 rfl (by rw [hR]; exact ⟨Nat.le_of_ble_eq_true rfl, by show 0 + ncap cap ≤ ncap cap; omega⟩) ?_
  rintro _ _ ⟨b9, rfl, rfl⟩
  refine v_astore_n (pc' := 11) (i := 2) (lv' := [(2, .ref b9), (0, .ref a), (1, .ref x), (3, .int (nI cap))]) X dJx4a65c_add_72be8_10 rfl (by decide) rfl rfl ?_
  refine v_aload_n (pc' := 12) (i := 2) (j := 0) X dJx4a65c_add_72be8_11 rfl rfl rfl ?_
  refine v_iload_n (pc' := 13) (i := 3) (j := 3) X dJx4a65c_add_72be8_12 rfl rfl rfl ?_
  refine v_aload_n (pc' := 14) (i := 1) (j := 2) X dJx4a65c_add_72be8_13 rfl rfl rfl ?_
  refine v_aastO (pc' := 15) X _ qx ci app_r hca (app_l (set_ne hxq hx)) hc cap rfl (by omega) (by omega) dJx4a65c_add_72be8_14 rfl ?_
  refine v_eqw set_end ?_
  refine v_aload_n (pc' := 16) (i := 0) (j := 1) X dJx4a65c_add_72be8_15 rfl rfl rfl ?_
  refine v_iload_n (pc' := 17) (i := 3) (j := 3) X dJx4a65c_add_72be8_16 rfl rfl rfl ?_
  refine v_iconst (pc' := 18) (v := nI 1) X dJx4a65c_add_72be8_17 (by decide) rfl ?_
  refine v_iaddV (pc' := 19) (v := nI (cap + 1)) X (nI_add cap 1) dJx4a65c_add_72be8_18 rfl ?_
  refine v_put (pc' := 22) (ty := .int) (v := .int (nI (cap + 1))) X inJx4a65c tyJx4a65c tyJx4a65c_ok nmJx4a65c q0 (app_l (set_at h0)) rfl 2 (by decide) w_fl_Jx4a65c_48 rfl rfl (by decide +kernel) rfl rfl (Nat.le_of_ble_eq_true rfl) dJx4a65c_add_72be8_19 rfl ?_
  refine v_eqw (set_app (set_at h0)) ?_
  refine v_return X R (Nat.le_of_ble_eq_true rfl) (by omega) dJx4a65c_add_72be8_22 ?_
  exact ⟨rfl, b9, by rw [List.set_set]; rfl⟩
theorem c_addF {l : Launch} {D : va_G} {Y : Nat → ClassId} {zz : Nat → Nat} {ws : va_W} {a b x q0 q1 qx ci cap sz : Nat} {mc : Int32} {F : Nat → Option Nat} {vs : List Value} {r9 : vw_C} (h0 : ws[q0]? = some (a, lQ mc b (nI sz))) (h1 : ws[q1]? = some (b, aQ (Y 4) cap F)) (hsz : sz < cap) (hcap : cap < 2 ^ 20) (hxq : qx ≠ q0) (hx : ws[qx]? = some (x, .inr (ci, vs))) (hc : vwCl[ci]? = some r9) (hca : (r9.1, "java/lang/Object") ∈ vNC) : Ct l D Y zz yJx4a65c_add_9ea2d cJx4a65c_add_9ea2d 2 (some FieldType.boolean) 6 190 [.ref a, .ref x] ws 0 0 (fun r w => r = some (.int 1) ∧ w = (ws.set q1 (b, aQ (Y 4) cap (va_up F sz (some x)))).set q0 (a, lQ (mc + 1) b (nI (sz + 1)))) := by
  refine v_entry (by decide +kernel) (Nat.le_of_ble_eq_true rfl) ?_
  intro K X R hR hnm hl hD hY hz
  subst hl hD hY hz
  have hq : q1 ≠ q0 := fun z9 => by
    subst z9
    have h9 := Option.some.inj (h0.symm.trans h1)
    cases (Prod.mk.inj h9).2
  refine v_sub (lv' := [(0, .ref a), (1, .ref x)]) [0, 1] rfl ?_
  refine v_aload_n (pc' := 1) (i := 0) (j := 0) X dJx4a65c_add_9ea2d_0 rfl rfl rfl ?_
  refine v_dup (pc' := 2) X dJx4a65c_add_9ea2d_1 rfl rfl ?_
  refine v_getSf (pc' := 5) X inJx4a65c q0 h0 rfl 0 (by decide) w_fl_Jx4a65c_63 w_sf_57 rfl dJx4a65c_add_9ea2d_2 rfl ?_
  refine v_iconst (pc' := 6) (v := 1) X dJx4a65c_add_9ea2d_5 (by decide) rfl ?_
  refine v_iadd (pc' := 7) X dJx4a65c_add_9ea2d_6 rfl ?_
  refine v_putSf (pc' := 10) (ty := .int) (v := .int (mc + 1)) X inJx4a65c tyJx4a65c tyJx4a65c_ok nmJx4a65c q0 h0 rfl 0 (by decide) w_fl_Jx4a65c_63 w_sf_57 rfl (by decide +kernel) rfl rfl (Nat.le_of_ble_eq_true rfl) dJx4a65c_add_9ea2d_7 rfl ?_
  have h0' : (ws.set q0 (a, lQ (mc + 1) b (nI sz)))[q0]? = some (a, lQ (mc + 1) b (nI sz)) := set_at h0
  refine v_eqw (ws' := ws.set q0 (a, lQ (mc + 1) b (nI sz))) rfl ?_
  refine v_aload_n (pc' := 11) (i := 0) (j := 0) X dJx4a65c_add_9ea2d_10 rfl rfl rfl ?_
  refine v_aload_n (pc' := 12) (i := 1) (j := 1) X dJx4a65c_add_9ea2d_11 rfl rfl rfl ?_
  refine v_aload_n (pc' := 13) (i := 0) (j := 0) X dJx4a65c_add_9ea2d_12 rfl rfl rfl ?_
  refine v_get (pc' := 16) X inJx4a65c q0 h0' rfl 1 (by decide) w_fl_Jx4a65c_9 rfl rfl dJx4a65c_add_9ea2d_13 rfl ?_
  refine v_aload_n (pc' := 17) (i := 0) (j := 0) X dJx4a65c_add_9ea2d_16 rfl rfl rfl ?_
  refine v_get (pc' := 20) X inJx4a65c q0 h0' rfl 2 (by decide) w_fl_Jx4a65c_48 rfl rfl dJx4a65c_add_9ea2d_17 rfl ?_
  refine v_callV (pc' := 23) X (st := []) (c_add3F h0' (set_ne hq h1) hsz hcap (set_ne hxq hx) hc hca) k_Jx4a65c_add_72be8 w_ml_Jx4a65c_131 w_im_Jx4a65c_add_72be8 w_se_Jx4a65c_Jx4a65c_add_72be8 ⟨q0, 0, _, _, h0', rfl, rfl⟩ (by rw [hR]; exact ⟨Nat.le_of_ble_eq_true rfl, Nat.le_of_ble_eq_true rfl⟩) rfl rfl (Nat.le_of_ble_eq_true rfl) dJx4a65c_add_9ea2d_20 rfl (⟨Nat.zero_le _, Nat.zero_le _⟩) ?_
  rintro _ _ ⟨rfl, rfl⟩
  refine v_iconst (pc' := 24) (v := 1) X dJx4a65c_add_9ea2d_23 (by decide) rfl ?_
  refine v_zreturn X R (by decide) (Nat.zero_le _) (Nat.zero_le _) dJx4a65c_add_9ea2d_24 ?_
  exact ⟨rfl, by rw [List.set_comm _ _ (fun z9 => hq z9.symm), List.set_set]⟩
theorem c_addG {l : Launch} {D : va_G} {Y : Nat → ClassId} {zz : Nat → Nat} {ws : va_W} {a b x q0 qx ci cap : Nat} {mc : Int32} {F : Nat → Option Nat} {vs : List Value} {r9 : vw_C} (h0 : ws[q0]? = some (a, lQ mc b (nI cap))) (hE : eRow zz (Y 4) ws b cap F) (hcap : cap < 2 ^ 20) (hel : eOK ws F cap) (hxq : qx ≠ q0) (hx : ws[qx]? = some (x, .inr (ci, vs))) (hc : vwCl[ci]? = some r9) (hca : (r9.1, "java/lang/Object") ∈ vNC) : Ct l D Y zz yJx4a65c_add_9ea2d cJx4a65c_add_9ea2d 2 (some FieldType.boolean) 6 190 [.ref a, .ref x] ws 1 (ncap cap) (fun r w => r = some (.int 1) ∧ ∃ b9, w = ws.set q0 (a, lQ (mc + 1) b9 (nI (cap + 1))) ++ [(b9, aQ (Y 4) (ncap cap) (va_up (va_cpy F (fun _ => none) 0 0 cap) cap (some x)))]) := by
  refine v_entry (by decide +kernel) (Nat.le_of_ble_eq_true rfl) ?_
  intro K X R hR hnm hl hD hY hz
  subst hl hD hY hz
  refine v_sub (lv' := [(0, .ref a), (1, .ref x)]) [0, 1] rfl ?_
  refine v_aload_n (pc' := 1) (i := 0) (j := 0) X dJx4a65c_add_9ea2d_0 rfl rfl rfl ?_
  refine v_dup (pc' := 2) X dJx4a65c_add_9ea2d_1 rfl rfl ?_
  refine v_getSf (pc' := 5) X inJx4a65c q0 h0 rfl 0 (by decide) w_fl_Jx4a65c_63 w_sf_57 rfl dJx4a65c_add_9ea2d_2 rfl ?_
  refine v_iconst (pc' := 6) (v := 1) X dJx4a65c_add_9ea2d_5 (by decide) rfl ?_
  refine v_iadd (pc' := 7) X dJx4a65c_add_9ea2d_6 rfl ?_
  refine v_putSf (pc' := 10) (ty := .int) (v := .int (mc + 1)) X inJx4a65c tyJx4a65c tyJx4a65c_ok nmJx4a65c q0 h0 rfl 0 (by decide) w_fl_Jx4a65c_63 w_sf_57 rfl (by decide +kernel) rfl rfl (Nat.le_of_ble_eq_true rfl) dJx4a65c_add_9ea2d_7 rfl ?_
  have h0' : (ws.set q0 (a, lQ (mc + 1) b (nI cap)))[q0]? = some (a, lQ (mc + 1) b (nI cap)) := set_at h0
  refine v_eqw (ws' := ws.set q0 (a, lQ (mc + 1) b (nI cap))) rfl ?_
  have hE' : eRow (kZ K) (kY K 4) (ws.set q0 (a, lQ (mc + 1) b (nI cap))) b cap F := by
    rcases hE with h9 | ⟨hc0, q1, h1⟩
    · exact Or.inl h9
    · refine Or.inr ⟨hc0, q1, set_ne (fun z9 => ?_) h1⟩
      subst z9
      have h9 := Option.some.inj (h0.symm.trans h1)
      cases (Prod.mk.inj h9).2
  have hel' : eOK (ws.set q0 (a, lQ (mc + 1) b (nI cap))) F cap := hel.set h0 (fun ci vs h9 => by cases h9; exact ⟨_, rfl⟩)
  refine v_aload_n (pc' := 11) (i := 0) (j := 0) X dJx4a65c_add_9ea2d_10 rfl rfl rfl ?_
  refine v_aload_n (pc' := 12) (i := 1) (j := 1) X dJx4a65c_add_9ea2d_11 rfl rfl rfl ?_
  refine v_aload_n (pc' := 13) (i := 0) (j := 0) X dJx4a65c_add_9ea2d_12 rfl rfl rfl ?_
  refine v_get (pc' := 16) X inJx4a65c q0 h0' rfl 1 (by decide) w_fl_Jx4a65c_9 rfl rfl dJx4a65c_add_9ea2d_13 rfl ?_
  refine v_aload_n (pc' := 17) (i := 0) (j := 0) X dJx4a65c_add_9ea2d_16 rfl rfl rfl ?_
  refine v_get (pc' := 20) X inJx4a65c q0 h0' rfl 2 (by decide) w_fl_Jx4a65c_48 rfl rfl dJx4a65c_add_9ea2d_17 rfl ?_
  refine v_callV (pc' := 23) X (st := []) (c_add3G h0' hE' hcap hel' hxq (set_ne hxq hx) hc hca) k_Jx4a65c_add_72be8 w_ml_Jx4a65c_131 w_im_Jx4a65c_add_72be8 w_se_Jx4a65c_Jx4a65c_add_72be8 ⟨q0, 0, _, _, h0', rfl, rfl⟩ (by rw [hR]; exact ⟨Nat.le_of_ble_eq_true rfl, Nat.le_of_ble_eq_true rfl⟩) rfl rfl (Nat.le_of_ble_eq_true rfl) dJx4a65c_add_9ea2d_20 rfl (by rw [hR]; exact ⟨Nat.le_of_ble_eq_true rfl, by show 0 + ncap cap ≤ ncap cap; omega⟩) ?_
  rintro _ _ ⟨rfl, b9, rfl⟩
  refine v_iconst (pc' := 24) (v := 1) X dJx4a65c_add_9ea2d_23 (by decide) rfl ?_
  refine v_zreturn X R (by decide) (Nat.le_of_ble_eq_true rfl) (by omega) dJx4a65c_add_9ea2d_24 ?_
  exact ⟨rfl, b9, by rw [List.set_set]⟩
