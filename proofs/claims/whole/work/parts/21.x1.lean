theorem zm_X1_forget_f7 : (Cond.fieldLink RX1 7 RX1 "empty" "Z" : Cond) ∈ wsX1_forget := by decide +kernel
theorem zin_X1_forget_X1 : ∀ w ∈ u_ws RX1 TX1 3, w ∈ wsX1_forget := by decide +kernel
set_option maxHeartbeats 4000000 in
set_option maxRecDepth 100000 in
theorem m_X1_forget (l : Launch) (E : kE) (a : Nat) (em : Bool) (le : Int64) (gr : Int64)  : kC l yX1_forget wsX1_forget ({ frames := 0, cells := 0, slots := 0, locals := 0 } : Room) E [.ref a] (wX1 E a em le gr) 0 0 (fun v_ w_ => v_ = none ∧ w_ = (wX1 E a true le gr)) := by
  refine kC.enter cX1_forget 1 none [(0, .ref a)] (by decide) rfl (Nat.le_of_ble_eq_true rfl) rfl ?_
  intro g F Rr
  refine k_aload_n F (pc := 0) 0 rfl dX1_forget_0 rfl ?_
  refine k_iconst F (pc := 1) ((nI 1)) dX1_forget_1 (by decide) ?_
  refine k_put F (pc := 2) (ref := RX1) (C := RX1) (T := TX1) (N := 3) (ci := 1) (ty := .boolean) (v := .int (bI true)) tyX1 0 0 (wX1 E a true le gr) dX1_forget_2 zin_X1_forget_X1 tyX1_ok nmX1 rfl rfl (by decide) zm_X1_forget_f7 rfl rfl (by decide +kernel) rfl rfl (Nat.le_of_ble_eq_true rfl) rfl ?_
  exact k_vret F Rr (pc := 5) dX1_forget_5 ⟨rfl, rfl⟩
theorem zm_X1_isEmpty_f7 : (Cond.fieldLink RX1 7 RX1 "empty" "Z" : Cond) ∈ wsX1_isEmpty := by decide +kernel
theorem zin_X1_isEmpty_X1 : ∀ w ∈ u_ws RX1 TX1 3, w ∈ wsX1_isEmpty := by decide +kernel
set_option maxHeartbeats 4000000 in
set_option maxRecDepth 100000 in
theorem m_X1_isEmpty (l : Launch) (E : kE) (a : Nat) (em : Bool) (le : Int64) (gr : Int64)  : kC l yX1_isEmpty wsX1_isEmpty ({ frames := 0, cells := 0, slots := 0, locals := 0 } : Room) E [.ref a] (wX1 E a em le gr) 0 0 (fun v_ w_ => v_ = some (.int (bI em)) ∧ w_ = (wX1 E a em le gr)) := by
  refine kC.enter cX1_isEmpty 1 (some .boolean) [(0, .ref a)] (by decide) rfl (Nat.le_of_ble_eq_true rfl) rfl ?_
  intro g F Rr
  refine k_aload_n F (pc := 0) 0 rfl dX1_isEmpty_0 rfl ?_
  refine k_get F (pc := 1) (ref := RX1) (C := RX1) (T := TX1) (N := 3) (ci := 1) 0 0 dX1_isEmpty_1 zin_X1_isEmpty_X1 rfl rfl (by decide) zm_X1_isEmpty_f7 rfl rfl ?_
  exact k_zret F Rr (pc := 4) em dX1_isEmpty_4 rfl ⟨rfl, rfl⟩
theorem zm_X1_take_f7 : (Cond.fieldLink RX1 7 RX1 "empty" "Z" : Cond) ∈ wsX1_take := by decide +kernel
theorem zin_X1_take_X1 : ∀ w ∈ u_ws RX1 TX1 3, w ∈ wsX1_take := by decide +kernel
theorem zm_X1_take_f13 : (Cond.fieldLink RX1 13 RX1 "least" "J" : Cond) ∈ wsX1_take := by decide +kernel
theorem zm_X1_take_f17 : (Cond.fieldLink RX1 17 RX1 "greatest" "J" : Cond) ∈ wsX1_take := by decide +kernel
set_option maxHeartbeats 4000000 in
set_option maxRecDepth 100000 in
theorem m_X1_take (l : Launch) (E : kE) (a : Nat) (em : Bool) (le : Int64) (gr : Int64) (r : Int64)  : kC l yX1_take wsX1_take ({ frames := 0, cells := 0, slots := 0, locals := 0 } : Room) E [.ref a, .long r] (wX1 E a em le gr) 0 0 (fun v_ w_ => ∃ (le1 : Int64) (gr1 : Int64), v_ = none ∧ w_ = (wX1 E a false le1 gr1) ∧ (∀ o, RRep em le gr o → RRep false le1 gr1 (tk r o))) := by
  refine kC.enter cX1_take 3 none [(0, .ref a), (1, .long r)] (by decide) rfl (Nat.le_of_ble_eq_true rfl) rfl ?_
  intro g F Rr
  refine k_aload_n F (pc := 0) 0 rfl dX1_take_0 rfl ?_
  refine k_get F (pc := 1) (ref := RX1) (C := RX1) (T := TX1) (N := 3) (ci := 1) 0 0 dX1_take_1 zin_X1_take_X1 rfl rfl (by decide) zm_X1_take_f7 rfl rfl ?_
  refine k_if_neB F (pc := 4) 16 dX1_take_4 (by decide) (fun c_1 => ?_) (fun c_1 => ?_)
  · skip
    refine k_aload_n F (pc := 16) 0 rfl dX1_take_16 rfl ?_
    refine k_lload_n F (pc := 17) 1 rfl dX1_take_17 rfl ?_
    refine k_put F (pc := 18) (ref := RX1) (C := RX1) (T := TX1) (N := 3) (ci := 1) (ty := .long) (v := .long r) tyX1 0 1 (wX1 E a em r gr) dX1_take_18 zin_X1_take_X1 tyX1_ok nmX1 rfl rfl (by decide) zm_X1_take_f13 rfl rfl (by decide +kernel) rfl rfl (Nat.le_of_ble_eq_true rfl) rfl ?_
    refine k_aload_n F (pc := 21) 0 rfl dX1_take_21 rfl ?_
    refine k_get F (pc := 22) (ref := RX1) (C := RX1) (T := TX1) (N := 3) (ci := 1) 0 0 dX1_take_22 zin_X1_take_X1 rfl rfl (by decide) zm_X1_take_f7 rfl rfl ?_
    refine k_if_neB F (pc := 25) 37 dX1_take_25 (by decide) (fun c_2 => ?_) (fun c_2 => ?_)
    · skip
      refine k_aload_n F (pc := 37) 0 rfl dX1_take_37 rfl ?_
      refine k_lload_n F (pc := 38) 1 rfl dX1_take_38 rfl ?_
      refine k_put F (pc := 39) (ref := RX1) (C := RX1) (T := TX1) (N := 3) (ci := 1) (ty := .long) (v := .long r) tyX1 0 2 (wX1 E a em r r) dX1_take_39 zin_X1_take_X1 tyX1_ok nmX1 rfl rfl (by decide) zm_X1_take_f17 rfl rfl (by decide +kernel) rfl rfl (Nat.le_of_ble_eq_true rfl) rfl ?_
      refine k_aload_n F (pc := 42) 0 rfl dX1_take_42 rfl ?_
      refine k_iconst F (pc := 43) ((nI 0)) dX1_take_43 (by decide) ?_
      refine k_put F (pc := 44) (ref := RX1) (C := RX1) (T := TX1) (N := 3) (ci := 1) (ty := .boolean) (v := .int (bI false)) tyX1 0 0 (wX1 E a false r r) dX1_take_44 zin_X1_take_X1 tyX1_ok nmX1 rfl rfl (by decide) zm_X1_take_f7 rfl rfl (by decide +kernel) rfl rfl (Nat.le_of_ble_eq_true rfl) rfl ?_
      refine k_vret F Rr (pc := 47) dX1_take_47 ⟨r, r, rfl, rfl, ?_⟩
      refine tk_rep ?_ ?_ <;> first | exact (if_pos (Or.inl (by assumption))).symm | exact (if_pos (Or.inr (by assumption))).symm | exact (if_neg (or_ff (by assumption) (by assumption))).symm
    · skip
      exact absurd (c_1.symm.trans c_2) (by decide)
  · skip
    refine k_lload_n F (pc := 7) 1 rfl dX1_take_7 rfl ?_
    refine k_aload_n F (pc := 8) 0 rfl dX1_take_8 rfl ?_
    refine k_get F (pc := 9) (ref := RX1) (C := RX1) (T := TX1) (N := 3) (ci := 1) 0 1 dX1_take_9 zin_X1_take_X1 rfl rfl (by decide) zm_X1_take_f13 rfl rfl ?_
    refine k_lcmp_ge F (pc := 12) 21 dX1_take_12 dX1_take_13 (by decide) (fun c_3 => ?_) (fun c_3 => ?_)
    · skip
      refine k_aload_n F (pc := 21) 0 rfl dX1_take_21 rfl ?_
      refine k_get F (pc := 22) (ref := RX1) (C := RX1) (T := TX1) (N := 3) (ci := 1) 0 0 dX1_take_22 zin_X1_take_X1 rfl rfl (by decide) zm_X1_take_f7 rfl rfl ?_
      refine k_if_neB F (pc := 25) 37 dX1_take_25 (by decide) (fun c_4 => ?_) (fun c_4 => ?_)
      · skip
        exact absurd (c_1.symm.trans c_4) (by decide)
      · skip
        refine k_lload_n F (pc := 28) 1 rfl dX1_take_28 rfl ?_
        refine k_aload_n F (pc := 29) 0 rfl dX1_take_29 rfl ?_
        refine k_get F (pc := 30) (ref := RX1) (C := RX1) (T := TX1) (N := 3) (ci := 1) 0 2 dX1_take_30 zin_X1_take_X1 rfl rfl (by decide) zm_X1_take_f17 rfl rfl ?_
        refine k_lcmp_le F (pc := 33) 42 dX1_take_33 dX1_take_34 (by decide) (fun c_5 => ?_) (fun c_5 => ?_)
        · skip
          refine k_aload_n F (pc := 42) 0 rfl dX1_take_42 rfl ?_
          refine k_iconst F (pc := 43) ((nI 0)) dX1_take_43 (by decide) ?_
          refine k_put F (pc := 44) (ref := RX1) (C := RX1) (T := TX1) (N := 3) (ci := 1) (ty := .boolean) (v := .int (bI false)) tyX1 0 0 (wX1 E a false le gr) dX1_take_44 zin_X1_take_X1 tyX1_ok nmX1 rfl rfl (by decide) zm_X1_take_f7 rfl rfl (by decide +kernel) rfl rfl (Nat.le_of_ble_eq_true rfl) rfl ?_
          refine k_vret F Rr (pc := 47) dX1_take_47 ⟨le, gr, rfl, rfl, ?_⟩
          refine tk_rep ?_ ?_ <;> first | exact (if_pos (Or.inl (by assumption))).symm | exact (if_pos (Or.inr (by assumption))).symm | exact (if_neg (or_ff (by assumption) (by assumption))).symm
        · skip
          refine k_aload_n F (pc := 37) 0 rfl dX1_take_37 rfl ?_
          refine k_lload_n F (pc := 38) 1 rfl dX1_take_38 rfl ?_
          refine k_put F (pc := 39) (ref := RX1) (C := RX1) (T := TX1) (N := 3) (ci := 1) (ty := .long) (v := .long r) tyX1 0 2 (wX1 E a em le r) dX1_take_39 zin_X1_take_X1 tyX1_ok nmX1 rfl rfl (by decide) zm_X1_take_f17 rfl rfl (by decide +kernel) rfl rfl (Nat.le_of_ble_eq_true rfl) rfl ?_
          refine k_aload_n F (pc := 42) 0 rfl dX1_take_42 rfl ?_
          refine k_iconst F (pc := 43) ((nI 0)) dX1_take_43 (by decide) ?_
          refine k_put F (pc := 44) (ref := RX1) (C := RX1) (T := TX1) (N := 3) (ci := 1) (ty := .boolean) (v := .int (bI false)) tyX1 0 0 (wX1 E a false le r) dX1_take_44 zin_X1_take_X1 tyX1_ok nmX1 rfl rfl (by decide) zm_X1_take_f7 rfl rfl (by decide +kernel) rfl rfl (Nat.le_of_ble_eq_true rfl) rfl ?_
          refine k_vret F Rr (pc := 47) dX1_take_47 ⟨le, r, rfl, rfl, ?_⟩
          refine tk_rep ?_ ?_ <;> first | exact (if_pos (Or.inl (by assumption))).symm | exact (if_pos (Or.inr (by assumption))).symm | exact (if_neg (or_ff (by assumption) (by assumption))).symm
    · skip
      refine k_aload_n F (pc := 16) 0 rfl dX1_take_16 rfl ?_
      refine k_lload_n F (pc := 17) 1 rfl dX1_take_17 rfl ?_
      refine k_put F (pc := 18) (ref := RX1) (C := RX1) (T := TX1) (N := 3) (ci := 1) (ty := .long) (v := .long r) tyX1 0 1 (wX1 E a em r gr) dX1_take_18 zin_X1_take_X1 tyX1_ok nmX1 rfl rfl (by decide) zm_X1_take_f13 rfl rfl (by decide +kernel) rfl rfl (Nat.le_of_ble_eq_true rfl) rfl ?_
      refine k_aload_n F (pc := 21) 0 rfl dX1_take_21 rfl ?_
      refine k_get F (pc := 22) (ref := RX1) (C := RX1) (T := TX1) (N := 3) (ci := 1) 0 0 dX1_take_22 zin_X1_take_X1 rfl rfl (by decide) zm_X1_take_f7 rfl rfl ?_
      refine k_if_neB F (pc := 25) 37 dX1_take_25 (by decide) (fun c_6 => ?_) (fun c_6 => ?_)
      · skip
        exact absurd (c_1.symm.trans c_6) (by decide)
      · skip
        refine k_lload_n F (pc := 28) 1 rfl dX1_take_28 rfl ?_
        refine k_aload_n F (pc := 29) 0 rfl dX1_take_29 rfl ?_
        refine k_get F (pc := 30) (ref := RX1) (C := RX1) (T := TX1) (N := 3) (ci := 1) 0 2 dX1_take_30 zin_X1_take_X1 rfl rfl (by decide) zm_X1_take_f17 rfl rfl ?_
        refine k_lcmp_le F (pc := 33) 42 dX1_take_33 dX1_take_34 (by decide) (fun c_7 => ?_) (fun c_7 => ?_)
        · skip
          refine k_aload_n F (pc := 42) 0 rfl dX1_take_42 rfl ?_
          refine k_iconst F (pc := 43) ((nI 0)) dX1_take_43 (by decide) ?_
          refine k_put F (pc := 44) (ref := RX1) (C := RX1) (T := TX1) (N := 3) (ci := 1) (ty := .boolean) (v := .int (bI false)) tyX1 0 0 (wX1 E a false r gr) dX1_take_44 zin_X1_take_X1 tyX1_ok nmX1 rfl rfl (by decide) zm_X1_take_f7 rfl rfl (by decide +kernel) rfl rfl (Nat.le_of_ble_eq_true rfl) rfl ?_
          refine k_vret F Rr (pc := 47) dX1_take_47 ⟨r, gr, rfl, rfl, ?_⟩
          refine tk_rep ?_ ?_ <;> first | exact (if_pos (Or.inl (by assumption))).symm | exact (if_pos (Or.inr (by assumption))).symm | exact (if_neg (or_ff (by assumption) (by assumption))).symm
        · skip
          refine k_aload_n F (pc := 37) 0 rfl dX1_take_37 rfl ?_
          refine k_lload_n F (pc := 38) 1 rfl dX1_take_38 rfl ?_
          refine k_put F (pc := 39) (ref := RX1) (C := RX1) (T := TX1) (N := 3) (ci := 1) (ty := .long) (v := .long r) tyX1 0 2 (wX1 E a em r r) dX1_take_39 zin_X1_take_X1 tyX1_ok nmX1 rfl rfl (by decide) zm_X1_take_f17 rfl rfl (by decide +kernel) rfl rfl (Nat.le_of_ble_eq_true rfl) rfl ?_
          refine k_aload_n F (pc := 42) 0 rfl dX1_take_42 rfl ?_
          refine k_iconst F (pc := 43) ((nI 0)) dX1_take_43 (by decide) ?_
          refine k_put F (pc := 44) (ref := RX1) (C := RX1) (T := TX1) (N := 3) (ci := 1) (ty := .boolean) (v := .int (bI false)) tyX1 0 0 (wX1 E a false r r) dX1_take_44 zin_X1_take_X1 tyX1_ok nmX1 rfl rfl (by decide) zm_X1_take_f7 rfl rfl (by decide +kernel) rfl rfl (Nat.le_of_ble_eq_true rfl) rfl ?_
          refine k_vret F Rr (pc := 47) dX1_take_47 ⟨r, r, rfl, rfl, ?_⟩
          refine tk_rep ?_ ?_ <;> first | exact (if_pos (Or.inl (by assumption))).symm | exact (if_pos (Or.inr (by assumption))).symm | exact (if_neg (or_ff (by assumption) (by assumption))).symm
theorem zm_X1_wrappedLeast_f13 : (Cond.fieldLink RX1 13 RX1 "least" "J" : Cond) ∈ wsX1_wrappedLeast := by decide +kernel
theorem zin_X1_wrappedLeast_X1 : ∀ w ∈ u_ws RX1 TX1 3, w ∈ wsX1_wrappedLeast := by decide +kernel
set_option maxHeartbeats 4000000 in
set_option maxRecDepth 100000 in
theorem m_X1_wrappedLeast (l : Launch) (E : kE) (a : Nat) (em : Bool) (le : Int64) (gr : Int64)  : kC l yX1_wrappedLeast wsX1_wrappedLeast ({ frames := 0, cells := 0, slots := 0, locals := 0 } : Room) E [.ref a] (wX1 E a em le gr) 0 0 (fun v_ w_ => v_ = some (.long le.toInt32.toInt64) ∧ w_ = (wX1 E a em le gr)) := by
  refine kC.enter cX1_wrappedLeast 1 (some .long) [(0, .ref a)] (by decide) rfl (Nat.le_of_ble_eq_true rfl) rfl ?_
  intro g F Rr
  refine k_aload_n F (pc := 0) 0 rfl dX1_wrappedLeast_0 rfl ?_
  refine k_get F (pc := 1) (ref := RX1) (C := RX1) (T := TX1) (N := 3) (ci := 1) 0 1 dX1_wrappedLeast_1 zin_X1_wrappedLeast_X1 rfl rfl (by decide) zm_X1_wrappedLeast_f13 rfl rfl ?_
  refine k_l2i F (pc := 4) (le.toInt32) dX1_wrappedLeast_4 rfl ?_
  refine k_i2l F (pc := 5) (le.toInt32.toInt64) dX1_wrappedLeast_5 rfl ?_
  exact k_lret F Rr (pc := 6) dX1_wrappedLeast_6 ⟨rfl, rfl⟩
theorem zm_X1_wrappedGreatest_f17 : (Cond.fieldLink RX1 17 RX1 "greatest" "J" : Cond) ∈ wsX1_wrappedGreatest := by decide +kernel
theorem zin_X1_wrappedGreatest_X1 : ∀ w ∈ u_ws RX1 TX1 3, w ∈ wsX1_wrappedGreatest := by decide +kernel
set_option maxHeartbeats 4000000 in
set_option maxRecDepth 100000 in
theorem m_X1_wrappedGreatest (l : Launch) (E : kE) (a : Nat) (em : Bool) (le : Int64) (gr : Int64)  : kC l yX1_wrappedGreatest wsX1_wrappedGreatest ({ frames := 0, cells := 0, slots := 0, locals := 0 } : Room) E [.ref a] (wX1 E a em le gr) 0 0 (fun v_ w_ => v_ = some (.long gr.toInt32.toInt64) ∧ w_ = (wX1 E a em le gr)) := by
  refine kC.enter cX1_wrappedGreatest 1 (some .long) [(0, .ref a)] (by decide) rfl (Nat.le_of_ble_eq_true rfl) rfl ?_
  intro g F Rr
  refine k_aload_n F (pc := 0) 0 rfl dX1_wrappedGreatest_0 rfl ?_
  refine k_get F (pc := 1) (ref := RX1) (C := RX1) (T := TX1) (N := 3) (ci := 1) 0 2 dX1_wrappedGreatest_1 zin_X1_wrappedGreatest_X1 rfl rfl (by decide) zm_X1_wrappedGreatest_f17 rfl rfl ?_
  refine k_l2i F (pc := 4) (gr.toInt32) dX1_wrappedGreatest_4 rfl ?_
  refine k_i2l F (pc := 5) (gr.toInt32.toInt64) dX1_wrappedGreatest_5 rfl ?_
  exact k_lret F Rr (pc := 6) dX1_wrappedGreatest_6 ⟨rfl, rfl⟩
theorem zm_X1_wrapTogether_f13 : (Cond.fieldLink RX1 13 RX1 "least" "J" : Cond) ∈ wsX1_wrapTogether := by decide +kernel
theorem zin_X1_wrapTogether_X1 : ∀ w ∈ u_ws RX1 TX1 3, w ∈ wsX1_wrapTogether := by decide +kernel
theorem zm_X1_wrapTogether_f17 : (Cond.fieldLink RX1 17 RX1 "greatest" "J" : Cond) ∈ wsX1_wrapTogether := by decide +kernel
set_option maxHeartbeats 4000000 in
set_option maxRecDepth 100000 in
theorem m_X1_wrapTogether (l : Launch) (E : kE) (a : Nat) (em : Bool) (le : Int64) (gr : Int64)  : kC l yX1_wrapTogether wsX1_wrapTogether ({ frames := 1, cells := 0, slots := 0, locals := 20 } : Room) E [.ref a] (wX1 E a em le gr) 0 0 (fun v_ w_ => ∃ (r : Bool), v_ = some (.int (bI r)) ∧ w_ = (wX1 E a em le gr) ∧ (r = true ↔ le - le.toInt32.toInt64 = gr - gr.toInt32.toInt64)) := by
  refine kC.enter cX1_wrapTogether 1 (some .boolean) [(0, .ref a)] (by decide) rfl (Nat.le_of_ble_eq_true rfl) rfl ?_
  intro g F Rr
  refine k_aload_n F (pc := 0) 0 rfl dX1_wrapTogether_0 rfl ?_
  refine k_get F (pc := 1) (ref := RX1) (C := RX1) (T := TX1) (N := 3) (ci := 1) 0 1 dX1_wrapTogether_1 zin_X1_wrapTogether_X1 rfl rfl (by decide) zm_X1_wrapTogether_f13 rfl rfl ?_
  refine k_aload_n F (pc := 4) 0 rfl dX1_wrapTogether_4 rfl ?_
  refine k_callV F (pc := 5) (C := RX1) (T := TX1) (N := 3) (ci := 1) [] [.long le] 0 (wX1 E a em le gr) [] [0] [] (m_X1_wrappedLeast l E a em le gr) dX1_wrapTogether_5 gX1_wrapTogether_X1_wrappedLeast rfl (by decide +kernel) rfl ⟨rfl, rfl⟩ (by decide) rfl (Nat.le_of_ble_eq_true rfl) (by decide) rfl rfl rfl rfl (by decide) (by decide) (by decide) ?_
  rintro v_1 w_2 ⟨rfl, rfl⟩
  refine k_perm (wX1 E a em le gr) [0] (by decide) rfl ?_
  show kK g (wX1 E a em le gr) [(0, .ref a)] 0 0 8 [.long le.toInt32.toInt64, .long le]
  refine k_lsub F (pc := 8) dX1_wrapTogether_8 ?_
  refine k_aload_n F (pc := 9) 0 rfl dX1_wrapTogether_9 rfl ?_
  refine k_get F (pc := 10) (ref := RX1) (C := RX1) (T := TX1) (N := 3) (ci := 1) 0 2 dX1_wrapTogether_10 zin_X1_wrapTogether_X1 rfl rfl (by decide) zm_X1_wrapTogether_f17 rfl rfl ?_
  refine k_aload_n F (pc := 13) 0 rfl dX1_wrapTogether_13 rfl ?_
  refine k_callV F (pc := 14) (C := RX1) (T := TX1) (N := 3) (ci := 1) [] [.long gr, .long (le - le.toInt32.toInt64)] 0 (wX1 E a em le gr) [] [0] [] (m_X1_wrappedGreatest l E a em le gr) dX1_wrapTogether_14 gX1_wrapTogether_X1_wrappedGreatest rfl (by decide +kernel) rfl ⟨rfl, rfl⟩ (by decide) rfl (Nat.le_of_ble_eq_true rfl) (by decide) rfl rfl rfl rfl (by decide) (by decide) (by decide) ?_
  rintro v_3 w_4 ⟨rfl, rfl⟩
  refine k_perm (wX1 E a em le gr) [0] (by decide) rfl ?_
  show kK g (wX1 E a em le gr) [(0, .ref a)] 0 0 17 [.long gr.toInt32.toInt64, .long gr, .long (le - le.toInt32.toInt64)]
  refine k_lsub F (pc := 17) dX1_wrapTogether_17 ?_
  refine k_lcmp_ne F (pc := 18) 26 dX1_wrapTogether_18 dX1_wrapTogether_19 (by decide) (fun c_5 => ?_) (fun c_5 => ?_)
  · skip
    refine k_iconst F (pc := 26) ((nI 0)) dX1_wrapTogether_26 (by decide) ?_
    refine k_zret F Rr (pc := 27) false dX1_wrapTogether_27 rfl ⟨false, rfl, rfl, ?_⟩
    simp_all
  · skip
    refine k_iconst F (pc := 22) ((nI 1)) dX1_wrapTogether_22 (by decide) ?_
    refine k_goto F (pc := 23) 27 dX1_wrapTogether_23 (by decide) ?_
    refine k_zret F Rr (pc := 27) true dX1_wrapTogether_27 rfl ⟨true, rfl, rfl, ?_⟩
    simp_all
