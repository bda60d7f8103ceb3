theorem zm_X0_start_f9 : (Cond.fieldLink RX0 9 RX0 "something" "Z" : Cond) ∈ wsX0_start := by decide +kernel
theorem zin_X0_start_X0 : ∀ w ∈ u_ws RX0 TX0 3, w ∈ wsX0_start := by decide +kernel
set_option maxHeartbeats 4000000 in
set_option maxRecDepth 100000 in
theorem m_X0_start (l : Launch) (E : kE) (a : Nat) (b : Nat) (c : Nat) (fs : Bool) (lf : Nat → Int64) (hf : Nat → Int64)  : kC l yX0_start wsX0_start ({ frames := 0, cells := 0, slots := 0, locals := 0 } : Room) E [.ref a] (wX0 E a b c fs lf hf) 0 0 (fun v_ w_ => v_ = none ∧ w_ = (wX0 E a b c true lf hf)) := by
  refine kC.enter cX0_start 1 none [(0, .ref a)] (by decide) rfl (Nat.le_of_ble_eq_true rfl) rfl ?_
  intro g F Rr
  refine k_aload_n F (pc := 0) 0 rfl dX0_start_0 rfl ?_
  refine k_iconst F (pc := 1) ((nI 1)) dX0_start_1 (by decide) ?_
  refine k_put F (pc := 2) (ref := RX0) (C := RX0) (T := TX0) (N := 3) (ci := 0) (ty := .boolean) (v := .int (bI true)) tyX0 0 0 (wX0 E a b c true lf hf) dX0_start_2 zin_X0_start_X0 tyX0_ok nmX0 rfl rfl (by decide) zm_X0_start_f9 rfl rfl (by decide +kernel) rfl rfl (Nat.le_of_ble_eq_true rfl) rfl ?_
  exact k_vret F Rr (pc := 5) dX0_start_5 ⟨rfl, rfl⟩
theorem zm_X0_stop_f9 : (Cond.fieldLink RX0 9 RX0 "something" "Z" : Cond) ∈ wsX0_stop := by decide +kernel
theorem zin_X0_stop_X0 : ∀ w ∈ u_ws RX0 TX0 3, w ∈ wsX0_stop := by decide +kernel
set_option maxHeartbeats 4000000 in
set_option maxRecDepth 100000 in
theorem m_X0_stop (l : Launch) (E : kE) (a : Nat) (b : Nat) (c : Nat) (fs : Bool) (lf : Nat → Int64) (hf : Nat → Int64)  : kC l yX0_stop wsX0_stop ({ frames := 0, cells := 0, slots := 0, locals := 0 } : Room) E [.ref a] (wX0 E a b c fs lf hf) 0 0 (fun v_ w_ => v_ = none ∧ w_ = (wX0 E a b c false lf hf)) := by
  refine kC.enter cX0_stop 1 none [(0, .ref a)] (by decide) rfl (Nat.le_of_ble_eq_true rfl) rfl ?_
  intro g F Rr
  refine k_aload_n F (pc := 0) 0 rfl dX0_stop_0 rfl ?_
  refine k_iconst F (pc := 1) ((nI 0)) dX0_stop_1 (by decide) ?_
  refine k_put F (pc := 2) (ref := RX0) (C := RX0) (T := TX0) (N := 3) (ci := 0) (ty := .boolean) (v := .int (bI false)) tyX0 0 0 (wX0 E a b c false lf hf) dX0_stop_2 zin_X0_stop_X0 tyX0_ok nmX0 rfl rfl (by decide) zm_X0_stop_f9 rfl rfl (by decide +kernel) rfl rfl (Nat.le_of_ble_eq_true rfl) rfl ?_
  exact k_vret F Rr (pc := 5) dX0_stop_5 ⟨rfl, rfl⟩
theorem zm_X0_isSomething_f9 : (Cond.fieldLink RX0 9 RX0 "something" "Z" : Cond) ∈ wsX0_isSomething := by decide +kernel
theorem zin_X0_isSomething_X0 : ∀ w ∈ u_ws RX0 TX0 3, w ∈ wsX0_isSomething := by decide +kernel
set_option maxHeartbeats 4000000 in
set_option maxRecDepth 100000 in
theorem m_X0_isSomething (l : Launch) (E : kE) (a : Nat) (b : Nat) (c : Nat) (fs : Bool) (lf : Nat → Int64) (hf : Nat → Int64)  : kC l yX0_isSomething wsX0_isSomething ({ frames := 0, cells := 0, slots := 0, locals := 0 } : Room) E [.ref a] (wX0 E a b c fs lf hf) 0 0 (fun v_ w_ => v_ = some (.int (bI fs)) ∧ w_ = (wX0 E a b c fs lf hf)) := by
  refine kC.enter cX0_isSomething 1 (some .boolean) [(0, .ref a)] (by decide) rfl (Nat.le_of_ble_eq_true rfl) rfl ?_
  intro g F Rr
  refine k_aload_n F (pc := 0) 0 rfl dX0_isSomething_0 rfl ?_
  refine k_get F (pc := 1) (ref := RX0) (C := RX0) (T := TX0) (N := 3) (ci := 0) 0 0 dX0_isSomething_1 zin_X0_isSomething_X0 rfl rfl (by decide) zm_X0_isSomething_f9 rfl rfl ?_
  exact k_zret F Rr (pc := 4) fs dX0_isSomething_4 rfl ⟨rfl, rfl⟩
theorem zm_X0_lowOf_f15 : (Cond.fieldLink RX0 15 RX0 "lows" "[J" : Cond) ∈ wsX0_lowOf := by decide +kernel
theorem zin_X0_lowOf_X0 : ∀ w ∈ u_ws RX0 TX0 3, w ∈ wsX0_lowOf := by decide +kernel
set_option maxHeartbeats 4000000 in
set_option maxRecDepth 100000 in
theorem m_X0_lowOf (l : Launch) (E : kE) (a : Nat) (b : Nat) (c : Nat) (fs : Bool) (lf : Nat → Int64) (hf : Nat → Int64) (v : Nat) (hv : v < 4) : kC l yX0_lowOf wsX0_lowOf ({ frames := 0, cells := 0, slots := 0, locals := 0 } : Room) E [.ref a, .int (nI v)] (wX0 E a b c fs lf hf) 0 0 (fun v_ w_ => v_ = some (.long (lf v)) ∧ w_ = (wX0 E a b c fs lf hf)) := by
  refine kC.enter cX0_lowOf 2 (some .long) [(0, .ref a), (1, .int (nI v))] (by decide) rfl (Nat.le_of_ble_eq_true rfl) rfl ?_
  intro g F Rr
  refine k_aload_n F (pc := 0) 0 rfl dX0_lowOf_0 rfl ?_
  refine k_get F (pc := 1) (ref := RX0) (C := RX0) (T := TX0) (N := 3) (ci := 0) 0 1 dX0_lowOf_1 zin_X0_lowOf_X0 rfl rfl (by decide) zm_X0_lowOf_f15 rfl rfl ?_
  refine k_iload_n F (pc := 4) 1 rfl dX0_lowOf_4 rfl ?_
  refine k_lald F (pc := 5) 1 dX0_lowOf_5 rfl (by omega) (by decide) ?_
  exact k_lret F Rr (pc := 6) dX0_lowOf_6 ⟨rfl, rfl⟩
theorem zm_X0_highOf_f19 : (Cond.fieldLink RX0 19 RX0 "highs" "[J" : Cond) ∈ wsX0_highOf := by decide +kernel
theorem zin_X0_highOf_X0 : ∀ w ∈ u_ws RX0 TX0 3, w ∈ wsX0_highOf := by decide +kernel
set_option maxHeartbeats 4000000 in
set_option maxRecDepth 100000 in
theorem m_X0_highOf (l : Launch) (E : kE) (a : Nat) (b : Nat) (c : Nat) (fs : Bool) (lf : Nat → Int64) (hf : Nat → Int64) (v : Nat) (hv : v < 4) : kC l yX0_highOf wsX0_highOf ({ frames := 0, cells := 0, slots := 0, locals := 0 } : Room) E [.ref a, .int (nI v)] (wX0 E a b c fs lf hf) 0 0 (fun v_ w_ => v_ = some (.long (hf v)) ∧ w_ = (wX0 E a b c fs lf hf)) := by
  refine kC.enter cX0_highOf 2 (some .long) [(0, .ref a), (1, .int (nI v))] (by decide) rfl (Nat.le_of_ble_eq_true rfl) rfl ?_
  intro g F Rr
  refine k_aload_n F (pc := 0) 0 rfl dX0_highOf_0 rfl ?_
  refine k_get F (pc := 1) (ref := RX0) (C := RX0) (T := TX0) (N := 3) (ci := 0) 0 2 dX0_highOf_1 zin_X0_highOf_X0 rfl rfl (by decide) zm_X0_highOf_f19 rfl rfl ?_
  refine k_iload_n F (pc := 4) 1 rfl dX0_highOf_4 rfl ?_
  refine k_lald F (pc := 5) 2 dX0_highOf_5 rfl (by omega) (by decide) ?_
  exact k_lret F Rr (pc := 6) dX0_highOf_6 ⟨rfl, rfl⟩
theorem zm_X0_put_f15 : (Cond.fieldLink RX0 15 RX0 "lows" "[J" : Cond) ∈ wsX0_put := by decide +kernel
theorem zin_X0_put_X0 : ∀ w ∈ u_ws RX0 TX0 3, w ∈ wsX0_put := by decide +kernel
theorem zm_X0_put_f19 : (Cond.fieldLink RX0 19 RX0 "highs" "[J" : Cond) ∈ wsX0_put := by decide +kernel
set_option maxHeartbeats 4000000 in
set_option maxRecDepth 100000 in
theorem m_X0_put (l : Launch) (E : kE) (a : Nat) (b : Nat) (c : Nat) (fs : Bool) (lf : Nat → Int64) (hf : Nat → Int64) (v : Nat) (x : Int64) (y : Int64) (hv : v < 4) : kC l yX0_put wsX0_put ({ frames := 0, cells := 0, slots := 0, locals := 0 } : Room) E [.ref a, .int (nI v), .long x, .long y] (wX0 E a b c fs lf hf) 0 0 (fun v_ w_ => v_ = none ∧ w_ = (wX0 E a b c fs (vp_updL lf v x) (vp_updL hf v y))) := by
  refine kC.enter cX0_put 6 none [(0, .ref a), (1, .int (nI v)), (2, .long x), (4, .long y)] (by decide) rfl (Nat.le_of_ble_eq_true rfl) rfl ?_
  intro g F Rr
  refine k_aload_n F (pc := 0) 0 rfl dX0_put_0 rfl ?_
  refine k_get F (pc := 1) (ref := RX0) (C := RX0) (T := TX0) (N := 3) (ci := 0) 0 1 dX0_put_1 zin_X0_put_X0 rfl rfl (by decide) zm_X0_put_f15 rfl rfl ?_
  refine k_iload_n F (pc := 4) 1 rfl dX0_put_4 rfl ?_
  refine k_lload_n F (pc := 5) 2 rfl dX0_put_5 rfl ?_
  refine k_last F (pc := 6) 1 (fun lf_1 => (wX0 E a b c fs lf_1 hf)) dX0_put_6 rfl (by omega) (by decide) (fun _ => rfl) (fun lf_1 elf_1 => ?_)
  refine k_aload_n F (pc := 7) 0 rfl dX0_put_7 rfl ?_
  refine k_get F (pc := 8) (ref := RX0) (C := RX0) (T := TX0) (N := 3) (ci := 0) 0 2 dX0_put_8 zin_X0_put_X0 rfl rfl (by decide) zm_X0_put_f19 rfl rfl ?_
  refine k_iload_n F (pc := 11) 1 rfl dX0_put_11 rfl ?_
  refine k_lload F (pc := 12) 3 rfl dX0_put_12 ?_
  refine k_last F (pc := 14) 2 (fun hf_2 => (wX0 E a b c fs lf_1 hf_2)) dX0_put_14 rfl (by omega) (by decide) (fun _ => rfl) (fun hf_2 ehf_2 => ?_)
  subst ehf_2
  subst elf_1
  exact k_vret F Rr (pc := 15) dX0_put_15 ⟨rfl, rfl⟩
theorem zm_X0_stopIfCrossed_f15 : (Cond.fieldLink RX0 15 RX0 "lows" "[J" : Cond) ∈ wsX0_stopIfCrossed := by decide +kernel
theorem zin_X0_stopIfCrossed_X0 : ∀ w ∈ u_ws RX0 TX0 3, w ∈ wsX0_stopIfCrossed := by decide +kernel
theorem zm_X0_stopIfCrossed_f19 : (Cond.fieldLink RX0 19 RX0 "highs" "[J" : Cond) ∈ wsX0_stopIfCrossed := by decide +kernel
theorem zm_X0_stopIfCrossed_f9 : (Cond.fieldLink RX0 9 RX0 "something" "Z" : Cond) ∈ wsX0_stopIfCrossed := by decide +kernel
set_option maxHeartbeats 4000000 in
set_option maxRecDepth 100000 in
theorem m_X0_stopIfCrossed (l : Launch) (E : kE) (a : Nat) (b : Nat) (c : Nat) (fs : Bool) (lf : Nat → Int64) (hf : Nat → Int64) (v : Nat) (hv : v < 4) : kC l yX0_stopIfCrossed wsX0_stopIfCrossed ({ frames := 0, cells := 0, slots := 0, locals := 0 } : Room) E [.ref a, .int (nI v)] (wX0 E a b c fs lf hf) 0 0 (fun v_ w_ => ∃ (fs1 : Bool), v_ = none ∧ w_ = (wX0 E a b c fs1 lf hf) ∧ (fs1 = true ↔ fs = true ∧ ¬ hf v < lf v)) := by
  refine kC.enter cX0_stopIfCrossed 2 none [(0, .ref a), (1, .int (nI v))] (by decide) rfl (Nat.le_of_ble_eq_true rfl) rfl ?_
  intro g F Rr
  refine k_aload_n F (pc := 0) 0 rfl dX0_stopIfCrossed_0 rfl ?_
  refine k_get F (pc := 1) (ref := RX0) (C := RX0) (T := TX0) (N := 3) (ci := 0) 0 1 dX0_stopIfCrossed_1 zin_X0_stopIfCrossed_X0 rfl rfl (by decide) zm_X0_stopIfCrossed_f15 rfl rfl ?_
  refine k_iload_n F (pc := 4) 1 rfl dX0_stopIfCrossed_4 rfl ?_
  refine k_lald F (pc := 5) 1 dX0_stopIfCrossed_5 rfl (by omega) (by decide) ?_
  refine k_aload_n F (pc := 6) 0 rfl dX0_stopIfCrossed_6 rfl ?_
  refine k_get F (pc := 7) (ref := RX0) (C := RX0) (T := TX0) (N := 3) (ci := 0) 0 2 dX0_stopIfCrossed_7 zin_X0_stopIfCrossed_X0 rfl rfl (by decide) zm_X0_stopIfCrossed_f19 rfl rfl ?_
  refine k_iload_n F (pc := 10) 1 rfl dX0_stopIfCrossed_10 rfl ?_
  refine k_lald F (pc := 11) 2 dX0_stopIfCrossed_11 rfl (by omega) (by decide) ?_
  refine k_lcmp_le F (pc := 12) 21 dX0_stopIfCrossed_12 dX0_stopIfCrossed_13 (by decide) (fun c_1 => ?_) (fun c_1 => ?_)
  · skip
    refine k_vret F Rr (pc := 21) dX0_stopIfCrossed_21 ⟨fs, rfl, rfl, ?_⟩
    simp_all
  · skip
    refine k_aload_n F (pc := 16) 0 rfl dX0_stopIfCrossed_16 rfl ?_
    refine k_iconst F (pc := 17) ((nI 0)) dX0_stopIfCrossed_17 (by decide) ?_
    refine k_put F (pc := 18) (ref := RX0) (C := RX0) (T := TX0) (N := 3) (ci := 0) (ty := .boolean) (v := .int (bI false)) tyX0 0 0 (wX0 E a b c false lf hf) dX0_stopIfCrossed_18 zin_X0_stopIfCrossed_X0 tyX0_ok nmX0 rfl rfl (by decide) zm_X0_stopIfCrossed_f9 rfl rfl (by decide +kernel) rfl rfl (Nat.le_of_ble_eq_true rfl) rfl ?_
    refine k_vret F Rr (pc := 21) dX0_stopIfCrossed_21 ⟨false, rfl, rfl, ?_⟩
    simp_all
theorem zm_X0_raiseLow_f15 : (Cond.fieldLink RX0 15 RX0 "lows" "[J" : Cond) ∈ wsX0_raiseLow := by decide +kernel
theorem zin_X0_raiseLow_X0 : ∀ w ∈ u_ws RX0 TX0 3, w ∈ wsX0_raiseLow := by decide +kernel
theorem zm_X0_raiseLow_max22a : (Cond.methodLink RX0 22 Lib.MathLoose.max_long.x : Cond) ∈ wsX0_raiseLow := by decide +kernel
theorem zm_X0_raiseLow_maxb : (Cond.static Lib.MathLoose.max_long.x : Cond) ∈ wsX0_raiseLow := by decide +kernel
theorem zm_X0_raiseLow_mathc : (Cond.initialized "java/lang/Math" : Cond) ∈ wsX0_raiseLow := by decide +kernel
theorem zm_X0_raiseLow_maxd : (Cond.code Lib.MathLoose.max_long.x Lib.MathLoose.max_long.code 4 (some .long) : Cond) ∈ wsX0_raiseLow := by decide +kernel
set_option maxHeartbeats 4000000 in
set_option maxRecDepth 100000 in
theorem m_X0_raiseLow (l : Launch) (E : kE) (a : Nat) (b : Nat) (c : Nat) (fs : Bool) (lf : Nat → Int64) (hf : Nat → Int64) (v : Nat) (x : Int64) (hv : v < 4) : kC l yX0_raiseLow wsX0_raiseLow ({ frames := 1, cells := 0, slots := 0, locals := 21 } : Room) E [.ref a, .int (nI v), .long x] (wX0 E a b c fs lf hf) 0 0 (fun v_ w_ => ∃ (fs1 : Bool), v_ = none ∧ w_ = (wX0 E a b c fs1 (vp_updL lf v (mx (lf v) x)) hf) ∧ (fs1 = true ↔ fs = true ∧ ¬ hf v < mx (lf v) x)) := by
  refine kC.enter cX0_raiseLow 4 none [(0, .ref a), (1, .int (nI v)), (2, .long x)] (by decide) rfl (Nat.le_of_ble_eq_true rfl) rfl ?_
  intro g F Rr
  refine k_aload_n F (pc := 0) 0 rfl dX0_raiseLow_0 rfl ?_
  refine k_get F (pc := 1) (ref := RX0) (C := RX0) (T := TX0) (N := 3) (ci := 0) 0 1 dX0_raiseLow_1 zin_X0_raiseLow_X0 rfl rfl (by decide) zm_X0_raiseLow_f15 rfl rfl ?_
  refine k_iload_n F (pc := 4) 1 rfl dX0_raiseLow_4 rfl ?_
  refine k_aload_n F (pc := 5) 0 rfl dX0_raiseLow_5 rfl ?_
  refine k_get F (pc := 6) (ref := RX0) (C := RX0) (T := TX0) (N := 3) (ci := 0) 0 1 dX0_raiseLow_6 zin_X0_raiseLow_X0 rfl rfl (by decide) zm_X0_raiseLow_f15 rfl rfl ?_
  refine k_iload_n F (pc := 9) 1 rfl dX0_raiseLow_9 rfl ?_
  refine k_lald F (pc := 10) 1 dX0_raiseLow_10 rfl (by omega) (by decide) ?_
  refine k_lload_n F (pc := 11) 2 rfl dX0_raiseLow_11 rfl ?_
  refine k_mmax F (pc := 12) dX0_raiseLow_12 zm_X0_raiseLow_max22a zm_X0_raiseLow_maxb zm_X0_raiseLow_mathc zm_X0_raiseLow_maxd (by decide) (Nat.le_of_ble_eq_true rfl) (by decide) (by decide) ?_
  refine k_last F (pc := 15) 1 (fun lf_1 => (wX0 E a b c fs lf_1 hf)) dX0_raiseLow_15 rfl (by omega) (by decide) (fun _ => rfl) (fun lf_1 elf_1 => ?_)
  refine k_aload_n F (pc := 16) 0 rfl dX0_raiseLow_16 rfl ?_
  refine k_iload_n F (pc := 17) 1 rfl dX0_raiseLow_17 rfl ?_
  refine k_callV F (pc := 18) (C := RX0) (T := TX0) (N := 3) (ci := 0) [.int (nI v)] [] 1 (wX0 E a b c fs lf_1 hf) [] [0, 1, 2] [] (m_X0_stopIfCrossed l E a b c fs lf_1 hf v (by omega)) dX0_raiseLow_18 gX0_raiseLow_X0_stopIfCrossed rfl (by decide +kernel) rfl ⟨rfl, rfl⟩ (by decide) rfl (Nat.le_of_ble_eq_true rfl) (by decide) rfl rfl rfl rfl (by decide) (by decide) (by decide) ?_
  rintro v_3 w_4 ⟨fs1_2, rfl, rfl, hq⟩
  refine k_perm (wX0 E a b c fs1_2 lf_1 hf) [0, 1, 2] (by decide) rfl ?_
  show kK g (wX0 E a b c fs1_2 lf_1 hf) [(0, .ref a), (1, .int (nI v)), (2, .long x)] 0 0 21 []
  subst elf_1
  refine k_vret F Rr (pc := 21) dX0_raiseLow_21 ⟨_, rfl, rfl, ?_⟩
  simpa [vp_updL, mx] using hq
theorem zm_X0_lowerHigh_f19 : (Cond.fieldLink RX0 19 RX0 "highs" "[J" : Cond) ∈ wsX0_lowerHigh := by decide +kernel
theorem zin_X0_lowerHigh_X0 : ∀ w ∈ u_ws RX0 TX0 3, w ∈ wsX0_lowerHigh := by decide +kernel
theorem zm_X0_lowerHigh_min32a : (Cond.methodLink RX0 32 Lib.MathLoose.min_long.x : Cond) ∈ wsX0_lowerHigh := by decide +kernel
theorem zm_X0_lowerHigh_minb : (Cond.static Lib.MathLoose.min_long.x : Cond) ∈ wsX0_lowerHigh := by decide +kernel
theorem zm_X0_lowerHigh_mathc : (Cond.initialized "java/lang/Math" : Cond) ∈ wsX0_lowerHigh := by decide +kernel
theorem zm_X0_lowerHigh_mind : (Cond.code Lib.MathLoose.min_long.x Lib.MathLoose.min_long.code 4 (some .long) : Cond) ∈ wsX0_lowerHigh := by decide +kernel
set_option maxHeartbeats 4000000 in
set_option maxRecDepth 100000 in
theorem m_X0_lowerHigh (l : Launch) (E : kE) (a : Nat) (b : Nat) (c : Nat) (fs : Bool) (lf : Nat → Int64) (hf : Nat → Int64) (v : Nat) (x : Int64) (hv : v < 4) : kC l yX0_lowerHigh wsX0_lowerHigh ({ frames := 1, cells := 0, slots := 0, locals := 21 } : Room) E [.ref a, .int (nI v), .long x] (wX0 E a b c fs lf hf) 0 0 (fun v_ w_ => ∃ (fs1 : Bool), v_ = none ∧ w_ = (wX0 E a b c fs1 lf (vp_updL hf v (mn (hf v) x))) ∧ (fs1 = true ↔ fs = true ∧ ¬ mn (hf v) x < lf v)) := by
  refine kC.enter cX0_lowerHigh 4 none [(0, .ref a), (1, .int (nI v)), (2, .long x)] (by decide) rfl (Nat.le_of_ble_eq_true rfl) rfl ?_
  intro g F Rr
  refine k_aload_n F (pc := 0) 0 rfl dX0_lowerHigh_0 rfl ?_
  refine k_get F (pc := 1) (ref := RX0) (C := RX0) (T := TX0) (N := 3) (ci := 0) 0 2 dX0_lowerHigh_1 zin_X0_lowerHigh_X0 rfl rfl (by decide) zm_X0_lowerHigh_f19 rfl rfl ?_
  refine k_iload_n F (pc := 4) 1 rfl dX0_lowerHigh_4 rfl ?_
  refine k_aload_n F (pc := 5) 0 rfl dX0_lowerHigh_5 rfl ?_
  refine k_get F (pc := 6) (ref := RX0) (C := RX0) (T := TX0) (N := 3) (ci := 0) 0 2 dX0_lowerHigh_6 zin_X0_lowerHigh_X0 rfl rfl (by decide) zm_X0_lowerHigh_f19 rfl rfl ?_
  refine k_iload_n F (pc := 9) 1 rfl dX0_lowerHigh_9 rfl ?_
  refine k_lald F (pc := 10) 2 dX0_lowerHigh_10 rfl (by omega) (by decide) ?_
  refine k_lload_n F (pc := 11) 2 rfl dX0_lowerHigh_11 rfl ?_
  refine k_mmin F (pc := 12) dX0_lowerHigh_12 zm_X0_lowerHigh_min32a zm_X0_lowerHigh_minb zm_X0_lowerHigh_mathc zm_X0_lowerHigh_mind (by decide) (Nat.le_of_ble_eq_true rfl) (by decide) (by decide) ?_
  refine k_last F (pc := 15) 2 (fun hf_1 => (wX0 E a b c fs lf hf_1)) dX0_lowerHigh_15 rfl (by omega) (by decide) (fun _ => rfl) (fun hf_1 ehf_1 => ?_)
  refine k_aload_n F (pc := 16) 0 rfl dX0_lowerHigh_16 rfl ?_
  refine k_iload_n F (pc := 17) 1 rfl dX0_lowerHigh_17 rfl ?_
  refine k_callV F (pc := 18) (C := RX0) (T := TX0) (N := 3) (ci := 0) [.int (nI v)] [] 1 (wX0 E a b c fs lf hf_1) [] [0, 1, 2] [] (m_X0_stopIfCrossed l E a b c fs lf hf_1 v (by omega)) dX0_lowerHigh_18 gX0_lowerHigh_X0_stopIfCrossed rfl (by decide +kernel) rfl ⟨rfl, rfl⟩ (by decide) rfl (Nat.le_of_ble_eq_true rfl) (by decide) rfl rfl rfl rfl (by decide) (by decide) (by decide) ?_
  rintro v_3 w_4 ⟨fs1_2, rfl, rfl, hq⟩
  refine k_perm (wX0 E a b c fs1_2 lf hf_1) [0, 1, 2] (by decide) rfl ?_
  show kK g (wX0 E a b c fs1_2 lf hf_1) [(0, .ref a), (1, .int (nI v)), (2, .long x)] 0 0 21 []
  subst ehf_1
  refine k_vret F Rr (pc := 21) dX0_lowerHigh_21 ⟨_, rfl, rfl, ?_⟩
  simpa [vp_updL, mn] using hq
