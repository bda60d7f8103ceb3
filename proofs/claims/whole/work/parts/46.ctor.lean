theorem zm_X0_init_oa : (Cond.methodLink RX0 3 Lib.objectInit : Cond) ∈ wsX0_init := by decide +kernel
theorem zm_X0_init_ob : (Cond.instanceMethod Lib.objectInit : Cond) ∈ wsX0_init := by decide +kernel
theorem zm_X0_init_oc : (Cond.code Lib.objectInit ⟨#[0xb1]⟩ 1 none : Cond) ∈ wsX0_init := by decide +kernel
theorem zm_X0_init_f9 : (Cond.fieldLink RX0 9 RX0 "something" "Z" : Cond) ∈ wsX0_init := by decide +kernel
theorem zin_X0_init_X0 : ∀ w ∈ u_ws RX0 TX0 3, w ∈ wsX0_init := by decide +kernel
theorem zm_X0_init_aJ : (Cond.arrayClass .long : Cond) ∈ wsX0_init := by decide +kernel
theorem zm_X0_init_f15 : (Cond.fieldLink RX0 15 RX0 "lows" "[J" : Cond) ∈ wsX0_init := by decide +kernel
theorem zm_X0_init_f19 : (Cond.fieldLink RX0 19 RX0 "highs" "[J" : Cond) ∈ wsX0_init := by decide +kernel
set_option maxHeartbeats 4000000 in
set_option maxRecDepth 100000 in
theorem m_X0_init (l : Launch) (E : kE) (a : Nat) : kC l yX0_init wsX0_init ({ frames := 1, cells := 2, slots := 8, locals := 12 } : Room) E [.ref a] [cObj a 0 [.int (bI false), .null, .null]] 2 8 (fun v_ w_ => ∃ (b : Nat) (c : Nat), v_ = none ∧ w_ = (wX0 E a b c false (fun _ => 0) (fun _ => 0))) := by
  refine kC.enter cX0_init 1 none [(0, .ref a)] (by decide) rfl (Nat.le_of_ble_eq_true rfl) rfl ?_
  intro g F Rr
  refine k_aload_n F (pc := 0) 0 rfl dX0_init_0 rfl ?_
  refine k_objInit F (pc := 1) dX0_init_1 zm_X0_init_oa zm_X0_init_ob zm_X0_init_oc (by decide) (Nat.le_of_ble_eq_true rfl) ?_
  refine k_aload_n F (pc := 4) 0 rfl dX0_init_4 rfl ?_
  refine k_iconst F (pc := 5) ((nI 0)) dX0_init_5 (by decide) ?_
  refine k_put F (pc := 6) (ref := RX0) (C := RX0) (T := TX0) (N := 3) (ci := 0) (ty := .boolean) (v := .int (bI false)) tyX0 0 0 [cObj a 0 [.int (bI false), .null, .null]] dX0_init_6 zin_X0_init_X0 tyX0_ok nmX0 rfl rfl (by decide) zm_X0_init_f9 rfl rfl (by decide +kernel) rfl rfl (Nat.le_of_ble_eq_true rfl) rfl ?_
  refine k_aload_n F (pc := 9) 0 rfl dX0_init_9 rfl ?_
  refine k_iconst F (pc := 10) ((nI 4)) dX0_init_10 (by decide) ?_
  refine k_newJ F (pc := 11) dX0_init_11 zm_X0_init_aJ (by decide) (by decide) (by decide) (fun q_1 => ?_)
  show kK g [cObj a 0 [.int (bI false), .null, .null], cLng E q_1 4 (fun _ => 0)] [(0, .ref a)] 1 4 13 [.ref q_1, .ref a]
  refine k_putF F Rr (pc := 13) (ref := RX0) (C := RX0) (T := TX0) (N := 3) (ci := 0) (ty := .array .long) (v := .ref q_1) tyX0 0 1 [cObj a 0 [.int (bI false), .ref q_1, .null], cLng E q_1 4 (fun _ => 0)] dX0_init_13 zin_X0_init_X0 tyX0_ok nmX0 rfl rfl (by decide) zm_X0_init_f15 rfl rfl rfl (by decide +kernel) rfl rfl (Nat.le_of_ble_eq_true rfl) rfl ?_
  refine k_aload_n F (pc := 16) 0 rfl dX0_init_16 rfl ?_
  refine k_iconst F (pc := 17) ((nI 4)) dX0_init_17 (by decide) ?_
  refine k_newJ F (pc := 18) dX0_init_18 zm_X0_init_aJ (by decide) (by decide) (by decide) (fun q_2 => ?_)
  show kK g [cObj a 0 [.int (bI false), .ref q_1, .null], cLng E q_1 4 (fun _ => 0), cLng E q_2 4 (fun _ => 0)] [(0, .ref a)] 2 8 20 [.ref q_2, .ref a]
  refine k_putF F Rr (pc := 20) (ref := RX0) (C := RX0) (T := TX0) (N := 3) (ci := 0) (ty := .array .long) (v := .ref q_2) tyX0 0 2 [cObj a 0 [.int (bI false), .ref q_1, .ref q_2], cLng E q_1 4 (fun _ => 0), cLng E q_2 4 (fun _ => 0)] dX0_init_20 zin_X0_init_X0 tyX0_ok nmX0 rfl rfl (by decide) zm_X0_init_f19 rfl rfl rfl (by decide +kernel) rfl rfl (Nat.le_of_ble_eq_true rfl) rfl ?_
  exact k_vret F Rr (pc := 23) dX0_init_23 ⟨q_1, q_2, rfl, rfl⟩
theorem zm_X1_init_oa : (Cond.methodLink RX1 1 Lib.objectInit : Cond) ∈ wsX1_init := by decide +kernel
theorem zm_X1_init_ob : (Cond.instanceMethod Lib.objectInit : Cond) ∈ wsX1_init := by decide +kernel
theorem zm_X1_init_oc : (Cond.code Lib.objectInit ⟨#[0xb1]⟩ 1 none : Cond) ∈ wsX1_init := by decide +kernel
theorem zm_X1_init_f7 : (Cond.fieldLink RX1 7 RX1 "empty" "Z" : Cond) ∈ wsX1_init := by decide +kernel
theorem zin_X1_init_X1 : ∀ w ∈ u_ws RX1 TX1 3, w ∈ wsX1_init := by decide +kernel
theorem zm_X1_init_f13 : (Cond.fieldLink RX1 13 RX1 "least" "J" : Cond) ∈ wsX1_init := by decide +kernel
theorem zm_X1_init_f17 : (Cond.fieldLink RX1 17 RX1 "greatest" "J" : Cond) ∈ wsX1_init := by decide +kernel
set_option maxHeartbeats 4000000 in
set_option maxRecDepth 100000 in
theorem m_X1_init (l : Launch) (E : kE) (a : Nat) : kC l yX1_init wsX1_init ({ frames := 1, cells := 0, slots := 0, locals := 12 } : Room) E [.ref a] [cObj a 1 [.int (bI false), .long 0, .long 0]] 0 0 (fun v_ w_ => v_ = none ∧ w_ = (wX1 E a true 0 0)) := by
  refine kC.enter cX1_init 1 none [(0, .ref a)] (by decide) rfl (Nat.le_of_ble_eq_true rfl) rfl ?_
  intro g F Rr
  refine k_aload_n F (pc := 0) 0 rfl dX1_init_0 rfl ?_
  refine k_objInit F (pc := 1) dX1_init_1 zm_X1_init_oa zm_X1_init_ob zm_X1_init_oc (by decide) (Nat.le_of_ble_eq_true rfl) ?_
  refine k_aload_n F (pc := 4) 0 rfl dX1_init_4 rfl ?_
  refine k_iconst F (pc := 5) ((nI 1)) dX1_init_5 (by decide) ?_
  refine k_put F (pc := 6) (ref := RX1) (C := RX1) (T := TX1) (N := 3) (ci := 1) (ty := .boolean) (v := .int (bI true)) tyX1 0 0 [cObj a 1 [.int (bI true), .long 0, .long 0]] dX1_init_6 zin_X1_init_X1 tyX1_ok nmX1 rfl rfl (by decide) zm_X1_init_f7 rfl rfl (by decide +kernel) rfl rfl (Nat.le_of_ble_eq_true rfl) rfl ?_
  refine k_aload_n F (pc := 9) 0 rfl dX1_init_9 rfl ?_
  refine k_lconst F (pc := 10) 0 dX1_init_10 (by decide) ?_
  refine k_put F (pc := 11) (ref := RX1) (C := RX1) (T := TX1) (N := 3) (ci := 1) (ty := .long) (v := .long 0) tyX1 0 1 [cObj a 1 [.int (bI true), .long 0, .long 0]] dX1_init_11 zin_X1_init_X1 tyX1_ok nmX1 rfl rfl (by decide) zm_X1_init_f13 rfl rfl (by decide +kernel) rfl rfl (Nat.le_of_ble_eq_true rfl) rfl ?_
  refine k_aload_n F (pc := 14) 0 rfl dX1_init_14 rfl ?_
  refine k_lconst F (pc := 15) 0 dX1_init_15 (by decide) ?_
  refine k_put F (pc := 16) (ref := RX1) (C := RX1) (T := TX1) (N := 3) (ci := 1) (ty := .long) (v := .long 0) tyX1 0 2 [cObj a 1 [.int (bI true), .long 0, .long 0]] dX1_init_16 zin_X1_init_X1 tyX1_ok nmX1 rfl rfl (by decide) zm_X1_init_f17 rfl rfl (by decide +kernel) rfl rfl (Nat.le_of_ble_eq_true rfl) rfl ?_
  exact k_vret F Rr (pc := 19) dX1_init_19 ⟨rfl, rfl⟩
theorem zm_X2_init_oa : (Cond.methodLink RX2 3 Lib.objectInit : Cond) ∈ wsX2_init := by decide +kernel
theorem zm_X2_init_ob : (Cond.instanceMethod Lib.objectInit : Cond) ∈ wsX2_init := by decide +kernel
theorem zm_X2_init_oc : (Cond.code Lib.objectInit ⟨#[0xb1]⟩ 1 none : Cond) ∈ wsX2_init := by decide +kernel
theorem zm_X2_init_aZ : (Cond.arrayClass .boolean : Cond) ∈ wsX2_init := by decide +kernel
theorem zm_X2_init_f9 : (Cond.fieldLink RX2 9 RX2 "somewhere" "[Z" : Cond) ∈ wsX2_init := by decide +kernel
theorem zin_X2_init_X2 : ∀ w ∈ u_ws RX2 TX2 3, w ∈ wsX2_init := by decide +kernel
theorem zm_X2_init_aJ : (Cond.arrayClass .long : Cond) ∈ wsX2_init := by decide +kernel
theorem zm_X2_init_f15 : (Cond.fieldLink RX2 15 RX2 "lows" "[J" : Cond) ∈ wsX2_init := by decide +kernel
theorem zm_X2_init_f19 : (Cond.fieldLink RX2 19 RX2 "highs" "[J" : Cond) ∈ wsX2_init := by decide +kernel
set_option maxHeartbeats 4000000 in
set_option maxRecDepth 100000 in
theorem m_X2_init (l : Launch) (E : kE) (a : Nat) : kC l yX2_init wsX2_init ({ frames := 1, cells := 3, slots := 216, locals := 12 } : Room) E [.ref a] [cObj a 2 [.null, .null, .null]] 3 216 (fun v_ w_ => ∃ (b : Nat) (c : Nat) (d : Nat), v_ = none ∧ w_ = (wX2 E a b c d (fun _ => false) (fun _ => 0) (fun _ => 0))) := by
  refine kC.enter cX2_init 1 none [(0, .ref a)] (by decide) rfl (Nat.le_of_ble_eq_true rfl) rfl ?_
  intro g F Rr
  refine k_aload_n F (pc := 0) 0 rfl dX2_init_0 rfl ?_
  refine k_objInit F (pc := 1) dX2_init_1 zm_X2_init_oa zm_X2_init_ob zm_X2_init_oc (by decide) (Nat.le_of_ble_eq_true rfl) ?_
  refine k_aload_n F (pc := 4) 0 rfl dX2_init_4 rfl ?_
  refine k_bipush F (pc := 5) ((nI 24)) dX2_init_5 (by decide) ?_
  refine k_newZ F (pc := 7) dX2_init_7 zm_X2_init_aZ (by decide) (by decide) (by decide) (fun q_1 => ?_)
  show kK g [cObj a 2 [.null, .null, .null], cBoo E q_1 24 (fun _ => false)] [(0, .ref a)] 1 24 9 [.ref q_1, .ref a]
  refine k_putF F Rr (pc := 9) (ref := RX2) (C := RX2) (T := TX2) (N := 3) (ci := 2) (ty := .array .boolean) (v := .ref q_1) tyX2 0 0 [cObj a 2 [.ref q_1, .null, .null], cBoo E q_1 24 (fun _ => false)] dX2_init_9 zin_X2_init_X2 tyX2_ok nmX2 rfl rfl (by decide) zm_X2_init_f9 rfl rfl rfl (by decide +kernel) rfl rfl (Nat.le_of_ble_eq_true rfl) rfl ?_
  refine k_aload_n F (pc := 12) 0 rfl dX2_init_12 rfl ?_
  refine k_bipush F (pc := 13) ((nI 96)) dX2_init_13 (by decide) ?_
  refine k_newJ F (pc := 15) dX2_init_15 zm_X2_init_aJ (by decide) (by decide) (by decide) (fun q_2 => ?_)
  show kK g [cObj a 2 [.ref q_1, .null, .null], cBoo E q_1 24 (fun _ => false), cLng E q_2 96 (fun _ => 0)] [(0, .ref a)] 2 120 17 [.ref q_2, .ref a]
  refine k_putF F Rr (pc := 17) (ref := RX2) (C := RX2) (T := TX2) (N := 3) (ci := 2) (ty := .array .long) (v := .ref q_2) tyX2 0 1 [cObj a 2 [.ref q_1, .ref q_2, .null], cBoo E q_1 24 (fun _ => false), cLng E q_2 96 (fun _ => 0)] dX2_init_17 zin_X2_init_X2 tyX2_ok nmX2 rfl rfl (by decide) zm_X2_init_f15 rfl rfl rfl (by decide +kernel) rfl rfl (Nat.le_of_ble_eq_true rfl) rfl ?_
  refine k_aload_n F (pc := 20) 0 rfl dX2_init_20 rfl ?_
  refine k_bipush F (pc := 21) ((nI 96)) dX2_init_21 (by decide) ?_
  refine k_newJ F (pc := 23) dX2_init_23 zm_X2_init_aJ (by decide) (by decide) (by decide) (fun q_3 => ?_)
  show kK g [cObj a 2 [.ref q_1, .ref q_2, .null], cBoo E q_1 24 (fun _ => false), cLng E q_2 96 (fun _ => 0), cLng E q_3 96 (fun _ => 0)] [(0, .ref a)] 3 216 25 [.ref q_3, .ref a]
  refine k_putF F Rr (pc := 25) (ref := RX2) (C := RX2) (T := TX2) (N := 3) (ci := 2) (ty := .array .long) (v := .ref q_3) tyX2 0 2 [cObj a 2 [.ref q_1, .ref q_2, .ref q_3], cBoo E q_1 24 (fun _ => false), cLng E q_2 96 (fun _ => 0), cLng E q_3 96 (fun _ => 0)] dX2_init_25 zin_X2_init_X2 tyX2_ok nmX2 rfl rfl (by decide) zm_X2_init_f19 rfl rfl rfl (by decide +kernel) rfl rfl (Nat.le_of_ble_eq_true rfl) rfl ?_
  exact k_vret F Rr (pc := 28) dX2_init_28 ⟨q_1, q_2, q_3, rfl, rfl⟩
theorem zm_X3_init_oa : (Cond.methodLink RX3 1 Lib.objectInit : Cond) ∈ wsX3_init := by decide +kernel
theorem zm_X3_init_ob : (Cond.instanceMethod Lib.objectInit : Cond) ∈ wsX3_init := by decide +kernel
theorem zm_X3_init_oc : (Cond.code Lib.objectInit ⟨#[0xb1]⟩ 1 none : Cond) ∈ wsX3_init := by decide +kernel
theorem zm_X3_init_aI : (Cond.arrayClass .int : Cond) ∈ wsX3_init := by decide +kernel
theorem zm_X3_init_f9 : (Cond.fieldLink RX3 9 RX3 "codes" "[I" : Cond) ∈ wsX3_init := by decide +kernel
theorem zin_X3_init_X3 : ∀ w ∈ u_ws RX3 TX3 8, w ∈ wsX3_init := by decide +kernel
theorem zm_X3_init_f13 : (Cond.fieldLink RX3 13 RX3 "count" "I" : Cond) ∈ wsX3_init := by decide +kernel
theorem zm_X3_init_f17 : (Cond.fieldLink RX3 17 RX3 "scanned" "Z" : Cond) ∈ wsX3_init := by decide +kernel
theorem zm_X3_init_f21 : (Cond.fieldLink RX3 21 RX3 "roundsTaken" "I" : Cond) ∈ wsX3_init := by decide +kernel
theorem zm_X3_init_k24 : (Cond.classLink RX3 24 RX2 : Cond) ∈ wsX3_init := by decide +kernel
theorem zm_X3_init_iX2 : (Cond.instantiable RX2 3 : Cond) ∈ wsX3_init := by decide +kernel
theorem zm_X3_init_nX2 : (Cond.initialized RX2 : Cond) ∈ wsX3_init := by decide +kernel
theorem zin_X3_init_X2 : ∀ w ∈ u_ws RX2 TX2 3, w ∈ wsX3_init := by decide +kernel
theorem zm_X3_init_mX2 : (Cond.instanceMethod yX2_init : Cond) ∈ wsX3_init := by decide +kernel
theorem zm_X3_init_f27 : (Cond.fieldLink RX3 27 RX3 "found" "LRangeScan$States;" : Cond) ∈ wsX3_init := by decide +kernel
theorem zm_X3_init_f31 : (Cond.fieldLink RX3 31 RX3 "settled" "LRangeScan$States;" : Cond) ∈ wsX3_init := by decide +kernel
theorem zm_X3_init_k34 : (Cond.classLink RX3 34 RX0 : Cond) ∈ wsX3_init := by decide +kernel
theorem zm_X3_init_iX0 : (Cond.instantiable RX0 3 : Cond) ∈ wsX3_init := by decide +kernel
theorem zm_X3_init_nX0 : (Cond.initialized RX0 : Cond) ∈ wsX3_init := by decide +kernel
theorem zin_X3_init_X0 : ∀ w ∈ u_ws RX0 TX0 3, w ∈ wsX3_init := by decide +kernel
theorem zm_X3_init_mX0 : (Cond.instanceMethod yX0_init : Cond) ∈ wsX3_init := by decide +kernel
theorem zm_X3_init_f37 : (Cond.fieldLink RX3 37 RX3 "flow" "LRangeScan$Flow;" : Cond) ∈ wsX3_init := by decide +kernel
theorem zm_X3_init_k41 : (Cond.classLink RX3 41 RX1 : Cond) ∈ wsX3_init := by decide +kernel
theorem zm_X3_init_iX1 : (Cond.instantiable RX1 3 : Cond) ∈ wsX3_init := by decide +kernel
theorem zm_X3_init_nX1 : (Cond.initialized RX1 : Cond) ∈ wsX3_init := by decide +kernel
theorem zin_X3_init_X1 : ∀ w ∈ u_ws RX1 TX1 3, w ∈ wsX3_init := by decide +kernel
theorem zm_X3_init_mX1 : (Cond.instanceMethod yX1_init : Cond) ∈ wsX3_init := by decide +kernel
theorem zm_X3_init_f44 : (Cond.fieldLink RX3 44 RX3 "results" "LRangeScan$Results;" : Cond) ∈ wsX3_init := by decide +kernel
set_option maxHeartbeats 4000000 in
set_option maxRecDepth 100000 in
theorem m_X3_init (l : Launch) (E : kE) (a : Nat) : kCZ l yX3_init wsX3_init ({ frames := 2, cells := 13, slots := 548, locals := 32 } : Room) E [.ref a] [cObj a 3 [.null, .int (nI 0), .int (bI false), .int (nI 0), .null, .null, .null, .null]] 13 548 (fun v_ w_ => ∃ (h : Nat → Nat), h 0 = a ∧ v_ = none ∧ w_ = (wX3 E h (fun _ => 0) 0 false 0 (fun _ => false) (fun _ => 0) (fun _ => 0) (fun _ => false) (fun _ => 0) (fun _ => 0) false (fun _ => 0) (fun _ => 0) true 0 0)) := by
  refine kCZ.enter cX3_init 1 none [(0, .ref a)] (by decide) rfl (Nat.le_of_ble_eq_true rfl) rfl ?_
  intro g F Rr Z
  refine k_aload_n F (pc := 0) 0 rfl dX3_init_0 rfl ?_
  refine k_objInit F (pc := 1) dX3_init_1 zm_X3_init_oa zm_X3_init_ob zm_X3_init_oc (by decide) (Nat.le_of_ble_eq_true rfl) ?_
  refine k_aload_n F (pc := 4) 0 rfl dX3_init_4 rfl ?_
  refine k_bipush F (pc := 5) ((nI 96)) dX3_init_5 (by decide) ?_
  refine k_newI F (pc := 7) dX3_init_7 zm_X3_init_aI (by decide) (by decide) (by decide) (fun q_1 => ?_)
  show kK g [cObj a 3 [.null, .int (nI 0), .int (bI false), .int (nI 0), .null, .null, .null, .null], cInt E q_1 96 (fun _ => 0)] [(0, .ref a)] 1 96 9 [.ref q_1, .ref a]
  refine k_putF F Rr (pc := 9) (ref := RX3) (C := RX3) (T := TX3) (N := 8) (ci := 3) (ty := .array .int) (v := .ref q_1) tyX3 0 0 [cObj a 3 [.ref q_1, .int (nI 0), .int (bI false), .int (nI 0), .null, .null, .null, .null], cInt E q_1 96 (fun _ => 0)] dX3_init_9 zin_X3_init_X3 tyX3_ok nmX3 rfl rfl (by decide) zm_X3_init_f9 rfl rfl rfl (by decide +kernel) rfl rfl (Nat.le_of_ble_eq_true rfl) rfl ?_
  refine k_aload_n F (pc := 12) 0 rfl dX3_init_12 rfl ?_
  refine k_iconst F (pc := 13) ((nI 0)) dX3_init_13 (by decide) ?_
  refine k_put F (pc := 14) (ref := RX3) (C := RX3) (T := TX3) (N := 8) (ci := 3) (ty := .int) (v := .int (nI 0)) tyX3 0 1 [cObj a 3 [.ref q_1, .int (nI 0), .int (bI false), .int (nI 0), .null, .null, .null, .null], cInt E q_1 96 (fun _ => 0)] dX3_init_14 zin_X3_init_X3 tyX3_ok nmX3 rfl rfl (by decide) zm_X3_init_f13 rfl rfl (by decide +kernel) rfl rfl (Nat.le_of_ble_eq_true rfl) rfl ?_
  refine k_aload_n F (pc := 17) 0 rfl dX3_init_17 rfl ?_
  refine k_iconst F (pc := 18) ((nI 0)) dX3_init_18 (by decide) ?_
  refine k_put F (pc := 19) (ref := RX3) (C := RX3) (T := TX3) (N := 8) (ci := 3) (ty := .boolean) (v := .int (bI false)) tyX3 0 2 [cObj a 3 [.ref q_1, .int (nI 0), .int (bI false), .int (nI 0), .null, .null, .null, .null], cInt E q_1 96 (fun _ => 0)] dX3_init_19 zin_X3_init_X3 tyX3_ok nmX3 rfl rfl (by decide) zm_X3_init_f17 rfl rfl (by decide +kernel) rfl rfl (Nat.le_of_ble_eq_true rfl) rfl ?_
  refine k_aload_n F (pc := 22) 0 rfl dX3_init_22 rfl ?_
  refine k_iconst F (pc := 23) ((nI 0)) dX3_init_23 (by decide) ?_
  refine k_put F (pc := 24) (ref := RX3) (C := RX3) (T := TX3) (N := 8) (ci := 3) (ty := .int) (v := .int (nI 0)) tyX3 0 3 [cObj a 3 [.ref q_1, .int (nI 0), .int (bI false), .int (nI 0), .null, .null, .null, .null], cInt E q_1 96 (fun _ => 0)] dX3_init_24 zin_X3_init_X3 tyX3_ok nmX3 rfl rfl (by decide) zm_X3_init_f21 rfl rfl (by decide +kernel) rfl rfl (Nat.le_of_ble_eq_true rfl) rfl ?_
  refine k_aload_n F (pc := 27) 0 rfl dX3_init_27 rfl ?_
  refine k_new F (pc := 28) (C := RX2) (T := TX2) (N := 3) (ci := 2) [.null, .null, .null] tyX2 dX3_init_28 zin_X3_init_X2 tyX2_ok zm_X3_init_k24 zm_X3_init_iX2 zm_X3_init_nX2 rfl (fun j hj => by rcases (show j = 0 ∨ j = 1 ∨ j = 2 by omega) with rfl | rfl | rfl <;> rfl) (by decide) (by decide) (fun q_2 => ?_)
  show kK g [cObj a 3 [.ref q_1, .int (nI 0), .int (bI false), .int (nI 0), .null, .null, .null, .null], cInt E q_1 96 (fun _ => 0), cObj q_2 2 [.null, .null, .null]] [(0, .ref a)] 2 99 31 [.ref q_2, .ref a]
  refine k_dup F (pc := 31) dX3_init_31 rfl ?_
  refine k_callIN F (pc := 32) (host := RX3) [] [.ref q_2, .ref a] 0 [cObj q_2 2 [.null, .null, .null]] [cObj a 3 [.ref q_1, .int (nI 0), .int (bI false), .int (nI 0), .null, .null, .null, .null], cInt E q_1 96 (fun _ => 0)] [2] [0, 1] Z.a (m_X2_init l E q_2) dX3_init_32 gX3_init_X2_init_n26 rfl (by decide +kernel) rfl rfl zm_X3_init_nX2 zm_X3_init_mX2 ⟨rfl, rfl⟩ (by decide) rfl (Nat.le_of_ble_eq_true rfl) (by decide) rfl rfl (by decide) (by decide) (by decide) ?_
  rintro v_6 w_7 ⟨b_3, c_4, d_5, rfl, rfl⟩
  show kK g [cObj a 3 [.ref q_1, .int (nI 0), .int (bI false), .int (nI 0), .null, .null, .null, .null], cInt E q_1 96 (fun _ => 0), cObj q_2 2 [.ref b_3, .ref c_4, .ref d_5], cBoo E b_3 24 (fun _ => false), cLng E c_4 96 (fun _ => 0), cLng E d_5 96 (fun _ => 0)] [(0, .ref a)] 5 315 35 [.ref q_2, .ref a]
  refine k_putF F Rr (pc := 35) (ref := RX3) (C := RX3) (T := TX3) (N := 8) (ci := 3) (ty := .object "RangeScan$States") (v := .ref q_2) tyX3 0 4 [cObj a 3 [.ref q_1, .int (nI 0), .int (bI false), .int (nI 0), .ref q_2, .null, .null, .null], cInt E q_1 96 (fun _ => 0), cObj q_2 2 [.ref b_3, .ref c_4, .ref d_5], cBoo E b_3 24 (fun _ => false), cLng E c_4 96 (fun _ => 0), cLng E d_5 96 (fun _ => 0)] dX3_init_35 zin_X3_init_X3 tyX3_ok nmX3 rfl rfl (by decide) zm_X3_init_f27 rfl rfl rfl (by decide +kernel) rfl rfl (Nat.le_of_ble_eq_true rfl) rfl ?_
  refine k_aload_n F (pc := 38) 0 rfl dX3_init_38 rfl ?_
  refine k_new F (pc := 39) (C := RX2) (T := TX2) (N := 3) (ci := 2) [.null, .null, .null] tyX2 dX3_init_39 zin_X3_init_X2 tyX2_ok zm_X3_init_k24 zm_X3_init_iX2 zm_X3_init_nX2 rfl (fun j hj => by rcases (show j = 0 ∨ j = 1 ∨ j = 2 by omega) with rfl | rfl | rfl <;> rfl) (by decide) (by decide) (fun q_8 => ?_)
  show kK g [cObj a 3 [.ref q_1, .int (nI 0), .int (bI false), .int (nI 0), .ref q_2, .null, .null, .null], cInt E q_1 96 (fun _ => 0), cObj q_2 2 [.ref b_3, .ref c_4, .ref d_5], cBoo E b_3 24 (fun _ => false), cLng E c_4 96 (fun _ => 0), cLng E d_5 96 (fun _ => 0), cObj q_8 2 [.null, .null, .null]] [(0, .ref a)] 6 318 42 [.ref q_8, .ref a]
  refine k_dup F (pc := 42) dX3_init_42 rfl ?_
  refine k_callIN F (pc := 43) (host := RX3) [] [.ref q_8, .ref a] 0 [cObj q_8 2 [.null, .null, .null]] [cObj a 3 [.ref q_1, .int (nI 0), .int (bI false), .int (nI 0), .ref q_2, .null, .null, .null], cInt E q_1 96 (fun _ => 0), cObj q_2 2 [.ref b_3, .ref c_4, .ref d_5], cBoo E b_3 24 (fun _ => false), cLng E c_4 96 (fun _ => 0), cLng E d_5 96 (fun _ => 0)] [6] [0, 1, 2, 3, 4, 5] Z.a (m_X2_init l E q_8) dX3_init_43 gX3_init_X2_init_n26 rfl (by decide +kernel) rfl rfl zm_X3_init_nX2 zm_X3_init_mX2 ⟨rfl, rfl⟩ (by decide) rfl (Nat.le_of_ble_eq_true rfl) (by decide) rfl rfl (by decide) (by decide) (by decide) ?_
  rintro v_12 w_13 ⟨b_9, c_10, d_11, rfl, rfl⟩
  show kK g [cObj a 3 [.ref q_1, .int (nI 0), .int (bI false), .int (nI 0), .ref q_2, .null, .null, .null], cInt E q_1 96 (fun _ => 0), cObj q_2 2 [.ref b_3, .ref c_4, .ref d_5], cBoo E b_3 24 (fun _ => false), cLng E c_4 96 (fun _ => 0), cLng E d_5 96 (fun _ => 0), cObj q_8 2 [.ref b_9, .ref c_10, .ref d_11], cBoo E b_9 24 (fun _ => false), cLng E c_10 96 (fun _ => 0), cLng E d_11 96 (fun _ => 0)] [(0, .ref a)] 9 534 46 [.ref q_8, .ref a]
  refine k_putF F Rr (pc := 46) (ref := RX3) (C := RX3) (T := TX3) (N := 8) (ci := 3) (ty := .object "RangeScan$States") (v := .ref q_8) tyX3 0 5 [cObj a 3 [.ref q_1, .int (nI 0), .int (bI false), .int (nI 0), .ref q_2, .ref q_8, .null, .null], cInt E q_1 96 (fun _ => 0), cObj q_2 2 [.ref b_3, .ref c_4, .ref d_5], cBoo E b_3 24 (fun _ => false), cLng E c_4 96 (fun _ => 0), cLng E d_5 96 (fun _ => 0), cObj q_8 2 [.ref b_9, .ref c_10, .ref d_11], cBoo E b_9 24 (fun _ => false), cLng E c_10 96 (fun _ => 0), cLng E d_11 96 (fun _ => 0)] dX3_init_46 zin_X3_init_X3 tyX3_ok nmX3 rfl rfl (by decide) zm_X3_init_f31 rfl rfl rfl (by decide +kernel) rfl rfl (Nat.le_of_ble_eq_true rfl) rfl ?_
  refine k_aload_n F (pc := 49) 0 rfl dX3_init_49 rfl ?_
  refine k_new F (pc := 50) (C := RX0) (T := TX0) (N := 3) (ci := 0) [.int (bI false), .null, .null] tyX0 dX3_init_50 zin_X3_init_X0 tyX0_ok zm_X3_init_k34 zm_X3_init_iX0 zm_X3_init_nX0 rfl (fun j hj => by rcases (show j = 0 ∨ j = 1 ∨ j = 2 by omega) with rfl | rfl | rfl <;> rfl) (by decide) (by decide) (fun q_14 => ?_)
  show kK g [cObj a 3 [.ref q_1, .int (nI 0), .int (bI false), .int (nI 0), .ref q_2, .ref q_8, .null, .null], cInt E q_1 96 (fun _ => 0), cObj q_2 2 [.ref b_3, .ref c_4, .ref d_5], cBoo E b_3 24 (fun _ => false), cLng E c_4 96 (fun _ => 0), cLng E d_5 96 (fun _ => 0), cObj q_8 2 [.ref b_9, .ref c_10, .ref d_11], cBoo E b_9 24 (fun _ => false), cLng E c_10 96 (fun _ => 0), cLng E d_11 96 (fun _ => 0), cObj q_14 0 [.int (bI false), .null, .null]] [(0, .ref a)] 10 537 53 [.ref q_14, .ref a]
  refine k_dup F (pc := 53) dX3_init_53 rfl ?_
  refine k_callIN F (pc := 54) (host := RX3) [] [.ref q_14, .ref a] 0 [cObj q_14 0 [.int (bI false), .null, .null]] [cObj a 3 [.ref q_1, .int (nI 0), .int (bI false), .int (nI 0), .ref q_2, .ref q_8, .null, .null], cInt E q_1 96 (fun _ => 0), cObj q_2 2 [.ref b_3, .ref c_4, .ref d_5], cBoo E b_3 24 (fun _ => false), cLng E c_4 96 (fun _ => 0), cLng E d_5 96 (fun _ => 0), cObj q_8 2 [.ref b_9, .ref c_10, .ref d_11], cBoo E b_9 24 (fun _ => false), cLng E c_10 96 (fun _ => 0), cLng E d_11 96 (fun _ => 0)] [10] [0, 1, 2, 3, 4, 5, 6, 7, 8, 9] Z.b (m_X0_init l E q_14) dX3_init_54 gX3_init_X0_init_n36 rfl (by decide +kernel) rfl rfl zm_X3_init_nX0 zm_X3_init_mX0 ⟨rfl, rfl⟩ (by decide) rfl (Nat.le_of_ble_eq_true rfl) (by decide) rfl rfl (by decide) (by decide) (by decide) ?_
  rintro v_17 w_18 ⟨b_15, c_16, rfl, rfl⟩
  show kK g [cObj a 3 [.ref q_1, .int (nI 0), .int (bI false), .int (nI 0), .ref q_2, .ref q_8, .null, .null], cInt E q_1 96 (fun _ => 0), cObj q_2 2 [.ref b_3, .ref c_4, .ref d_5], cBoo E b_3 24 (fun _ => false), cLng E c_4 96 (fun _ => 0), cLng E d_5 96 (fun _ => 0), cObj q_8 2 [.ref b_9, .ref c_10, .ref d_11], cBoo E b_9 24 (fun _ => false), cLng E c_10 96 (fun _ => 0), cLng E d_11 96 (fun _ => 0), cObj q_14 0 [.int (bI false), .ref b_15, .ref c_16], cLng E b_15 4 (fun _ => 0), cLng E c_16 4 (fun _ => 0)] [(0, .ref a)] 12 545 57 [.ref q_14, .ref a]
  refine k_putF F Rr (pc := 57) (ref := RX3) (C := RX3) (T := TX3) (N := 8) (ci := 3) (ty := .object "RangeScan$Flow") (v := .ref q_14) tyX3 0 6 [cObj a 3 [.ref q_1, .int (nI 0), .int (bI false), .int (nI 0), .ref q_2, .ref q_8, .ref q_14, .null], cInt E q_1 96 (fun _ => 0), cObj q_2 2 [.ref b_3, .ref c_4, .ref d_5], cBoo E b_3 24 (fun _ => false), cLng E c_4 96 (fun _ => 0), cLng E d_5 96 (fun _ => 0), cObj q_8 2 [.ref b_9, .ref c_10, .ref d_11], cBoo E b_9 24 (fun _ => false), cLng E c_10 96 (fun _ => 0), cLng E d_11 96 (fun _ => 0), cObj q_14 0 [.int (bI false), .ref b_15, .ref c_16], cLng E b_15 4 (fun _ => 0), cLng E c_16 4 (fun _ => 0)] dX3_init_57 zin_X3_init_X3 tyX3_ok nmX3 rfl rfl (by decide) zm_X3_init_f37 rfl rfl rfl (by decide +kernel) rfl rfl (Nat.le_of_ble_eq_true rfl) rfl ?_
  refine k_aload_n F (pc := 60) 0 rfl dX3_init_60 rfl ?_
  refine k_new F (pc := 61) (C := RX1) (T := TX1) (N := 3) (ci := 1) [.int (bI false), .long 0, .long 0] tyX1 dX3_init_61 zin_X3_init_X1 tyX1_ok zm_X3_init_k41 zm_X3_init_iX1 zm_X3_init_nX1 rfl (fun j hj => by rcases (show j = 0 ∨ j = 1 ∨ j = 2 by omega) with rfl | rfl | rfl <;> rfl) (by decide) (by decide) (fun q_19 => ?_)
  show kK g [cObj a 3 [.ref q_1, .int (nI 0), .int (bI false), .int (nI 0), .ref q_2, .ref q_8, .ref q_14, .null], cInt E q_1 96 (fun _ => 0), cObj q_2 2 [.ref b_3, .ref c_4, .ref d_5], cBoo E b_3 24 (fun _ => false), cLng E c_4 96 (fun _ => 0), cLng E d_5 96 (fun _ => 0), cObj q_8 2 [.ref b_9, .ref c_10, .ref d_11], cBoo E b_9 24 (fun _ => false), cLng E c_10 96 (fun _ => 0), cLng E d_11 96 (fun _ => 0), cObj q_14 0 [.int (bI false), .ref b_15, .ref c_16], cLng E b_15 4 (fun _ => 0), cLng E c_16 4 (fun _ => 0), cObj q_19 1 [.int (bI false), .long 0, .long 0]] [(0, .ref a)] 13 548 64 [.ref q_19, .ref a]
  refine k_dup F (pc := 64) dX3_init_64 rfl ?_
  refine k_callIN F (pc := 65) (host := RX3) [] [.ref q_19, .ref a] 0 [cObj q_19 1 [.int (bI false), .long 0, .long 0]] [cObj a 3 [.ref q_1, .int (nI 0), .int (bI false), .int (nI 0), .ref q_2, .ref q_8, .ref q_14, .null], cInt E q_1 96 (fun _ => 0), cObj q_2 2 [.ref b_3, .ref c_4, .ref d_5], cBoo E b_3 24 (fun _ => false), cLng E c_4 96 (fun _ => 0), cLng E d_5 96 (fun _ => 0), cObj q_8 2 [.ref b_9, .ref c_10, .ref d_11], cBoo E b_9 24 (fun _ => false), cLng E c_10 96 (fun _ => 0), cLng E d_11 96 (fun _ => 0), cObj q_14 0 [.int (bI false), .ref b_15, .ref c_16], cLng E b_15 4 (fun _ => 0), cLng E c_16 4 (fun _ => 0)] [13] [0, 1, 2, 3, 4, 5, 6, 7, 8, 9, 10, 11, 12] Z.c (m_X1_init l E q_19) dX3_init_65 gX3_init_X1_init_n43 rfl (by decide +kernel) rfl rfl zm_X3_init_nX1 zm_X3_init_mX1 ⟨rfl, rfl⟩ (by decide) rfl (Nat.le_of_ble_eq_true rfl) (by decide) rfl rfl (by decide) (by decide) (by decide) ?_
  rintro v_20 w_21 ⟨rfl, rfl⟩
  show kK g [cObj a 3 [.ref q_1, .int (nI 0), .int (bI false), .int (nI 0), .ref q_2, .ref q_8, .ref q_14, .null], cInt E q_1 96 (fun _ => 0), cObj q_2 2 [.ref b_3, .ref c_4, .ref d_5], cBoo E b_3 24 (fun _ => false), cLng E c_4 96 (fun _ => 0), cLng E d_5 96 (fun _ => 0), cObj q_8 2 [.ref b_9, .ref c_10, .ref d_11], cBoo E b_9 24 (fun _ => false), cLng E c_10 96 (fun _ => 0), cLng E d_11 96 (fun _ => 0), cObj q_14 0 [.int (bI false), .ref b_15, .ref c_16], cLng E b_15 4 (fun _ => 0), cLng E c_16 4 (fun _ => 0), cObj q_19 1 [.int (bI true), .long 0, .long 0]] [(0, .ref a)] 13 548 68 [.ref q_19, .ref a]
  refine k_putF F Rr (pc := 68) (ref := RX3) (C := RX3) (T := TX3) (N := 8) (ci := 3) (ty := .object "RangeScan$Results") (v := .ref q_19) tyX3 0 7 [cObj a 3 [.ref q_1, .int (nI 0), .int (bI false), .int (nI 0), .ref q_2, .ref q_8, .ref q_14, .ref q_19], cInt E q_1 96 (fun _ => 0), cObj q_2 2 [.ref b_3, .ref c_4, .ref d_5], cBoo E b_3 24 (fun _ => false), cLng E c_4 96 (fun _ => 0), cLng E d_5 96 (fun _ => 0), cObj q_8 2 [.ref b_9, .ref c_10, .ref d_11], cBoo E b_9 24 (fun _ => false), cLng E c_10 96 (fun _ => 0), cLng E d_11 96 (fun _ => 0), cObj q_14 0 [.int (bI false), .ref b_15, .ref c_16], cLng E b_15 4 (fun _ => 0), cLng E c_16 4 (fun _ => 0), cObj q_19 1 [.int (bI true), .long 0, .long 0]] dX3_init_68 zin_X3_init_X3 tyX3_ok nmX3 rfl rfl (by decide) zm_X3_init_f44 rfl rfl rfl (by decide +kernel) rfl rfl (Nat.le_of_ble_eq_true rfl) rfl ?_
  exact k_vret F Rr (pc := 71) dX3_init_71 ⟨(fun k => [a, q_1, q_2, b_3, c_4, d_5, q_8, b_9, c_10, d_11, q_14, b_15, c_16, q_19].getD k 0), rfl, rfl, rfl⟩
theorem zm_X4_init_oa : (Cond.methodLink RX4 1 Lib.objectInit : Cond) ∈ wsX4_init := by decide +kernel
theorem zm_X4_init_ob : (Cond.instanceMethod Lib.objectInit : Cond) ∈ wsX4_init := by decide +kernel
theorem zm_X4_init_oc : (Cond.code Lib.objectInit ⟨#[0xb1]⟩ 1 none : Cond) ∈ wsX4_init := by decide +kernel
theorem zm_X4_init_aI : (Cond.arrayClass .int : Cond) ∈ wsX4_init := by decide +kernel
theorem zm_X4_init_f7 : (Cond.fieldLink RX4 7 RX4 "code" "[I" : Cond) ∈ wsX4_init := by decide +kernel
theorem zin_X4_init_X4 : ∀ w ∈ u_ws RX4 TX4 15, w ∈ wsX4_init := by decide +kernel
theorem zm_X4_init_aZ : (Cond.arrayClass .boolean : Cond) ∈ wsX4_init := by decide +kernel
theorem zm_X4_init_f13 : (Cond.fieldLink RX4 13 RX4 "on" "[Z" : Cond) ∈ wsX4_init := by decide +kernel
theorem zm_X4_init_aJ : (Cond.arrayClass .long : Cond) ∈ wsX4_init := by decide +kernel
theorem zm_X4_init_f17 : (Cond.fieldLink RX4 17 RX4 "lo" "[J" : Cond) ∈ wsX4_init := by decide +kernel
theorem zm_X4_init_f21 : (Cond.fieldLink RX4 21 RX4 "hi" "[J" : Cond) ∈ wsX4_init := by decide +kernel
theorem zm_X4_init_f24 : (Cond.fieldLink RX4 24 RX4 "newOn" "[Z" : Cond) ∈ wsX4_init := by decide +kernel
theorem zm_X4_init_f27 : (Cond.fieldLink RX4 27 RX4 "newLo" "[J" : Cond) ∈ wsX4_init := by decide +kernel
theorem zm_X4_init_f30 : (Cond.fieldLink RX4 30 RX4 "newHi" "[J" : Cond) ∈ wsX4_init := by decide +kernel
theorem zm_X4_init_f33 : (Cond.fieldLink RX4 33 RX4 "flows" "[Z" : Cond) ∈ wsX4_init := by decide +kernel
theorem zm_X4_init_f36 : (Cond.fieldLink RX4 36 RX4 "tlo" "[J" : Cond) ∈ wsX4_init := by decide +kernel
theorem zm_X4_init_f39 : (Cond.fieldLink RX4 39 RX4 "thi" "[J" : Cond) ∈ wsX4_init := by decide +kernel
theorem zm_X4_init_f42 : (Cond.fieldLink RX4 42 RX4 "n" "I" : Cond) ∈ wsX4_init := by decide +kernel
set_option maxHeartbeats 4000000 in
set_option maxRecDepth 100000 in
theorem m_X4_init (l : Launch) (E : kE) (a : Nat) : kC l yX4_init wsX4_init ({ frames := 1, cells := 10, slots := 546, locals := 12 } : Room) E [.ref a] [cObj a 4 [.null, .int (nI 0), .int (nI 0), .int (bI false), .null, .null, .null, .null, .null, .null, .null, .null, .null, .long 0, .long 0]] 10 546 (fun v_ w_ => ∃ (h : Nat → Nat), h 0 = a ∧ v_ = none ∧ w_ = (wX4 E h (fun _ => 0) 0 0 false (fun _ => false) (fun _ => 0) (fun _ => 0) (fun _ => false) (fun _ => 0) (fun _ => 0) (fun _ => false) (fun _ => 0) (fun _ => 0) 0 0)) := by
  refine kC.enter cX4_init 1 none [(0, .ref a)] (by decide) rfl (Nat.le_of_ble_eq_true rfl) rfl ?_
  intro g F Rr
  refine k_aload_n F (pc := 0) 0 rfl dX4_init_0 rfl ?_
  refine k_objInit F (pc := 1) dX4_init_1 zm_X4_init_oa zm_X4_init_ob zm_X4_init_oc (by decide) (Nat.le_of_ble_eq_true rfl) ?_
  refine k_aload_n F (pc := 4) 0 rfl dX4_init_4 rfl ?_
  refine k_bipush F (pc := 5) ((nI 96)) dX4_init_5 (by decide) ?_
  refine k_newI F (pc := 7) dX4_init_7 zm_X4_init_aI (by decide) (by decide) (by decide) (fun q_1 => ?_)
  show kK g [cObj a 4 [.null, .int (nI 0), .int (nI 0), .int (bI false), .null, .null, .null, .null, .null, .null, .null, .null, .null, .long 0, .long 0], cInt E q_1 96 (fun _ => 0)] [(0, .ref a)] 1 96 9 [.ref q_1, .ref a]
  refine k_putF F Rr (pc := 9) (ref := RX4) (C := RX4) (T := TX4) (N := 15) (ci := 4) (ty := .array .int) (v := .ref q_1) tyX4 0 0 [cObj a 4 [.ref q_1, .int (nI 0), .int (nI 0), .int (bI false), .null, .null, .null, .null, .null, .null, .null, .null, .null, .long 0, .long 0], cInt E q_1 96 (fun _ => 0)] dX4_init_9 zin_X4_init_X4 tyX4_ok nmX4 rfl rfl (by decide) zm_X4_init_f7 rfl rfl rfl (by decide +kernel) rfl rfl (Nat.le_of_ble_eq_true rfl) rfl ?_
  refine k_aload_n F (pc := 12) 0 rfl dX4_init_12 rfl ?_
  refine k_bipush F (pc := 13) ((nI 24)) dX4_init_13 (by decide) ?_
  refine k_newZ F (pc := 15) dX4_init_15 zm_X4_init_aZ (by decide) (by decide) (by decide) (fun q_2 => ?_)
  show kK g [cObj a 4 [.ref q_1, .int (nI 0), .int (nI 0), .int (bI false), .null, .null, .null, .null, .null, .null, .null, .null, .null, .long 0, .long 0], cInt E q_1 96 (fun _ => 0), cBoo E q_2 24 (fun _ => false)] [(0, .ref a)] 2 120 17 [.ref q_2, .ref a]
  refine k_putF F Rr (pc := 17) (ref := RX4) (C := RX4) (T := TX4) (N := 15) (ci := 4) (ty := .array .boolean) (v := .ref q_2) tyX4 0 4 [cObj a 4 [.ref q_1, .int (nI 0), .int (nI 0), .int (bI false), .ref q_2, .null, .null, .null, .null, .null, .null, .null, .null, .long 0, .long 0], cInt E q_1 96 (fun _ => 0), cBoo E q_2 24 (fun _ => false)] dX4_init_17 zin_X4_init_X4 tyX4_ok nmX4 rfl rfl (by decide) zm_X4_init_f13 rfl rfl rfl (by decide +kernel) rfl rfl (Nat.le_of_ble_eq_true rfl) rfl ?_
  refine k_aload_n F (pc := 20) 0 rfl dX4_init_20 rfl ?_
  refine k_bipush F (pc := 21) ((nI 96)) dX4_init_21 (by decide) ?_
  refine k_newJ F (pc := 23) dX4_init_23 zm_X4_init_aJ (by decide) (by decide) (by decide) (fun q_3 => ?_)
  show kK g [cObj a 4 [.ref q_1, .int (nI 0), .int (nI 0), .int (bI false), .ref q_2, .null, .null, .null, .null, .null, .null, .null, .null, .long 0, .long 0], cInt E q_1 96 (fun _ => 0), cBoo E q_2 24 (fun _ => false), cLng E q_3 96 (fun _ => 0)] [(0, .ref a)] 3 216 25 [.ref q_3, .ref a]
  refine k_putF F Rr (pc := 25) (ref := RX4) (C := RX4) (T := TX4) (N := 15) (ci := 4) (ty := .array .long) (v := .ref q_3) tyX4 0 5 [cObj a 4 [.ref q_1, .int (nI 0), .int (nI 0), .int (bI false), .ref q_2, .ref q_3, .null, .null, .null, .null, .null, .null, .null, .long 0, .long 0], cInt E q_1 96 (fun _ => 0), cBoo E q_2 24 (fun _ => false), cLng E q_3 96 (fun _ => 0)] dX4_init_25 zin_X4_init_X4 tyX4_ok nmX4 rfl rfl (by decide) zm_X4_init_f17 rfl rfl rfl (by decide +kernel) rfl rfl (Nat.le_of_ble_eq_true rfl) rfl ?_
  refine k_aload_n F (pc := 28) 0 rfl dX4_init_28 rfl ?_
  refine k_bipush F (pc := 29) ((nI 96)) dX4_init_29 (by decide) ?_
  refine k_newJ F (pc := 31) dX4_init_31 zm_X4_init_aJ (by decide) (by decide) (by decide) (fun q_4 => ?_)
  show kK g [cObj a 4 [.ref q_1, .int (nI 0), .int (nI 0), .int (bI false), .ref q_2, .ref q_3, .null, .null, .null, .null, .null, .null, .null, .long 0, .long 0], cInt E q_1 96 (fun _ => 0), cBoo E q_2 24 (fun _ => false), cLng E q_3 96 (fun _ => 0), cLng E q_4 96 (fun _ => 0)] [(0, .ref a)] 4 312 33 [.ref q_4, .ref a]
  refine k_putF F Rr (pc := 33) (ref := RX4) (C := RX4) (T := TX4) (N := 15) (ci := 4) (ty := .array .long) (v := .ref q_4) tyX4 0 6 [cObj a 4 [.ref q_1, .int (nI 0), .int (nI 0), .int (bI false), .ref q_2, .ref q_3, .ref q_4, .null, .null, .null, .null, .null, .null, .long 0, .long 0], cInt E q_1 96 (fun _ => 0), cBoo E q_2 24 (fun _ => false), cLng E q_3 96 (fun _ => 0), cLng E q_4 96 (fun _ => 0)] dX4_init_33 zin_X4_init_X4 tyX4_ok nmX4 rfl rfl (by decide) zm_X4_init_f21 rfl rfl rfl (by decide +kernel) rfl rfl (Nat.le_of_ble_eq_true rfl) rfl ?_
  refine k_aload_n F (pc := 36) 0 rfl dX4_init_36 rfl ?_
  refine k_bipush F (pc := 37) ((nI 24)) dX4_init_37 (by decide) ?_
  refine k_newZ F (pc := 39) dX4_init_39 zm_X4_init_aZ (by decide) (by decide) (by decide) (fun q_5 => ?_)
  show kK g [cObj a 4 [.ref q_1, .int (nI 0), .int (nI 0), .int (bI false), .ref q_2, .ref q_3, .ref q_4, .null, .null, .null, .null, .null, .null, .long 0, .long 0], cInt E q_1 96 (fun _ => 0), cBoo E q_2 24 (fun _ => false), cLng E q_3 96 (fun _ => 0), cLng E q_4 96 (fun _ => 0), cBoo E q_5 24 (fun _ => false)] [(0, .ref a)] 5 336 41 [.ref q_5, .ref a]
  refine k_putF F Rr (pc := 41) (ref := RX4) (C := RX4) (T := TX4) (N := 15) (ci := 4) (ty := .array .boolean) (v := .ref q_5) tyX4 0 7 [cObj a 4 [.ref q_1, .int (nI 0), .int (nI 0), .int (bI false), .ref q_2, .ref q_3, .ref q_4, .ref q_5, .null, .null, .null, .null, .null, .long 0, .long 0], cInt E q_1 96 (fun _ => 0), cBoo E q_2 24 (fun _ => false), cLng E q_3 96 (fun _ => 0), cLng E q_4 96 (fun _ => 0), cBoo E q_5 24 (fun _ => false)] dX4_init_41 zin_X4_init_X4 tyX4_ok nmX4 rfl rfl (by decide) zm_X4_init_f24 rfl rfl rfl (by decide +kernel) rfl rfl (Nat.le_of_ble_eq_true rfl) rfl ?_
  refine k_aload_n F (pc := 44) 0 rfl dX4_init_44 rfl ?_
  refine k_bipush F (pc := 45) ((nI 96)) dX4_init_45 (by decide) ?_
  refine k_newJ F (pc := 47) dX4_init_47 zm_X4_init_aJ (by decide) (by decide) (by decide) (fun q_6 => ?_)
  show kK g [cObj a 4 [.ref q_1, .int (nI 0), .int (nI 0), .int (bI false), .ref q_2, .ref q_3, .ref q_4, .ref q_5, .null, .null, .null, .null, .null, .long 0, .long 0], cInt E q_1 96 (fun _ => 0), cBoo E q_2 24 (fun _ => false), cLng E q_3 96 (fun _ => 0), cLng E q_4 96 (fun _ => 0), cBoo E q_5 24 (fun _ => false), cLng E q_6 96 (fun _ => 0)] [(0, .ref a)] 6 432 49 [.ref q_6, .ref a]
  refine k_putF F Rr (pc := 49) (ref := RX4) (C := RX4) (T := TX4) (N := 15) (ci := 4) (ty := .array .long) (v := .ref q_6) tyX4 0 8 [cObj a 4 [.ref q_1, .int (nI 0), .int (nI 0), .int (bI false), .ref q_2, .ref q_3, .ref q_4, .ref q_5, .ref q_6, .null, .null, .null, .null, .long 0, .long 0], cInt E q_1 96 (fun _ => 0), cBoo E q_2 24 (fun _ => false), cLng E q_3 96 (fun _ => 0), cLng E q_4 96 (fun _ => 0), cBoo E q_5 24 (fun _ => false), cLng E q_6 96 (fun _ => 0)] dX4_init_49 zin_X4_init_X4 tyX4_ok nmX4 rfl rfl (by decide) zm_X4_init_f27 rfl rfl rfl (by decide +kernel) rfl rfl (Nat.le_of_ble_eq_true rfl) rfl ?_
  refine k_aload_n F (pc := 52) 0 rfl dX4_init_52 rfl ?_
  refine k_bipush F (pc := 53) ((nI 96)) dX4_init_53 (by decide) ?_
  refine k_newJ F (pc := 55) dX4_init_55 zm_X4_init_aJ (by decide) (by decide) (by decide) (fun q_7 => ?_)
  show kK g [cObj a 4 [.ref q_1, .int (nI 0), .int (nI 0), .int (bI false), .ref q_2, .ref q_3, .ref q_4, .ref q_5, .ref q_6, .null, .null, .null, .null, .long 0, .long 0], cInt E q_1 96 (fun _ => 0), cBoo E q_2 24 (fun _ => false), cLng E q_3 96 (fun _ => 0), cLng E q_4 96 (fun _ => 0), cBoo E q_5 24 (fun _ => false), cLng E q_6 96 (fun _ => 0), cLng E q_7 96 (fun _ => 0)] [(0, .ref a)] 7 528 57 [.ref q_7, .ref a]
  refine k_putF F Rr (pc := 57) (ref := RX4) (C := RX4) (T := TX4) (N := 15) (ci := 4) (ty := .array .long) (v := .ref q_7) tyX4 0 9 [cObj a 4 [.ref q_1, .int (nI 0), .int (nI 0), .int (bI false), .ref q_2, .ref q_3, .ref q_4, .ref q_5, .ref q_6, .ref q_7, .null, .null, .null, .long 0, .long 0], cInt E q_1 96 (fun _ => 0), cBoo E q_2 24 (fun _ => false), cLng E q_3 96 (fun _ => 0), cLng E q_4 96 (fun _ => 0), cBoo E q_5 24 (fun _ => false), cLng E q_6 96 (fun _ => 0), cLng E q_7 96 (fun _ => 0)] dX4_init_57 zin_X4_init_X4 tyX4_ok nmX4 rfl rfl (by decide) zm_X4_init_f30 rfl rfl rfl (by decide +kernel) rfl rfl (Nat.le_of_ble_eq_true rfl) rfl ?_
  refine k_aload_n F (pc := 60) 0 rfl dX4_init_60 rfl ?_
  refine k_iconst F (pc := 61) ((nI 2)) dX4_init_61 (by decide) ?_
  refine k_newZ F (pc := 62) dX4_init_62 zm_X4_init_aZ (by decide) (by decide) (by decide) (fun q_8 => ?_)
  show kK g [cObj a 4 [.ref q_1, .int (nI 0), .int (nI 0), .int (bI false), .ref q_2, .ref q_3, .ref q_4, .ref q_5, .ref q_6, .ref q_7, .null, .null, .null, .long 0, .long 0], cInt E q_1 96 (fun _ => 0), cBoo E q_2 24 (fun _ => false), cLng E q_3 96 (fun _ => 0), cLng E q_4 96 (fun _ => 0), cBoo E q_5 24 (fun _ => false), cLng E q_6 96 (fun _ => 0), cLng E q_7 96 (fun _ => 0), cBoo E q_8 2 (fun _ => false)] [(0, .ref a)] 8 530 64 [.ref q_8, .ref a]
  refine k_putF F Rr (pc := 64) (ref := RX4) (C := RX4) (T := TX4) (N := 15) (ci := 4) (ty := .array .boolean) (v := .ref q_8) tyX4 0 10 [cObj a 4 [.ref q_1, .int (nI 0), .int (nI 0), .int (bI false), .ref q_2, .ref q_3, .ref q_4, .ref q_5, .ref q_6, .ref q_7, .ref q_8, .null, .null, .long 0, .long 0], cInt E q_1 96 (fun _ => 0), cBoo E q_2 24 (fun _ => false), cLng E q_3 96 (fun _ => 0), cLng E q_4 96 (fun _ => 0), cBoo E q_5 24 (fun _ => false), cLng E q_6 96 (fun _ => 0), cLng E q_7 96 (fun _ => 0), cBoo E q_8 2 (fun _ => false)] dX4_init_64 zin_X4_init_X4 tyX4_ok nmX4 rfl rfl (by decide) zm_X4_init_f33 rfl rfl rfl (by decide +kernel) rfl rfl (Nat.le_of_ble_eq_true rfl) rfl ?_
  refine k_aload_n F (pc := 67) 0 rfl dX4_init_67 rfl ?_
  refine k_bipush F (pc := 68) ((nI 8)) dX4_init_68 (by decide) ?_
  refine k_newJ F (pc := 70) dX4_init_70 zm_X4_init_aJ (by decide) (by decide) (by decide) (fun q_9 => ?_)
  show kK g [cObj a 4 [.ref q_1, .int (nI 0), .int (nI 0), .int (bI false), .ref q_2, .ref q_3, .ref q_4, .ref q_5, .ref q_6, .ref q_7, .ref q_8, .null, .null, .long 0, .long 0], cInt E q_1 96 (fun _ => 0), cBoo E q_2 24 (fun _ => false), cLng E q_3 96 (fun _ => 0), cLng E q_4 96 (fun _ => 0), cBoo E q_5 24 (fun _ => false), cLng E q_6 96 (fun _ => 0), cLng E q_7 96 (fun _ => 0), cBoo E q_8 2 (fun _ => false), cLng E q_9 8 (fun _ => 0)] [(0, .ref a)] 9 538 72 [.ref q_9, .ref a]
  refine k_putF F Rr (pc := 72) (ref := RX4) (C := RX4) (T := TX4) (N := 15) (ci := 4) (ty := .array .long) (v := .ref q_9) tyX4 0 11 [cObj a 4 [.ref q_1, .int (nI 0), .int (nI 0), .int (bI false), .ref q_2, .ref q_3, .ref q_4, .ref q_5, .ref q_6, .ref q_7, .ref q_8, .ref q_9, .null, .long 0, .long 0], cInt E q_1 96 (fun _ => 0), cBoo E q_2 24 (fun _ => false), cLng E q_3 96 (fun _ => 0), cLng E q_4 96 (fun _ => 0), cBoo E q_5 24 (fun _ => false), cLng E q_6 96 (fun _ => 0), cLng E q_7 96 (fun _ => 0), cBoo E q_8 2 (fun _ => false), cLng E q_9 8 (fun _ => 0)] dX4_init_72 zin_X4_init_X4 tyX4_ok nmX4 rfl rfl (by decide) zm_X4_init_f36 rfl rfl rfl (by decide +kernel) rfl rfl (Nat.le_of_ble_eq_true rfl) rfl ?_
  refine k_aload_n F (pc := 75) 0 rfl dX4_init_75 rfl ?_
  refine k_bipush F (pc := 76) ((nI 8)) dX4_init_76 (by decide) ?_
  refine k_newJ F (pc := 78) dX4_init_78 zm_X4_init_aJ (by decide) (by decide) (by decide) (fun q_10 => ?_)
  show kK g [cObj a 4 [.ref q_1, .int (nI 0), .int (nI 0), .int (bI false), .ref q_2, .ref q_3, .ref q_4, .ref q_5, .ref q_6, .ref q_7, .ref q_8, .ref q_9, .null, .long 0, .long 0], cInt E q_1 96 (fun _ => 0), cBoo E q_2 24 (fun _ => false), cLng E q_3 96 (fun _ => 0), cLng E q_4 96 (fun _ => 0), cBoo E q_5 24 (fun _ => false), cLng E q_6 96 (fun _ => 0), cLng E q_7 96 (fun _ => 0), cBoo E q_8 2 (fun _ => false), cLng E q_9 8 (fun _ => 0), cLng E q_10 8 (fun _ => 0)] [(0, .ref a)] 10 546 80 [.ref q_10, .ref a]
  refine k_putF F Rr (pc := 80) (ref := RX4) (C := RX4) (T := TX4) (N := 15) (ci := 4) (ty := .array .long) (v := .ref q_10) tyX4 0 12 [cObj a 4 [.ref q_1, .int (nI 0), .int (nI 0), .int (bI false), .ref q_2, .ref q_3, .ref q_4, .ref q_5, .ref q_6, .ref q_7, .ref q_8, .ref q_9, .ref q_10, .long 0, .long 0], cInt E q_1 96 (fun _ => 0), cBoo E q_2 24 (fun _ => false), cLng E q_3 96 (fun _ => 0), cLng E q_4 96 (fun _ => 0), cBoo E q_5 24 (fun _ => false), cLng E q_6 96 (fun _ => 0), cLng E q_7 96 (fun _ => 0), cBoo E q_8 2 (fun _ => false), cLng E q_9 8 (fun _ => 0), cLng E q_10 8 (fun _ => 0)] dX4_init_80 zin_X4_init_X4 tyX4_ok nmX4 rfl rfl (by decide) zm_X4_init_f39 rfl rfl rfl (by decide +kernel) rfl rfl (Nat.le_of_ble_eq_true rfl) rfl ?_
  refine k_aload_n F (pc := 83) 0 rfl dX4_init_83 rfl ?_
  refine k_iconst F (pc := 84) ((nI 0)) dX4_init_84 (by decide) ?_
  refine k_put F (pc := 85) (ref := RX4) (C := RX4) (T := TX4) (N := 15) (ci := 4) (ty := .int) (v := .int (nI 0)) tyX4 0 1 [cObj a 4 [.ref q_1, .int (nI 0), .int (nI 0), .int (bI false), .ref q_2, .ref q_3, .ref q_4, .ref q_5, .ref q_6, .ref q_7, .ref q_8, .ref q_9, .ref q_10, .long 0, .long 0], cInt E q_1 96 (fun _ => 0), cBoo E q_2 24 (fun _ => false), cLng E q_3 96 (fun _ => 0), cLng E q_4 96 (fun _ => 0), cBoo E q_5 24 (fun _ => false), cLng E q_6 96 (fun _ => 0), cLng E q_7 96 (fun _ => 0), cBoo E q_8 2 (fun _ => false), cLng E q_9 8 (fun _ => 0), cLng E q_10 8 (fun _ => 0)] dX4_init_85 zin_X4_init_X4 tyX4_ok nmX4 rfl rfl (by decide) zm_X4_init_f42 rfl rfl (by decide +kernel) rfl rfl (Nat.le_of_ble_eq_true rfl) rfl ?_
  exact k_vret F Rr (pc := 88) dX4_init_88 ⟨(fun k => [a, q_1, q_2, q_3, q_4, q_5, q_6, q_7, q_8, q_9, q_10].getD k 0), rfl, rfl, rfl⟩
