theorem zm_X2_isSomewhere_f9 : (Cond.fieldLink RX2 9 RX2 "somewhere" "[Z" : Cond) ∈ wsX2_isSomewhere := by decide +kernel
theorem zin_X2_isSomewhere_X2 : ∀ w ∈ u_ws RX2 TX2 3, w ∈ wsX2_isSomewhere := by decide +kernel
set_option maxHeartbeats 4000000 in
set_option maxRecDepth 100000 in
theorem m_X2_isSomewhere (l : Launch) (E : kE) (a : Nat) (b : Nat) (c : Nat) (d : Nat) (on : Nat → Bool) (lo : Nat → Int64) (hi : Nat → Int64) (p : Nat) (hp : p < 24) : kC l yX2_isSomewhere wsX2_isSomewhere ({ frames := 0, cells := 0, slots := 0, locals := 0 } : Room) E [.ref a, .int (nI p)] (wX2 E a b c d on lo hi) 0 0 (fun v_ w_ => v_ = some (.int (bI (on p))) ∧ w_ = (wX2 E a b c d on lo hi)) := by
  refine kC.enter cX2_isSomewhere 2 (some .boolean) [(0, .ref a), (1, .int (nI p))] (by decide) rfl (Nat.le_of_ble_eq_true rfl) rfl ?_
  intro g F Rr
  refine k_aload_n F (pc := 0) 0 rfl dX2_isSomewhere_0 rfl ?_
  refine k_get F (pc := 1) (ref := RX2) (C := RX2) (T := TX2) (N := 3) (ci := 2) 0 0 dX2_isSomewhere_1 zin_X2_isSomewhere_X2 rfl rfl (by decide) zm_X2_isSomewhere_f9 rfl rfl ?_
  refine k_iload_n F (pc := 4) 1 rfl dX2_isSomewhere_4 rfl ?_
  refine k_zald F (pc := 5) 1 dX2_isSomewhere_5 rfl (by omega) (by decide) ?_
  exact k_zret F Rr (pc := 6) (on p) dX2_isSomewhere_6 rfl ⟨rfl, rfl⟩
theorem zm_X2_lowOf_f15 : (Cond.fieldLink RX2 15 RX2 "lows" "[J" : Cond) ∈ wsX2_lowOf := by decide +kernel
theorem zin_X2_lowOf_X2 : ∀ w ∈ u_ws RX2 TX2 3, w ∈ wsX2_lowOf := by decide +kernel
set_option maxHeartbeats 4000000 in
set_option maxRecDepth 100000 in
theorem m_X2_lowOf (l : Launch) (E : kE) (a : Nat) (b : Nat) (c : Nat) (d : Nat) (on : Nat → Bool) (lo : Nat → Int64) (hi : Nat → Int64) (p : Nat) (v : Nat) (hp : p < 24) (hv : v < 4) : kC l yX2_lowOf wsX2_lowOf ({ frames := 0, cells := 0, slots := 0, locals := 0 } : Room) E [.ref a, .int (nI p), .int (nI v)] (wX2 E a b c d on lo hi) 0 0 (fun v_ w_ => v_ = some (.long (lo (4 * p + v))) ∧ w_ = (wX2 E a b c d on lo hi)) := by
  refine kC.enter cX2_lowOf 3 (some .long) [(0, .ref a), (1, .int (nI p)), (2, .int (nI v))] (by decide) rfl (Nat.le_of_ble_eq_true rfl) rfl ?_
  intro g F Rr
  refine k_aload_n F (pc := 0) 0 rfl dX2_lowOf_0 rfl ?_
  refine k_get F (pc := 1) (ref := RX2) (C := RX2) (T := TX2) (N := 3) (ci := 2) 0 1 dX2_lowOf_1 zin_X2_lowOf_X2 rfl rfl (by decide) zm_X2_lowOf_f15 rfl rfl ?_
  refine k_iload_n F (pc := 4) 1 rfl dX2_lowOf_4 rfl ?_
  refine k_iconst F (pc := 5) ((nI 4)) dX2_lowOf_5 (by decide) ?_
  refine k_imulC F (pc := 6) dX2_lowOf_6 ?_
  refine k_iload_n F (pc := 7) 2 rfl dX2_lowOf_7 rfl ?_
  refine k_iaddN F (pc := 8) dX2_lowOf_8 ?_
  refine k_lald F (pc := 9) 2 dX2_lowOf_9 rfl (by omega) (by decide) ?_
  exact k_lret F Rr (pc := 10) dX2_lowOf_10 ⟨rfl, rfl⟩
theorem zm_X2_highOf_f19 : (Cond.fieldLink RX2 19 RX2 "highs" "[J" : Cond) ∈ wsX2_highOf := by decide +kernel
theorem zin_X2_highOf_X2 : ∀ w ∈ u_ws RX2 TX2 3, w ∈ wsX2_highOf := by decide +kernel
set_option maxHeartbeats 4000000 in
set_option maxRecDepth 100000 in
theorem m_X2_highOf (l : Launch) (E : kE) (a : Nat) (b : Nat) (c : Nat) (d : Nat) (on : Nat → Bool) (lo : Nat → Int64) (hi : Nat → Int64) (p : Nat) (v : Nat) (hp : p < 24) (hv : v < 4) : kC l yX2_highOf wsX2_highOf ({ frames := 0, cells := 0, slots := 0, locals := 0 } : Room) E [.ref a, .int (nI p), .int (nI v)] (wX2 E a b c d on lo hi) 0 0 (fun v_ w_ => v_ = some (.long (hi (4 * p + v))) ∧ w_ = (wX2 E a b c d on lo hi)) := by
  refine kC.enter cX2_highOf 3 (some .long) [(0, .ref a), (1, .int (nI p)), (2, .int (nI v))] (by decide) rfl (Nat.le_of_ble_eq_true rfl) rfl ?_
  intro g F Rr
  refine k_aload_n F (pc := 0) 0 rfl dX2_highOf_0 rfl ?_
  refine k_get F (pc := 1) (ref := RX2) (C := RX2) (T := TX2) (N := 3) (ci := 2) 0 2 dX2_highOf_1 zin_X2_highOf_X2 rfl rfl (by decide) zm_X2_highOf_f19 rfl rfl ?_
  refine k_iload_n F (pc := 4) 1 rfl dX2_highOf_4 rfl ?_
  refine k_iconst F (pc := 5) ((nI 4)) dX2_highOf_5 (by decide) ?_
  refine k_imulC F (pc := 6) dX2_highOf_6 ?_
  refine k_iload_n F (pc := 7) 2 rfl dX2_highOf_7 rfl ?_
  refine k_iaddN F (pc := 8) dX2_highOf_8 ?_
  refine k_lald F (pc := 9) 3 dX2_highOf_9 rfl (by omega) (by decide) ?_
  exact k_lret F Rr (pc := 10) dX2_highOf_10 ⟨rfl, rfl⟩
theorem zm_X2_begin_f15 : (Cond.fieldLink RX2 15 RX2 "lows" "[J" : Cond) ∈ wsX2_begin := by decide +kernel
theorem zin_X2_begin_X2 : ∀ w ∈ u_ws RX2 TX2 3, w ∈ wsX2_begin := by decide +kernel
theorem zm_X2_begin_f19 : (Cond.fieldLink RX2 19 RX2 "highs" "[J" : Cond) ∈ wsX2_begin := by decide +kernel
theorem zm_X2_begin_f9 : (Cond.fieldLink RX2 9 RX2 "somewhere" "[Z" : Cond) ∈ wsX2_begin := by decide +kernel
set_option maxHeartbeats 4000000 in
set_option maxRecDepth 100000 in
theorem m_X2_begin (l : Launch) (E : kE) (a : Nat) (b : Nat) (c : Nat) (d : Nat) (on : Nat → Bool) (lo : Nat → Int64) (hi : Nat → Int64)  : kC l yX2_begin wsX2_begin ({ frames := 0, cells := 0, slots := 0, locals := 0 } : Room) E [.ref a] (wX2 E a b c d on lo hi) 0 0 (fun v_ w_ => ∃ (on1 : Nat → Bool) (lo1 : Nat → Int64) (hi1 : Nat → Int64), v_ = none ∧ w_ = (wX2 E a b c d on1 lo1 hi1) ∧ (Rep on1 lo1 hi1 S0)) := by
  refine kC.enter cX2_begin 2 none [(0, .ref a)] (by decide) rfl (Nat.le_of_ble_eq_true rfl) rfl ?_
  intro g F Rr
  refine k_iconst F (pc := 0) ((nI 0)) dX2_begin_0 (by decide) ?_
  refine k_istore_n F (pc := 1) [(1, .int (nI 0)), (0, .ref a)] dX2_begin_1 rfl (by decide) rfl ?_
  have L2 : ∀ (d_ : Nat) (i : Nat) (on2 : Nat → Bool), 24 - i < d_ → (i ≤ 24) → (∀ j, j < i → on2 j = decide (j = 0)) → kK g (wX2 E a b c d on2 lo hi) [(0, .ref a), (1, .int (nI i))] 0 0 2 [] := by
    intro d_
    induction d_ with
    | zero => intro i on2 hm; exact absurd hm (Nat.not_lt_zero _)
    | succ d_ ih2 =>
      intro i on2 hm2 hi24 hon
      refine k_iload_n F (pc := 2) 1 rfl dX2_begin_2 rfl ?_
      refine k_bipush F (pc := 3) ((nI 24)) dX2_begin_3 (by decide) ?_
      refine k_icmp_ge F (pc := 5) 29 dX2_begin_5 (by decide) (nI_toInt (by omega)) (show (nI 24 : Int32).toInt = 24 by decide) (fun c_1 => ?_) (fun c_1 => ?_)
      · skip
        refine k_iconst F (pc := 29) ((nI 0)) dX2_begin_29 (by decide) ?_
        refine k_istore_n F (pc := 30) [(1, .int (nI 0)), (0, .ref a)] dX2_begin_30 rfl (by decide) rfl ?_
        have L31 : ∀ (d_ : Nat) (i : Nat) (lo2 : Nat → Int64) (hi2 : Nat → Int64), 4 - i < d_ → (i ≤ 4) → (∀ j, j < i → lo2 j = 0 ∧ hi2 j = 0) → kK g (wX2 E a b c d on2 lo2 hi2) [(0, .ref a), (1, .int (nI i))] 0 0 31 [] := by
          intro d_
          induction d_ with
          | zero => intro i lo2 hi2 hm; exact absurd hm (Nat.not_lt_zero _)
          | succ d_ ih31 =>
            intro i lo2 hi2 hm31 hi4 hlo
            refine k_iload_n F (pc := 31) 1 rfl dX2_begin_31 rfl ?_
            refine k_iconst F (pc := 32) ((nI 4)) dX2_begin_32 (by decide) ?_
            refine k_icmp_ge F (pc := 33) 56 dX2_begin_33 (by decide) (nI_toInt (by omega)) (show (nI 4 : Int32).toInt = 4 by decide) (fun c_2 => ?_) (fun c_2 => ?_)
            · skip
              refine k_vret F Rr (pc := 56) dX2_begin_56 ⟨on2, lo2, hi2, rfl, rfl, ?_⟩
              refine rep_S0 (fun j hj => hon j (by omega)) (fun j hj => hlo j (by omega))
            · skip
              refine k_aload_n F (pc := 36) 0 rfl dX2_begin_36 rfl ?_
              refine k_get F (pc := 37) (ref := RX2) (C := RX2) (T := TX2) (N := 3) (ci := 2) 0 1 dX2_begin_37 zin_X2_begin_X2 rfl rfl (by decide) zm_X2_begin_f15 rfl rfl ?_
              refine k_iload_n F (pc := 40) 1 rfl dX2_begin_40 rfl ?_
              refine k_lconst F (pc := 41) 0 dX2_begin_41 (by decide) ?_
              refine k_last F (pc := 42) 2 (fun lo_3 => (wX2 E a b c d on2 lo_3 hi2)) dX2_begin_42 rfl (by omega) (by decide) (fun _ => rfl) (fun lo_3 elo_3 => ?_)
              refine k_aload_n F (pc := 43) 0 rfl dX2_begin_43 rfl ?_
              refine k_get F (pc := 44) (ref := RX2) (C := RX2) (T := TX2) (N := 3) (ci := 2) 0 2 dX2_begin_44 zin_X2_begin_X2 rfl rfl (by decide) zm_X2_begin_f19 rfl rfl ?_
              refine k_iload_n F (pc := 47) 1 rfl dX2_begin_47 rfl ?_
              refine k_lconst F (pc := 48) 0 dX2_begin_48 (by decide) ?_
              refine k_last F (pc := 49) 3 (fun hi_4 => (wX2 E a b c d on2 lo_3 hi_4)) dX2_begin_49 rfl (by omega) (by decide) (fun _ => rfl) (fun hi_4 ehi_4 => ?_)
              refine k_iinc F (pc := 50) 1 ((nI (i + 1))) [(1, .int (nI (i + 1))), (0, .ref a)] dX2_begin_50 rfl (nI_1 i) (by decide) rfl ?_
              refine k_goto F (pc := 53) 31 dX2_begin_53 (by decide) ?_
              refine k_lv [(0, .ref a), (1, .int (nI (i + 1)))] [1, 0] rfl ?_
              exact ih31 (i + 1) lo_3 hi_4 (by omega) (by omega) (by (try subst_vars); intro j hj; by_cases h : j = i <;> simp_all [vp_updL] <;> (apply hlo; omega))
        refine k_lv [(0, .ref a), (1, .int (nI 0))] [1, 0] rfl ?_
        exact L31 (4 - 0 + 1) 0 lo hi (Nat.lt_succ_self _) (by omega) (by intro j hj; omega)
      · skip
        refine k_aload_n F (pc := 8) 0 rfl dX2_begin_8 rfl ?_
        refine k_get F (pc := 9) (ref := RX2) (C := RX2) (T := TX2) (N := 3) (ci := 2) 0 0 dX2_begin_9 zin_X2_begin_X2 rfl rfl (by decide) zm_X2_begin_f9 rfl rfl ?_
        refine k_iload_n F (pc := 12) 1 rfl dX2_begin_12 rfl ?_
        refine k_iload_n F (pc := 13) 1 rfl dX2_begin_13 rfl ?_
        refine k_if_ne F (pc := 14) 21 dX2_begin_14 (by decide) (nI_toInt (by omega)) (fun c_5 => ?_) (fun c_5 => ?_)
        · skip
          refine k_iconst F (pc := 21) ((nI 0)) dX2_begin_21 (by decide) ?_
          refine k_zast F (pc := 22) false 1 (fun on_6 => (wX2 E a b c d on_6 lo hi)) dX2_begin_22 rfl rfl (by omega) (by decide) (fun _ => rfl) (fun on_6 eon_6 => ?_)
          refine k_iinc F (pc := 23) 1 ((nI (i + 1))) [(1, .int (nI (i + 1))), (0, .ref a)] dX2_begin_23 rfl (nI_1 i) (by decide) rfl ?_
          refine k_goto F (pc := 26) 2 dX2_begin_26 (by decide) ?_
          refine k_lv [(0, .ref a), (1, .int (nI (i + 1)))] [1, 0] rfl ?_
          exact ih2 (i + 1) on_6 (by omega) (by omega) (by exact upB_step (P := fun j => decide (j = 0)) (by assumption) hon (by first | (rw [eq_comm, decide_eq_true_iff]; omega) | (rw [eq_comm, decide_eq_false_iff_not]; omega)))
        · skip
          refine k_iconst F (pc := 17) ((nI 1)) dX2_begin_17 (by decide) ?_
          refine k_goto F (pc := 18) 22 dX2_begin_18 (by decide) ?_
          refine k_zast F (pc := 22) true 1 (fun on_7 => (wX2 E a b c d on_7 lo hi)) dX2_begin_22 rfl rfl (by omega) (by decide) (fun _ => rfl) (fun on_7 eon_7 => ?_)
          refine k_iinc F (pc := 23) 1 ((nI (i + 1))) [(1, .int (nI (i + 1))), (0, .ref a)] dX2_begin_23 rfl (nI_1 i) (by decide) rfl ?_
          refine k_goto F (pc := 26) 2 dX2_begin_26 (by decide) ?_
          refine k_lv [(0, .ref a), (1, .int (nI (i + 1)))] [1, 0] rfl ?_
          exact ih2 (i + 1) on_7 (by omega) (by omega) (by exact upB_step (P := fun j => decide (j = 0)) (by assumption) hon (by first | (rw [eq_comm, decide_eq_true_iff]; omega) | (rw [eq_comm, decide_eq_false_iff_not]; omega)))
  refine k_lv [(0, .ref a), (1, .int (nI 0))] [1, 0] rfl ?_
  exact L2 (24 - 0 + 1) 0 on (Nat.lt_succ_self _) (by omega) (by intro j hj; omega)
set_option maxHeartbeats 4000000 in
set_option maxRecDepth 100000 in
theorem m_X2_copyTo (l : Launch) (E : kE) (a : Nat) (b : Nat) (c : Nat) (d : Nat) (on : Nat → Bool) (lo : Nat → Int64) (hi : Nat → Int64) (fa : Nat) (fb : Nat) (fc : Nat) (fs : Bool) (lf : Nat → Int64) (hf : Nat → Int64) (p : Nat) (hp : p < 24) : kC l yX2_copyTo wsX2_copyTo ({ frames := 1, cells := 0, slots := 0, locals := 25 } : Room) E [.ref a, .ref fa, .int (nI p)] (wX20 E a b c d on lo hi fa fb fc fs lf hf) 0 0 (fun v_ w_ => ∃ (lf1 : Nat → Int64) (hf1 : Nat → Int64), v_ = none ∧ w_ = (wX20 E a b c d on lo hi fa fb fc true lf1 hf1) ∧ (∀ v, v < 4 → lf1 v = lo (4 * p + v) ∧ hf1 v = hi (4 * p + v))) := by
  refine kC.enter cX2_copyTo 4 none [(0, .ref a), (1, .ref fa), (2, .int (nI p))] (by decide) rfl (Nat.le_of_ble_eq_true rfl) rfl ?_
  intro g F Rr
  refine k_aload_n F (pc := 0) 1 rfl dX2_copyTo_0 rfl ?_
  refine k_callV F (pc := 1) (C := RX0) (T := TX0) (N := 3) (ci := 0) [] [] 0 (wX0 E fa fb fc fs lf hf) [cObj a 2 [.ref b, .ref c, .ref d], cBoo E b 24 on, cLng E c 96 lo, cLng E d 96 hi] [4, 5, 6] [0, 1, 2, 3] (m_X0_start l E fa fb fc fs lf hf) dX2_copyTo_1 gX2_copyTo_X0_start rfl (by decide +kernel) rfl ⟨rfl, rfl⟩ (by decide) rfl (Nat.le_of_ble_eq_true rfl) (by decide) rfl rfl rfl rfl (by decide) (by decide) (by decide) ?_
  rintro v_1 w_2 ⟨rfl, rfl⟩
  refine k_perm (wX20 E a b c d on lo hi fa fb fc true lf hf) [0, 1, 2, 3, 4, 5, 6] (by decide) rfl ?_
  show kK g (wX20 E a b c d on lo hi fa fb fc true lf hf) [(0, .ref a), (1, .ref fa), (2, .int (nI p))] 0 0 4 []
  refine k_iconst F (pc := 4) ((nI 0)) dX2_copyTo_4 (by decide) ?_
  refine k_istore_n F (pc := 5) [(3, .int (nI 0)), (0, .ref a), (1, .ref fa), (2, .int (nI p))] dX2_copyTo_5 rfl (by decide) rfl ?_
  have L6 : ∀ (d_ : Nat) (i : Nat) (lf2 : Nat → Int64) (hf2 : Nat → Int64), 4 - i < d_ → (i ≤ 4) → (∀ j, j < i → lf2 j = lo (4 * p + j) ∧ hf2 j = hi (4 * p + j)) → kK g (wX20 E a b c d on lo hi fa fb fc true lf2 hf2) [(0, .ref a), (1, .ref fa), (2, .int (nI p)), (3, .int (nI i))] 0 0 6 [] := by
    intro d_
    induction d_ with
    | zero => intro i lf2 hf2 hm; exact absurd hm (Nat.not_lt_zero _)
    | succ d_ ih6 =>
      intro i lf2 hf2 hm6 hi4 hlf
      refine k_iload_n F (pc := 6) 3 rfl dX2_copyTo_6 rfl ?_
      refine k_iconst F (pc := 7) ((nI 4)) dX2_copyTo_7 (by decide) ?_
      refine k_icmp_ge F (pc := 8) 34 dX2_copyTo_8 (by decide) (nI_toInt (by omega)) (show (nI 4 : Int32).toInt = 4 by decide) (fun c_3 => ?_) (fun c_3 => ?_)
      · skip
        refine k_vret F Rr (pc := 34) dX2_copyTo_34 ⟨lf2, hf2, rfl, rfl, ?_⟩
        intro v hv; exact hlf v (by omega)
      · skip
        refine k_aload_n F (pc := 11) 1 rfl dX2_copyTo_11 rfl ?_
        refine k_iload_n F (pc := 12) 3 rfl dX2_copyTo_12 rfl ?_
        refine k_aload_n F (pc := 13) 0 rfl dX2_copyTo_13 rfl ?_
        refine k_iload_n F (pc := 14) 2 rfl dX2_copyTo_14 rfl ?_
        refine k_iload_n F (pc := 15) 3 rfl dX2_copyTo_15 rfl ?_
        refine k_callV F (pc := 16) (C := RX2) (T := TX2) (N := 3) (ci := 2) [.int (nI p), .int (nI i)] [.int (nI i), .ref fa] 2 (wX2 E a b c d on lo hi) [cObj fa 0 [.int (bI true), .ref fb, .ref fc], cLng E fb 4 lf2, cLng E fc 4 hf2] [0, 1, 2, 3] [4, 5, 6] (m_X2_lowOf l E a b c d on lo hi p i (by omega) (by omega)) dX2_copyTo_16 gX2_copyTo_X2_lowOf rfl (by decide +kernel) rfl ⟨rfl, rfl⟩ (by decide) rfl (Nat.le_of_ble_eq_true rfl) (by decide) rfl rfl rfl rfl (by decide) (by decide) (by decide) ?_
        rintro v_4 w_5 ⟨rfl, rfl⟩
        refine k_perm (wX20 E a b c d on lo hi fa fb fc true lf2 hf2) [3, 4, 5, 6, 0, 1, 2] (by decide) rfl ?_
        show kK g (wX20 E a b c d on lo hi fa fb fc true lf2 hf2) [(0, .ref a), (1, .ref fa), (2, .int (nI p)), (3, .int (nI i))] 0 0 19 [.long (lo (4 * p + i)), .int (nI i), .ref fa]
        refine k_aload_n F (pc := 19) 0 rfl dX2_copyTo_19 rfl ?_
        refine k_iload_n F (pc := 20) 2 rfl dX2_copyTo_20 rfl ?_
        refine k_iload_n F (pc := 21) 3 rfl dX2_copyTo_21 rfl ?_
        refine k_callV F (pc := 22) (C := RX2) (T := TX2) (N := 3) (ci := 2) [.int (nI p), .int (nI i)] [.long (lo (4 * p + i)), .int (nI i), .ref fa] 2 (wX2 E a b c d on lo hi) [cObj fa 0 [.int (bI true), .ref fb, .ref fc], cLng E fb 4 lf2, cLng E fc 4 hf2] [0, 1, 2, 3] [4, 5, 6] (m_X2_highOf l E a b c d on lo hi p i (by omega) (by omega)) dX2_copyTo_22 gX2_copyTo_X2_highOf rfl (by decide +kernel) rfl ⟨rfl, rfl⟩ (by decide) rfl (Nat.le_of_ble_eq_true rfl) (by decide) rfl rfl rfl rfl (by decide) (by decide) (by decide) ?_
        rintro v_6 w_7 ⟨rfl, rfl⟩
        refine k_perm (wX20 E a b c d on lo hi fa fb fc true lf2 hf2) [3, 4, 5, 6, 0, 1, 2] (by decide) rfl ?_
        show kK g (wX20 E a b c d on lo hi fa fb fc true lf2 hf2) [(0, .ref a), (1, .ref fa), (2, .int (nI p)), (3, .int (nI i))] 0 0 25 [.long (hi (4 * p + i)), .long (lo (4 * p + i)), .int (nI i), .ref fa]
        refine k_callV F (pc := 25) (C := RX0) (T := TX0) (N := 3) (ci := 0) [.int (nI i), .long (lo (4 * p + i)), .long (hi (4 * p + i))] [] 3 (wX0 E fa fb fc true lf2 hf2) [cObj a 2 [.ref b, .ref c, .ref d], cBoo E b 24 on, cLng E c 96 lo, cLng E d 96 hi] [4, 5, 6] [0, 1, 2, 3] (m_X0_put l E fa fb fc true lf2 hf2 i (lo (4 * p + i)) (hi (4 * p + i)) (by omega)) dX2_copyTo_25 gX2_copyTo_X0_put rfl (by decide +kernel) rfl ⟨rfl, rfl⟩ (by decide) rfl (Nat.le_of_ble_eq_true rfl) (by decide) rfl rfl rfl rfl (by decide) (by decide) (by decide) ?_
        rintro v_8 w_9 ⟨rfl, rfl⟩
        refine k_perm (wX20 E a b c d on lo hi fa fb fc true (vp_updL lf2 i (lo (4 * p + i))) (vp_updL hf2 i (hi (4 * p + i)))) [0, 1, 2, 3, 4, 5, 6] (by decide) rfl ?_
        show kK g (wX20 E a b c d on lo hi fa fb fc true (vp_updL lf2 i (lo (4 * p + i))) (vp_updL hf2 i (hi (4 * p + i)))) [(0, .ref a), (1, .ref fa), (2, .int (nI p)), (3, .int (nI i))] 0 0 28 []
        refine k_iinc F (pc := 28) 3 ((nI (i + 1))) [(3, .int (nI (i + 1))), (0, .ref a), (1, .ref fa), (2, .int (nI p))] dX2_copyTo_28 rfl (nI_1 i) (by decide) rfl ?_
        refine k_goto F (pc := 31) 6 dX2_copyTo_31 (by decide) ?_
        refine k_lv [(0, .ref a), (1, .ref fa), (2, .int (nI p)), (3, .int (nI (i + 1)))] [1, 2, 3, 0] rfl ?_
        exact ih6 (i + 1) (vp_updL lf2 i (lo (4 * p + i))) (vp_updL hf2 i (hi (4 * p + i))) (by omega) (by omega) (by intro j hj; by_cases h : j = i <;> simp_all [vp_updL] <;> (apply hlf; omega))
  refine k_lv [(0, .ref a), (1, .ref fa), (2, .int (nI p)), (3, .int (nI 0))] [1, 2, 3, 0] rfl ?_
  exact L6 (4 - 0 + 1) 0 lf hf (Nat.lt_succ_self _) (by omega) (by intro j hj; omega)
theorem zm_X2_become_f9 : (Cond.fieldLink RX2 9 RX2 "somewhere" "[Z" : Cond) ∈ wsX2_become := by decide +kernel
theorem zin_X2_become_X2 : ∀ w ∈ u_ws RX2 TX2 3, w ∈ wsX2_become := by decide +kernel
theorem zm_X2_become_f15 : (Cond.fieldLink RX2 15 RX2 "lows" "[J" : Cond) ∈ wsX2_become := by decide +kernel
theorem zm_X2_become_f19 : (Cond.fieldLink RX2 19 RX2 "highs" "[J" : Cond) ∈ wsX2_become := by decide +kernel
set_option maxHeartbeats 4000000 in
set_option maxRecDepth 100000 in
theorem m_X2_become (l : Launch) (E : kE) (a : Nat) (b : Nat) (c : Nat) (d : Nat) (on : Nat → Bool) (lo : Nat → Int64) (hi : Nat → Int64) (fa : Nat) (fb : Nat) (fc : Nat) (fs : Bool) (lf : Nat → Int64) (hf : Nat → Int64) (q : Nat) (hq : q < 24) : kC l yX2_become wsX2_become ({ frames := 1, cells := 0, slots := 0, locals := 21 } : Room) E [.ref a, .int (nI q), .ref fa] (wX20 E a b c d on lo hi fa fb fc fs lf hf) 0 0 (fun v_ w_ => ∃ (on1 : Nat → Bool) (lo1 : Nat → Int64) (hi1 : Nat → Int64), v_ = none ∧ w_ = (wX20 E a b c d on1 lo1 hi1 fa fb fc fs lf hf) ∧ (on1 = upB on q true ∧ (∀ v, v < 4 → lo1 (4 * q + v) = lf v ∧ hi1 (4 * q + v) = hf v) ∧ ∀ j, (j < 4 * q ∨ 4 * q + 4 ≤ j) → lo1 j = lo j ∧ hi1 j = hi j)) := by
  refine kC.enter cX2_become 4 none [(0, .ref a), (1, .int (nI q)), (2, .ref fa)] (by decide) rfl (Nat.le_of_ble_eq_true rfl) rfl ?_
  intro g F Rr
  refine k_aload_n F (pc := 0) 0 rfl dX2_become_0 rfl ?_
  refine k_get F (pc := 1) (ref := RX2) (C := RX2) (T := TX2) (N := 3) (ci := 2) 0 0 dX2_become_1 zin_X2_become_X2 rfl rfl (by decide) zm_X2_become_f9 rfl rfl ?_
  refine k_iload_n F (pc := 4) 1 rfl dX2_become_4 rfl ?_
  refine k_iconst F (pc := 5) ((nI 1)) dX2_become_5 (by decide) ?_
  refine k_zast F (pc := 6) true 1 (fun on_1 => (wX20 E a b c d on_1 lo hi fa fb fc fs lf hf)) dX2_become_6 rfl rfl (by omega) (by decide) (fun _ => rfl) (fun on_1 eon_1 => ?_)
  refine k_iconst F (pc := 7) ((nI 0)) dX2_become_7 (by decide) ?_
  refine k_istore_n F (pc := 8) [(3, .int (nI 0)), (0, .ref a), (1, .int (nI q)), (2, .ref fa)] dX2_become_8 rfl (by decide) rfl ?_
  have L9 : ∀ (d_ : Nat) (i : Nat) (lo2 : Nat → Int64) (hi2 : Nat → Int64), 4 - i < d_ → (i ≤ 4) → (∀ j, j < i → lo2 (4 * q + j) = lf j ∧ hi2 (4 * q + j) = hf j) → (∀ j, (j < 4 * q ∨ 4 * q + 4 ≤ j) → lo2 j = lo j ∧ hi2 j = hi j) → kK g (wX20 E a b c d on_1 lo2 hi2 fa fb fc fs lf hf) [(0, .ref a), (1, .int (nI q)), (2, .ref fa), (3, .int (nI i))] 0 0 9 [] := by
    intro d_
    induction d_ with
    | zero => intro i lo2 hi2 hm; exact absurd hm (Nat.not_lt_zero _)
    | succ d_ ih9 =>
      intro i lo2 hi2 hm9 hi4 hlo hot
      refine k_iload_n F (pc := 9) 3 rfl dX2_become_9 rfl ?_
      refine k_iconst F (pc := 10) ((nI 4)) dX2_become_10 (by decide) ?_
      refine k_icmp_ge F (pc := 11) 50 dX2_become_11 (by decide) (nI_toInt (by omega)) (show (nI 4 : Int32).toInt = 4 by decide) (fun c_2 => ?_) (fun c_2 => ?_)
      · skip
        refine k_vret F Rr (pc := 50) dX2_become_50 ⟨on_1, lo2, hi2, rfl, rfl, ?_⟩
        exact ⟨eon_1, fun v hv => hlo v (by omega), hot⟩
      · skip
        refine k_aload_n F (pc := 14) 0 rfl dX2_become_14 rfl ?_
        refine k_get F (pc := 15) (ref := RX2) (C := RX2) (T := TX2) (N := 3) (ci := 2) 0 1 dX2_become_15 zin_X2_become_X2 rfl rfl (by decide) zm_X2_become_f15 rfl rfl ?_
        refine k_iload_n F (pc := 18) 1 rfl dX2_become_18 rfl ?_
        refine k_iconst F (pc := 19) ((nI 4)) dX2_become_19 (by decide) ?_
        refine k_imulC F (pc := 20) dX2_become_20 ?_
        refine k_iload_n F (pc := 21) 3 rfl dX2_become_21 rfl ?_
        refine k_iaddN F (pc := 22) dX2_become_22 ?_
        refine k_aload_n F (pc := 23) 2 rfl dX2_become_23 rfl ?_
        refine k_iload_n F (pc := 24) 3 rfl dX2_become_24 rfl ?_
        refine k_callV F (pc := 25) (C := RX0) (T := TX0) (N := 3) (ci := 0) [.int (nI i)] [.int (nI (4 * q + i)), .ref c] 1 (wX0 E fa fb fc fs lf hf) [cObj a 2 [.ref b, .ref c, .ref d], cBoo E b 24 on_1, cLng E c 96 lo2, cLng E d 96 hi2] [4, 5, 6] [0, 1, 2, 3] (m_X0_lowOf l E fa fb fc fs lf hf i (by omega)) dX2_become_25 gX2_become_X0_lowOf rfl (by decide +kernel) rfl ⟨rfl, rfl⟩ (by decide) rfl (Nat.le_of_ble_eq_true rfl) (by decide) rfl rfl rfl rfl (by decide) (by decide) (by decide) ?_
        rintro v_3 w_4 ⟨rfl, rfl⟩
        refine k_perm (wX20 E a b c d on_1 lo2 hi2 fa fb fc fs lf hf) [0, 1, 2, 3, 4, 5, 6] (by decide) rfl ?_
        show kK g (wX20 E a b c d on_1 lo2 hi2 fa fb fc fs lf hf) [(0, .ref a), (1, .int (nI q)), (2, .ref fa), (3, .int (nI i))] 0 0 28 [.long (lf i), .int (nI (4 * q + i)), .ref c]
        refine k_last F (pc := 28) 2 (fun lo_5 => (wX20 E a b c d on_1 lo_5 hi2 fa fb fc fs lf hf)) dX2_become_28 rfl (by omega) (by decide) (fun _ => rfl) (fun lo_5 elo_5 => ?_)
        refine k_aload_n F (pc := 29) 0 rfl dX2_become_29 rfl ?_
        refine k_get F (pc := 30) (ref := RX2) (C := RX2) (T := TX2) (N := 3) (ci := 2) 0 2 dX2_become_30 zin_X2_become_X2 rfl rfl (by decide) zm_X2_become_f19 rfl rfl ?_
        refine k_iload_n F (pc := 33) 1 rfl dX2_become_33 rfl ?_
        refine k_iconst F (pc := 34) ((nI 4)) dX2_become_34 (by decide) ?_
        refine k_imulC F (pc := 35) dX2_become_35 ?_
        refine k_iload_n F (pc := 36) 3 rfl dX2_become_36 rfl ?_
        refine k_iaddN F (pc := 37) dX2_become_37 ?_
        refine k_aload_n F (pc := 38) 2 rfl dX2_become_38 rfl ?_
        refine k_iload_n F (pc := 39) 3 rfl dX2_become_39 rfl ?_
        refine k_callV F (pc := 40) (C := RX0) (T := TX0) (N := 3) (ci := 0) [.int (nI i)] [.int (nI (4 * q + i)), .ref d] 1 (wX0 E fa fb fc fs lf hf) [cObj a 2 [.ref b, .ref c, .ref d], cBoo E b 24 on_1, cLng E c 96 lo_5, cLng E d 96 hi2] [4, 5, 6] [0, 1, 2, 3] (m_X0_highOf l E fa fb fc fs lf hf i (by omega)) dX2_become_40 gX2_become_X0_highOf rfl (by decide +kernel) rfl ⟨rfl, rfl⟩ (by decide) rfl (Nat.le_of_ble_eq_true rfl) (by decide) rfl rfl rfl rfl (by decide) (by decide) (by decide) ?_
        rintro v_6 w_7 ⟨rfl, rfl⟩
        refine k_perm (wX20 E a b c d on_1 lo_5 hi2 fa fb fc fs lf hf) [0, 1, 2, 3, 4, 5, 6] (by decide) rfl ?_
        show kK g (wX20 E a b c d on_1 lo_5 hi2 fa fb fc fs lf hf) [(0, .ref a), (1, .int (nI q)), (2, .ref fa), (3, .int (nI i))] 0 0 43 [.long (hf i), .int (nI (4 * q + i)), .ref d]
        refine k_last F (pc := 43) 3 (fun hi_8 => (wX20 E a b c d on_1 lo_5 hi_8 fa fb fc fs lf hf)) dX2_become_43 rfl (by omega) (by decide) (fun _ => rfl) (fun hi_8 ehi_8 => ?_)
        refine k_iinc F (pc := 44) 3 ((nI (i + 1))) [(3, .int (nI (i + 1))), (0, .ref a), (1, .int (nI q)), (2, .ref fa)] dX2_become_44 rfl (nI_1 i) (by decide) rfl ?_
        refine k_goto F (pc := 47) 9 dX2_become_47 (by decide) ?_
        refine k_lv [(0, .ref a), (1, .int (nI q)), (2, .ref fa), (3, .int (nI (i + 1)))] [1, 2, 3, 0] rfl ?_
        exact ih9 (i + 1) lo_5 hi_8 (by omega) (by omega) (by (try subst_vars); intro j hj; by_cases h : j = i <;> simp_all [vp_updL] <;> (apply hlo; omega)) (by (try subst_vars); intro j hj; have h1 : ¬ j = 4 * q + i := (by omega); simp [vp_updL, h1]; exact hot j hj)
  refine k_lv [(0, .ref a), (1, .int (nI q)), (2, .ref fa), (3, .int (nI 0))] [1, 2, 3, 0] rfl ?_
  exact L9 (4 - 0 + 1) 0 lo hi (Nat.lt_succ_self _) (by omega) (by intro j hj; omega) (by intro j hj; exact ⟨rfl, rfl⟩)
theorem zm_X2_stretch_f15 : (Cond.fieldLink RX2 15 RX2 "lows" "[J" : Cond) ∈ wsX2_stretch := by decide +kernel
theorem zin_X2_stretch_X2 : ∀ w ∈ u_ws RX2 TX2 3, w ∈ wsX2_stretch := by decide +kernel
theorem zm_X2_stretch_f19 : (Cond.fieldLink RX2 19 RX2 "highs" "[J" : Cond) ∈ wsX2_stretch := by decide +kernel
theorem zm_X2_stretch_c57 : (Cond.constantLong RX2 57 (2147483647) : Cond) ∈ wsX2_stretch := by decide +kernel
theorem zm_X2_stretch_c55 : (Cond.constantLong RX2 55 (-2147483648) : Cond) ∈ wsX2_stretch := by decide +kernel
set_option maxHeartbeats 4000000 in
set_option maxRecDepth 100000 in
theorem m_X2_stretch (l : Launch) (E : kE) (a : Nat) (b : Nat) (c : Nat) (d : Nat) (on : Nat → Bool) (lo : Nat → Int64) (hi : Nat → Int64) (fa : Nat) (fb : Nat) (fc : Nat) (fs : Bool) (lf : Nat → Int64) (hf : Nat → Int64) (q : Nat) (v : Nat) (w : Bool) (hq : q < 24) (hv : v < 4) : kC l yX2_stretch wsX2_stretch ({ frames := 1, cells := 0, slots := 0, locals := 21 } : Room) E [.ref a, .int (nI q), .int (nI v), .ref fa, .int (bI w)] (wX20 E a b c d on lo hi fa fb fc fs lf hf) 0 0 (fun v_ w_ => ∃ (lo1 : Nat → Int64) (hi1 : Nat → Int64) (r : Bool), v_ = some (.int (bI r)) ∧ w_ = (wX20 E a b c d on lo1 hi1 fa fb fc fs lf hf) ∧ (lo1 = vp_updL lo (4 * q + v) (nlo w (lo (4 * q + v)) (lf v)) ∧ hi1 = vp_updL hi (4 * q + v) (nhi w (hi (4 * q + v)) (hf v)) ∧ r = (decide (lf v < lo (4 * q + v)) || decide (hi (4 * q + v) < hf v)))) := by
  refine kC.enter cX2_stretch 7 (some .boolean) [(0, .ref a), (1, .int (nI q)), (2, .int (nI v)), (3, .ref fa), (4, .int (bI w))] (by decide) rfl (Nat.le_of_ble_eq_true rfl) rfl ?_
  intro g F Rr
  refine k_iload_n F (pc := 0) 1 rfl dX2_stretch_0 rfl ?_
  refine k_iconst F (pc := 1) ((nI 4)) dX2_stretch_1 (by decide) ?_
  refine k_imulC F (pc := 2) dX2_stretch_2 ?_
  refine k_iload_n F (pc := 3) 2 rfl dX2_stretch_3 rfl ?_
  refine k_iaddN F (pc := 4) dX2_stretch_4 ?_
  refine k_istore F (pc := 5) [(5, .int (nI (4 * q + v))), (0, .ref a), (1, .int (nI q)), (2, .int (nI v)), (3, .ref fa), (4, .int (bI w))] dX2_stretch_5 (by decide) rfl ?_
  refine k_iconst F (pc := 7) ((nI 0)) dX2_stretch_7 (by decide) ?_
  refine k_istore F (pc := 8) [(6, .int (nI 0)), (5, .int (nI (4 * q + v))), (0, .ref a), (1, .int (nI q)), (2, .int (nI v)), (3, .ref fa), (4, .int (bI w))] dX2_stretch_8 (by decide) rfl ?_
  refine k_aload_n F (pc := 10) 5 rfl dX2_stretch_10 rfl ?_
  refine k_iload_n F (pc := 11) 4 rfl dX2_stretch_11 rfl ?_
  refine k_callV F (pc := 12) (C := RX0) (T := TX0) (N := 3) (ci := 0) [.int (nI v)] [] 1 (wX0 E fa fb fc fs lf hf) [cObj a 2 [.ref b, .ref c, .ref d], cBoo E b 24 on, cLng E c 96 lo, cLng E d 96 hi] [4, 5, 6] [0, 1, 2, 3] (m_X0_lowOf l E fa fb fc fs lf hf v (by omega)) dX2_stretch_12 gX2_stretch_X0_lowOf rfl (by decide +kernel) rfl ⟨rfl, rfl⟩ (by decide) rfl (Nat.le_of_ble_eq_true rfl) (by decide) rfl rfl rfl rfl (by decide) (by decide) (by decide) ?_
  rintro v_1 w_2 ⟨rfl, rfl⟩
  refine k_perm (wX20 E a b c d on lo hi fa fb fc fs lf hf) [0, 1, 2, 3, 4, 5, 6] (by decide) rfl ?_
  show kK g (wX20 E a b c d on lo hi fa fb fc fs lf hf) [(6, .int (nI 0)), (5, .int (nI (4 * q + v))), (0, .ref a), (1, .int (nI q)), (2, .int (nI v)), (3, .ref fa), (4, .int (bI w))] 0 0 15 [.long (lf v)]
  refine k_aload_n F (pc := 15) 2 rfl dX2_stretch_15 rfl ?_
  refine k_get F (pc := 16) (ref := RX2) (C := RX2) (T := TX2) (N := 3) (ci := 2) 0 1 dX2_stretch_16 zin_X2_stretch_X2 rfl rfl (by decide) zm_X2_stretch_f15 rfl rfl ?_
  refine k_iload F (pc := 19) 1 rfl dX2_stretch_19 ?_
  refine k_lald F (pc := 21) 2 dX2_stretch_21 rfl (by omega) (by decide) ?_
  refine k_lcmp_ge F (pc := 22) 52 dX2_stretch_22 dX2_stretch_23 (by decide) (fun c_3 => ?_) (fun c_3 => ?_)
  · skip
    refine k_aload_n F (pc := 52) 5 rfl dX2_stretch_52 rfl ?_
    refine k_iload_n F (pc := 53) 4 rfl dX2_stretch_53 rfl ?_
    refine k_callV F (pc := 54) (C := RX0) (T := TX0) (N := 3) (ci := 0) [.int (nI v)] [] 1 (wX0 E fa fb fc fs lf hf) [cObj a 2 [.ref b, .ref c, .ref d], cBoo E b 24 on, cLng E c 96 lo, cLng E d 96 hi] [4, 5, 6] [0, 1, 2, 3] (m_X0_highOf l E fa fb fc fs lf hf v (by omega)) dX2_stretch_54 gX2_stretch_X0_highOf rfl (by decide +kernel) rfl ⟨rfl, rfl⟩ (by decide) rfl (Nat.le_of_ble_eq_true rfl) (by decide) rfl rfl rfl rfl (by decide) (by decide) (by decide) ?_
    rintro v_4 w_5 ⟨rfl, rfl⟩
    refine k_perm (wX20 E a b c d on lo hi fa fb fc fs lf hf) [0, 1, 2, 3, 4, 5, 6] (by decide) rfl ?_
    show kK g (wX20 E a b c d on lo hi fa fb fc fs lf hf) [(6, .int (nI 0)), (5, .int (nI (4 * q + v))), (0, .ref a), (1, .int (nI q)), (2, .int (nI v)), (3, .ref fa), (4, .int (bI w))] 0 0 57 [.long (hf v)]
    refine k_aload_n F (pc := 57) 2 rfl dX2_stretch_57 rfl ?_
    refine k_get F (pc := 58) (ref := RX2) (C := RX2) (T := TX2) (N := 3) (ci := 2) 0 2 dX2_stretch_58 zin_X2_stretch_X2 rfl rfl (by decide) zm_X2_stretch_f19 rfl rfl ?_
    refine k_iload F (pc := 61) 1 rfl dX2_stretch_61 ?_
    refine k_lald F (pc := 63) 3 dX2_stretch_63 rfl (by omega) (by decide) ?_
    refine k_lcmp_le F (pc := 64) 94 dX2_stretch_64 dX2_stretch_65 (by decide) (fun c_6 => ?_) (fun c_6 => ?_)
    · skip
      refine k_iload F (pc := 94) 0 rfl dX2_stretch_94 ?_
      refine k_zret F Rr (pc := 96) false dX2_stretch_96 rfl ⟨lo, hi, false, rfl, rfl, ?_⟩
      clear F Rr
      refine ⟨?_, ?_, ?_⟩ <;> first | (simp only [nlo, nhi, MINI, MAXI, *, if_true, if_false, Bool.false_eq_true, updL_same, decide_true, decide_false, Bool.or_false, Bool.or_true, Bool.false_or, Bool.true_or, Bool.or_self]; done) | (simp_all; done)
    · skip
      refine k_aload_n F (pc := 68) 2 rfl dX2_stretch_68 rfl ?_
      refine k_get F (pc := 69) (ref := RX2) (C := RX2) (T := TX2) (N := 3) (ci := 2) 0 2 dX2_stretch_69 zin_X2_stretch_X2 rfl rfl (by decide) zm_X2_stretch_f19 rfl rfl ?_
      refine k_iload F (pc := 72) 1 rfl dX2_stretch_72 ?_
      refine k_iload F (pc := 74) 6 rfl dX2_stretch_74 ?_
      refine k_if_eqB F (pc := 76) 85 dX2_stretch_76 (by decide) (fun c_7 => ?_) (fun c_7 => ?_)
      · skip
        refine k_aload_n F (pc := 85) 5 rfl dX2_stretch_85 rfl ?_
        refine k_iload_n F (pc := 86) 4 rfl dX2_stretch_86 rfl ?_
        refine k_callV F (pc := 87) (C := RX0) (T := TX0) (N := 3) (ci := 0) [.int (nI v)] [.int (nI (4 * q + v)), .ref d] 1 (wX0 E fa fb fc fs lf hf) [cObj a 2 [.ref b, .ref c, .ref d], cBoo E b 24 on, cLng E c 96 lo, cLng E d 96 hi] [4, 5, 6] [0, 1, 2, 3] (m_X0_highOf l E fa fb fc fs lf hf v (by omega)) dX2_stretch_87 gX2_stretch_X0_highOf rfl (by decide +kernel) rfl ⟨rfl, rfl⟩ (by decide) rfl (Nat.le_of_ble_eq_true rfl) (by decide) rfl rfl rfl rfl (by decide) (by decide) (by decide) ?_
        rintro v_8 w_9 ⟨rfl, rfl⟩
        refine k_perm (wX20 E a b c d on lo hi fa fb fc fs lf hf) [0, 1, 2, 3, 4, 5, 6] (by decide) rfl ?_
        show kK g (wX20 E a b c d on lo hi fa fb fc fs lf hf) [(6, .int (nI 0)), (5, .int (nI (4 * q + v))), (0, .ref a), (1, .int (nI q)), (2, .int (nI v)), (3, .ref fa), (4, .int (bI w))] 0 0 90 [.long (hf v), .int (nI (4 * q + v)), .ref d]
        refine k_last F (pc := 90) 3 (fun hi_10 => (wX20 E a b c d on lo hi_10 fa fb fc fs lf hf)) dX2_stretch_90 rfl (by omega) (by decide) (fun _ => rfl) (fun hi_10 ehi_10 => ?_)
        refine k_iconst F (pc := 91) ((nI 1)) dX2_stretch_91 (by decide) ?_
        refine k_istore F (pc := 92) [(6, .int (nI 1)), (5, .int (nI (4 * q + v))), (0, .ref a), (1, .int (nI q)), (2, .int (nI v)), (3, .ref fa), (4, .int (bI w))] dX2_stretch_92 (by decide) rfl ?_
        refine k_iload F (pc := 94) 0 rfl dX2_stretch_94 ?_
        subst ehi_10
        refine k_zret F Rr (pc := 96) true dX2_stretch_96 rfl ⟨_, _, true, rfl, rfl, ?_⟩
        clear F Rr
        refine ⟨?_, ?_, ?_⟩ <;> first | (simp only [nlo, nhi, MINI, MAXI, *, if_true, if_false, Bool.false_eq_true, updL_same, decide_true, decide_false, Bool.or_false, Bool.or_true, Bool.false_or, Bool.true_or, Bool.or_self]; done) | (simp_all; done)
      · skip
        refine k_ldc2 F (pc := 79) (2147483647) dX2_stretch_79 zm_X2_stretch_c57 ?_
        refine k_goto F (pc := 82) 90 dX2_stretch_82 (by decide) ?_
        refine k_last F (pc := 90) 3 (fun hi_11 => (wX20 E a b c d on lo hi_11 fa fb fc fs lf hf)) dX2_stretch_90 rfl (by omega) (by decide) (fun _ => rfl) (fun hi_11 ehi_11 => ?_)
        refine k_iconst F (pc := 91) ((nI 1)) dX2_stretch_91 (by decide) ?_
        refine k_istore F (pc := 92) [(6, .int (nI 1)), (5, .int (nI (4 * q + v))), (0, .ref a), (1, .int (nI q)), (2, .int (nI v)), (3, .ref fa), (4, .int (bI w))] dX2_stretch_92 (by decide) rfl ?_
        refine k_iload F (pc := 94) 0 rfl dX2_stretch_94 ?_
        subst ehi_11
        refine k_zret F Rr (pc := 96) true dX2_stretch_96 rfl ⟨_, _, true, rfl, rfl, ?_⟩
        clear F Rr
        refine ⟨?_, ?_, ?_⟩ <;> first | (simp only [nlo, nhi, MINI, MAXI, *, if_true, if_false, Bool.false_eq_true, updL_same, decide_true, decide_false, Bool.or_false, Bool.or_true, Bool.false_or, Bool.true_or, Bool.or_self]; done) | (simp_all; done)
  · skip
    refine k_aload_n F (pc := 26) 2 rfl dX2_stretch_26 rfl ?_
    refine k_get F (pc := 27) (ref := RX2) (C := RX2) (T := TX2) (N := 3) (ci := 2) 0 1 dX2_stretch_27 zin_X2_stretch_X2 rfl rfl (by decide) zm_X2_stretch_f15 rfl rfl ?_
    refine k_iload F (pc := 30) 1 rfl dX2_stretch_30 ?_
    refine k_iload F (pc := 32) 6 rfl dX2_stretch_32 ?_
    refine k_if_eqB F (pc := 34) 43 dX2_stretch_34 (by decide) (fun c_12 => ?_) (fun c_12 => ?_)
    · skip
      refine k_aload_n F (pc := 43) 5 rfl dX2_stretch_43 rfl ?_
      refine k_iload_n F (pc := 44) 4 rfl dX2_stretch_44 rfl ?_
      refine k_callV F (pc := 45) (C := RX0) (T := TX0) (N := 3) (ci := 0) [.int (nI v)] [.int (nI (4 * q + v)), .ref c] 1 (wX0 E fa fb fc fs lf hf) [cObj a 2 [.ref b, .ref c, .ref d], cBoo E b 24 on, cLng E c 96 lo, cLng E d 96 hi] [4, 5, 6] [0, 1, 2, 3] (m_X0_lowOf l E fa fb fc fs lf hf v (by omega)) dX2_stretch_45 gX2_stretch_X0_lowOf rfl (by decide +kernel) rfl ⟨rfl, rfl⟩ (by decide) rfl (Nat.le_of_ble_eq_true rfl) (by decide) rfl rfl rfl rfl (by decide) (by decide) (by decide) ?_
      rintro v_13 w_14 ⟨rfl, rfl⟩
      refine k_perm (wX20 E a b c d on lo hi fa fb fc fs lf hf) [0, 1, 2, 3, 4, 5, 6] (by decide) rfl ?_
      show kK g (wX20 E a b c d on lo hi fa fb fc fs lf hf) [(6, .int (nI 0)), (5, .int (nI (4 * q + v))), (0, .ref a), (1, .int (nI q)), (2, .int (nI v)), (3, .ref fa), (4, .int (bI w))] 0 0 48 [.long (lf v), .int (nI (4 * q + v)), .ref c]
      refine k_last F (pc := 48) 2 (fun lo_15 => (wX20 E a b c d on lo_15 hi fa fb fc fs lf hf)) dX2_stretch_48 rfl (by omega) (by decide) (fun _ => rfl) (fun lo_15 elo_15 => ?_)
      refine k_iconst F (pc := 49) ((nI 1)) dX2_stretch_49 (by decide) ?_
      refine k_istore F (pc := 50) [(6, .int (nI 1)), (5, .int (nI (4 * q + v))), (0, .ref a), (1, .int (nI q)), (2, .int (nI v)), (3, .ref fa), (4, .int (bI w))] dX2_stretch_50 (by decide) rfl ?_
      refine k_aload_n F (pc := 52) 5 rfl dX2_stretch_52 rfl ?_
      refine k_iload_n F (pc := 53) 4 rfl dX2_stretch_53 rfl ?_
      refine k_callV F (pc := 54) (C := RX0) (T := TX0) (N := 3) (ci := 0) [.int (nI v)] [] 1 (wX0 E fa fb fc fs lf hf) [cObj a 2 [.ref b, .ref c, .ref d], cBoo E b 24 on, cLng E c 96 lo_15, cLng E d 96 hi] [4, 5, 6] [0, 1, 2, 3] (m_X0_highOf l E fa fb fc fs lf hf v (by omega)) dX2_stretch_54 gX2_stretch_X0_highOf rfl (by decide +kernel) rfl ⟨rfl, rfl⟩ (by decide) rfl (Nat.le_of_ble_eq_true rfl) (by decide) rfl rfl rfl rfl (by decide) (by decide) (by decide) ?_
      rintro v_16 w_17 ⟨rfl, rfl⟩
      refine k_perm (wX20 E a b c d on lo_15 hi fa fb fc fs lf hf) [0, 1, 2, 3, 4, 5, 6] (by decide) rfl ?_
      show kK g (wX20 E a b c d on lo_15 hi fa fb fc fs lf hf) [(6, .int (nI 1)), (5, .int (nI (4 * q + v))), (0, .ref a), (1, .int (nI q)), (2, .int (nI v)), (3, .ref fa), (4, .int (bI w))] 0 0 57 [.long (hf v)]
      refine k_aload_n F (pc := 57) 2 rfl dX2_stretch_57 rfl ?_
      refine k_get F (pc := 58) (ref := RX2) (C := RX2) (T := TX2) (N := 3) (ci := 2) 0 2 dX2_stretch_58 zin_X2_stretch_X2 rfl rfl (by decide) zm_X2_stretch_f19 rfl rfl ?_
      refine k_iload F (pc := 61) 1 rfl dX2_stretch_61 ?_
      refine k_lald F (pc := 63) 3 dX2_stretch_63 rfl (by omega) (by decide) ?_
      refine k_lcmp_le F (pc := 64) 94 dX2_stretch_64 dX2_stretch_65 (by decide) (fun c_18 => ?_) (fun c_18 => ?_)
      · skip
        refine k_iload F (pc := 94) 0 rfl dX2_stretch_94 ?_
        subst elo_15
        refine k_zret F Rr (pc := 96) true dX2_stretch_96 rfl ⟨_, _, true, rfl, rfl, ?_⟩
        clear F Rr
        refine ⟨?_, ?_, ?_⟩ <;> first | (simp only [nlo, nhi, MINI, MAXI, *, if_true, if_false, Bool.false_eq_true, updL_same, decide_true, decide_false, Bool.or_false, Bool.or_true, Bool.false_or, Bool.true_or, Bool.or_self]; done) | (simp_all; done)
      · skip
        refine k_aload_n F (pc := 68) 2 rfl dX2_stretch_68 rfl ?_
        refine k_get F (pc := 69) (ref := RX2) (C := RX2) (T := TX2) (N := 3) (ci := 2) 0 2 dX2_stretch_69 zin_X2_stretch_X2 rfl rfl (by decide) zm_X2_stretch_f19 rfl rfl ?_
        refine k_iload F (pc := 72) 1 rfl dX2_stretch_72 ?_
        refine k_iload F (pc := 74) 6 rfl dX2_stretch_74 ?_
        refine k_if_eqB F (pc := 76) 85 dX2_stretch_76 (by decide) (fun c_19 => ?_) (fun c_19 => ?_)
        · skip
          refine k_aload_n F (pc := 85) 5 rfl dX2_stretch_85 rfl ?_
          refine k_iload_n F (pc := 86) 4 rfl dX2_stretch_86 rfl ?_
          refine k_callV F (pc := 87) (C := RX0) (T := TX0) (N := 3) (ci := 0) [.int (nI v)] [.int (nI (4 * q + v)), .ref d] 1 (wX0 E fa fb fc fs lf hf) [cObj a 2 [.ref b, .ref c, .ref d], cBoo E b 24 on, cLng E c 96 lo_15, cLng E d 96 hi] [4, 5, 6] [0, 1, 2, 3] (m_X0_highOf l E fa fb fc fs lf hf v (by omega)) dX2_stretch_87 gX2_stretch_X0_highOf rfl (by decide +kernel) rfl ⟨rfl, rfl⟩ (by decide) rfl (Nat.le_of_ble_eq_true rfl) (by decide) rfl rfl rfl rfl (by decide) (by decide) (by decide) ?_
          rintro v_20 w_21 ⟨rfl, rfl⟩
          refine k_perm (wX20 E a b c d on lo_15 hi fa fb fc fs lf hf) [0, 1, 2, 3, 4, 5, 6] (by decide) rfl ?_
          show kK g (wX20 E a b c d on lo_15 hi fa fb fc fs lf hf) [(6, .int (nI 1)), (5, .int (nI (4 * q + v))), (0, .ref a), (1, .int (nI q)), (2, .int (nI v)), (3, .ref fa), (4, .int (bI w))] 0 0 90 [.long (hf v), .int (nI (4 * q + v)), .ref d]
          refine k_last F (pc := 90) 3 (fun hi_22 => (wX20 E a b c d on lo_15 hi_22 fa fb fc fs lf hf)) dX2_stretch_90 rfl (by omega) (by decide) (fun _ => rfl) (fun hi_22 ehi_22 => ?_)
          refine k_iconst F (pc := 91) ((nI 1)) dX2_stretch_91 (by decide) ?_
          refine k_istore F (pc := 92) [(6, .int (nI 1)), (5, .int (nI (4 * q + v))), (0, .ref a), (1, .int (nI q)), (2, .int (nI v)), (3, .ref fa), (4, .int (bI w))] dX2_stretch_92 (by decide) rfl ?_
          refine k_iload F (pc := 94) 0 rfl dX2_stretch_94 ?_
          subst ehi_22
          subst elo_15
          refine k_zret F Rr (pc := 96) true dX2_stretch_96 rfl ⟨_, _, true, rfl, rfl, ?_⟩
          clear F Rr
          refine ⟨?_, ?_, ?_⟩ <;> first | (simp only [nlo, nhi, MINI, MAXI, *, if_true, if_false, Bool.false_eq_true, updL_same, decide_true, decide_false, Bool.or_false, Bool.or_true, Bool.false_or, Bool.true_or, Bool.or_self]; done) | (simp_all; done)
        · skip
          exact absurd (c_12.symm.trans c_19) (by decide)
    · skip
      refine k_ldc2 F (pc := 37) (-2147483648) dX2_stretch_37 zm_X2_stretch_c55 ?_
      refine k_goto F (pc := 40) 48 dX2_stretch_40 (by decide) ?_
      refine k_last F (pc := 48) 2 (fun lo_23 => (wX20 E a b c d on lo_23 hi fa fb fc fs lf hf)) dX2_stretch_48 rfl (by omega) (by decide) (fun _ => rfl) (fun lo_23 elo_23 => ?_)
      refine k_iconst F (pc := 49) ((nI 1)) dX2_stretch_49 (by decide) ?_
      refine k_istore F (pc := 50) [(6, .int (nI 1)), (5, .int (nI (4 * q + v))), (0, .ref a), (1, .int (nI q)), (2, .int (nI v)), (3, .ref fa), (4, .int (bI w))] dX2_stretch_50 (by decide) rfl ?_
      refine k_aload_n F (pc := 52) 5 rfl dX2_stretch_52 rfl ?_
      refine k_iload_n F (pc := 53) 4 rfl dX2_stretch_53 rfl ?_
      refine k_callV F (pc := 54) (C := RX0) (T := TX0) (N := 3) (ci := 0) [.int (nI v)] [] 1 (wX0 E fa fb fc fs lf hf) [cObj a 2 [.ref b, .ref c, .ref d], cBoo E b 24 on, cLng E c 96 lo_23, cLng E d 96 hi] [4, 5, 6] [0, 1, 2, 3] (m_X0_highOf l E fa fb fc fs lf hf v (by omega)) dX2_stretch_54 gX2_stretch_X0_highOf rfl (by decide +kernel) rfl ⟨rfl, rfl⟩ (by decide) rfl (Nat.le_of_ble_eq_true rfl) (by decide) rfl rfl rfl rfl (by decide) (by decide) (by decide) ?_
      rintro v_24 w_25 ⟨rfl, rfl⟩
      refine k_perm (wX20 E a b c d on lo_23 hi fa fb fc fs lf hf) [0, 1, 2, 3, 4, 5, 6] (by decide) rfl ?_
      show kK g (wX20 E a b c d on lo_23 hi fa fb fc fs lf hf) [(6, .int (nI 1)), (5, .int (nI (4 * q + v))), (0, .ref a), (1, .int (nI q)), (2, .int (nI v)), (3, .ref fa), (4, .int (bI w))] 0 0 57 [.long (hf v)]
      refine k_aload_n F (pc := 57) 2 rfl dX2_stretch_57 rfl ?_
      refine k_get F (pc := 58) (ref := RX2) (C := RX2) (T := TX2) (N := 3) (ci := 2) 0 2 dX2_stretch_58 zin_X2_stretch_X2 rfl rfl (by decide) zm_X2_stretch_f19 rfl rfl ?_
      refine k_iload F (pc := 61) 1 rfl dX2_stretch_61 ?_
      refine k_lald F (pc := 63) 3 dX2_stretch_63 rfl (by omega) (by decide) ?_
      refine k_lcmp_le F (pc := 64) 94 dX2_stretch_64 dX2_stretch_65 (by decide) (fun c_26 => ?_) (fun c_26 => ?_)
      · skip
        refine k_iload F (pc := 94) 0 rfl dX2_stretch_94 ?_
        subst elo_23
        refine k_zret F Rr (pc := 96) true dX2_stretch_96 rfl ⟨_, _, true, rfl, rfl, ?_⟩
        clear F Rr
        refine ⟨?_, ?_, ?_⟩ <;> first | (simp only [nlo, nhi, MINI, MAXI, *, if_true, if_false, Bool.false_eq_true, updL_same, decide_true, decide_false, Bool.or_false, Bool.or_true, Bool.false_or, Bool.true_or, Bool.or_self]; done) | (simp_all; done)
      · skip
        refine k_aload_n F (pc := 68) 2 rfl dX2_stretch_68 rfl ?_
        refine k_get F (pc := 69) (ref := RX2) (C := RX2) (T := TX2) (N := 3) (ci := 2) 0 2 dX2_stretch_69 zin_X2_stretch_X2 rfl rfl (by decide) zm_X2_stretch_f19 rfl rfl ?_
        refine k_iload F (pc := 72) 1 rfl dX2_stretch_72 ?_
        refine k_iload F (pc := 74) 6 rfl dX2_stretch_74 ?_
        refine k_if_eqB F (pc := 76) 85 dX2_stretch_76 (by decide) (fun c_27 => ?_) (fun c_27 => ?_)
        · skip
          exact absurd (c_12.symm.trans c_27) (by decide)
        · skip
          refine k_ldc2 F (pc := 79) (2147483647) dX2_stretch_79 zm_X2_stretch_c57 ?_
          refine k_goto F (pc := 82) 90 dX2_stretch_82 (by decide) ?_
          refine k_last F (pc := 90) 3 (fun hi_28 => (wX20 E a b c d on lo_23 hi_28 fa fb fc fs lf hf)) dX2_stretch_90 rfl (by omega) (by decide) (fun _ => rfl) (fun hi_28 ehi_28 => ?_)
          refine k_iconst F (pc := 91) ((nI 1)) dX2_stretch_91 (by decide) ?_
          refine k_istore F (pc := 92) [(6, .int (nI 1)), (5, .int (nI (4 * q + v))), (0, .ref a), (1, .int (nI q)), (2, .int (nI v)), (3, .ref fa), (4, .int (bI w))] dX2_stretch_92 (by decide) rfl ?_
          refine k_iload F (pc := 94) 0 rfl dX2_stretch_94 ?_
          subst ehi_28
          subst elo_23
          refine k_zret F Rr (pc := 96) true dX2_stretch_96 rfl ⟨_, _, true, rfl, rfl, ?_⟩
          clear F Rr
          refine ⟨?_, ?_, ?_⟩ <;> first | (simp only [nlo, nhi, MINI, MAXI, *, if_true, if_false, Bool.false_eq_true, updL_same, decide_true, decide_false, Bool.or_false, Bool.or_true, Bool.false_or, Bool.true_or, Bool.or_self]; done) | (simp_all; done)
theorem zm_X2_take_f9 : (Cond.fieldLink RX2 9 RX2 "somewhere" "[Z" : Cond) ∈ wsX2_take := by decide +kernel
theorem zin_X2_take_X2 : ∀ w ∈ u_ws RX2 TX2 3, w ∈ wsX2_take := by decide +kernel
set_option maxHeartbeats 4000000 in
set_option maxRecDepth 100000 in
theorem m_X2_take (l : Launch) (E : kE) (a : Nat) (b : Nat) (c : Nat) (d : Nat) (on : Nat → Bool) (lo : Nat → Int64) (hi : Nat → Int64) (fa : Nat) (fb : Nat) (fc : Nat) (fs : Bool) (lf : Nat → Int64) (hf : Nat → Int64) (x : Int32) (q : Nat) (w : Bool) (S : ST) (FF : Option (IV × IV)) (hR : Rep on lo hi S) (hF : FRep fs lf hf FF) (hq : FF ≠ none → x.toInt = q ∧ q < 24) : kC l yX2_take wsX2_take ({ frames := 2, cells := 0, slots := 0, locals := 47 } : Room) E [.ref a, .int x, .ref fa, .int (bI w)] (wX20 E a b c d on lo hi fa fb fc fs lf hf) 0 0 (fun v_ w_ => ∃ (on1 : Nat → Bool) (lo1 : Nat → Int64) (hi1 : Nat → Int64) (r : Bool), v_ = some (.int (bI r)) ∧ w_ = (wX20 E a b c d on1 lo1 hi1 fa fb fc fs lf hf) ∧ (Rep on1 lo1 hi1 (arr S q FF w).2 ∧ r = (arr S q FF w).1)) := by
  refine kC.enter cX2_take 6 (some .boolean) [(0, .ref a), (1, .int x), (2, .ref fa), (3, .int (bI w))] (by decide) rfl (Nat.le_of_ble_eq_true rfl) rfl ?_
  intro g F Rr
  refine k_aload_n F (pc := 0) 2 rfl dX2_take_0 rfl ?_
  refine k_callV F (pc := 1) (C := RX0) (T := TX0) (N := 3) (ci := 0) [] [] 0 (wX0 E fa fb fc fs lf hf) [cObj a 2 [.ref b, .ref c, .ref d], cBoo E b 24 on, cLng E c 96 lo, cLng E d 96 hi] [4, 5, 6] [0, 1, 2, 3] (m_X0_isSomething l E fa fb fc fs lf hf) dX2_take_1 gX2_take_X0_isSomething rfl (by decide +kernel) rfl ⟨rfl, rfl⟩ (by decide) rfl (Nat.le_of_ble_eq_true rfl) (by decide) rfl rfl rfl rfl (by decide) (by decide) (by decide) ?_
  rintro v_1 w_2 ⟨rfl, rfl⟩
  refine k_perm (wX20 E a b c d on lo hi fa fb fc fs lf hf) [0, 1, 2, 3, 4, 5, 6] (by decide) rfl ?_
  show kK g (wX20 E a b c d on lo hi fa fb fc fs lf hf) [(0, .ref a), (1, .int x), (2, .ref fa), (3, .int (bI w))] 0 0 4 [.int (bI fs)]
  refine k_if_eqB F (pc := 4) 17 dX2_take_4 (by decide) (fun c_3 => ?_) (fun c_3 => ?_)
  · skip
    rw [c_3] at hF
    have hN := hF.none_of
    refine k_iconst F (pc := 17) ((nI 0)) dX2_take_17 (by decide) ?_
    refine k_zret F Rr (pc := 18) false dX2_take_18 rfl ⟨on, lo, hi, false, rfl, rfl, ?_⟩
    first
    | (rw [hN]; exact ⟨hR, rfl⟩)
    | (exfalso; omega)
  · skip
    rw [c_3] at hF
    obtain ⟨T, hT, hTv⟩ := hF.some_of
    have hxq := hq (by rw [hT]; simp)
    have hxN : x = nI q := k_toN hxq.1 (by omega)
    refine k_iload_n F (pc := 7) 1 rfl dX2_take_7 rfl ?_
    refine k_topi (nI q) hxN ?_
    refine k_if_lt F (pc := 8) 17 dX2_take_8 (by decide) (nI_toInt (by omega)) (fun c_4 => ?_) (fun c_4 => ?_)
    · skip
      refine k_iconst F (pc := 17) ((nI 0)) dX2_take_17 (by decide) ?_
      refine k_zret F Rr (pc := 18) false dX2_take_18 rfl ⟨on, lo, hi, false, rfl, rfl, ?_⟩
      first
      | (rw [hN]; exact ⟨hR, rfl⟩)
      | (exfalso; omega)
    · skip
      refine k_iload_n F (pc := 11) 1 rfl dX2_take_11 rfl ?_
      refine k_topi (nI q) hxN ?_
      refine k_bipush F (pc := 12) ((nI 24)) dX2_take_12 (by decide) ?_
      refine k_icmp_lt F (pc := 14) 19 dX2_take_14 (by decide) (nI_toInt (by omega)) (show (nI 24 : Int32).toInt = 24 by decide) (fun c_5 => ?_) (fun c_5 => ?_)
      · skip
        refine k_aload_n F (pc := 19) 0 rfl dX2_take_19 rfl ?_
        refine k_get F (pc := 20) (ref := RX2) (C := RX2) (T := TX2) (N := 3) (ci := 2) 0 0 dX2_take_20 zin_X2_take_X2 rfl rfl (by decide) zm_X2_take_f9 rfl rfl ?_
        refine k_iload_n F (pc := 23) 1 rfl dX2_take_23 rfl ?_
        refine k_topi (nI q) hxN ?_
        refine k_zald F (pc := 24) 1 dX2_take_24 rfl (by omega) (by decide) ?_
        refine k_if_neB F (pc := 25) 36 dX2_take_25 (by decide) (fun c_6 => ?_) (fun c_6 => ?_)
        · skip
          obtain ⟨Y, hY, hYv⟩ := hR.up hxq.2 c_6
          refine k_iconst F (pc := 36) ((nI 0)) dX2_take_36 (by decide) ?_
          refine k_istore F (pc := 37) [(4, .int (nI 0)), (0, .ref a), (1, .int x), (2, .ref fa), (3, .int (bI w))] dX2_take_37 (by decide) rfl ?_
          refine k_iconst F (pc := 39) ((nI 0)) dX2_take_39 (by decide) ?_
          refine k_istore F (pc := 40) [(5, .int (nI 0)), (4, .int (nI 0)), (0, .ref a), (1, .int x), (2, .ref fa), (3, .int (bI w))] dX2_take_40 (by decide) rfl ?_
          have L42 : ∀ (d_ : Nat) (i : Nat) (ch : Bool) (lo2 : Nat → Int64) (hi2 : Nat → Int64), 4 - i < d_ → (i ≤ 4) → (∀ j, lo2 j = if 4 * q ≤ j ∧ j < 4 * q + i then nlo w (lo j) (lf (j - 4 * q)) else lo j) → (∀ j, hi2 j = if 4 * q ≤ j ∧ j < 4 * q + i then nhi w (hi j) (hf (j - 4 * q)) else hi j) → (ch = chgTo (fun v => lo (4 * q + v), fun v => hi (4 * q + v)) (lf, hf) i) → kK g (wX20 E a b c d on lo2 hi2 fa fb fc fs lf hf) [(0, .ref a), (1, .int x), (2, .ref fa), (3, .int (bI w)), (4, .int (bI ch)), (5, .int (nI i))] 0 0 42 [] := by
            intro d_
            induction d_ with
            | zero => intro i ch lo2 hi2 hm; exact absurd hm (Nat.not_lt_zero _)
            | succ d_ ih42 =>
              intro i ch lo2 hi2 hm42 hi4 hlo hhi hch
              refine k_iload F (pc := 42) 5 rfl dX2_take_42 ?_
              refine k_iconst F (pc := 44) ((nI 4)) dX2_take_44 (by decide) ?_
              refine k_icmp_ge F (pc := 45) 69 dX2_take_45 (by decide) (nI_toInt (by omega)) (show (nI 4 : Int32).toInt = 4 by decide) (fun c_7 => ?_) (fun c_7 => ?_)
              · skip
                refine k_iload F (pc := 69) 4 rfl dX2_take_69 ?_
                refine k_zret F Rr (pc := 71) ch dX2_take_71 rfl ⟨on, lo2, hi2, ch, rfl, rfl, ?_⟩
                exact take_old hR hTv hT hY hYv hxq.2 (by rw [show i = 4 by omega] at hlo; exact hlo) (by rw [show i = 4 by omega] at hhi; exact hhi) (by rw [show i = 4 by omega] at hch; exact hch)
              · skip
                refine k_aload_n F (pc := 48) 0 rfl dX2_take_48 rfl ?_
                refine k_iload_n F (pc := 49) 1 rfl dX2_take_49 rfl ?_
                refine k_topi (nI q) hxN ?_
                refine k_iload F (pc := 50) 5 rfl dX2_take_50 ?_
                refine k_aload_n F (pc := 52) 2 rfl dX2_take_52 rfl ?_
                refine k_iload_n F (pc := 53) 3 rfl dX2_take_53 rfl ?_
                refine k_callV F (pc := 54) (C := RX2) (T := TX2) (N := 3) (ci := 2) [.int (nI q), .int (nI i), .ref fa, .int (bI w)] [] 4 (wX20 E a b c d on lo2 hi2 fa fb fc fs lf hf) [] [0, 1, 2, 3, 4, 5, 6] [] (m_X2_stretch l E a b c d on lo2 hi2 fa fb fc fs lf hf q i w (by omega) (by omega)) dX2_take_54 gX2_take_X2_stretch rfl (by decide +kernel) rfl ⟨rfl, rfl⟩ (by decide) rfl (Nat.le_of_ble_eq_true rfl) (by decide) rfl rfl rfl rfl (by decide) (by decide) (by decide) ?_
                rintro v_11 w_12 ⟨lo1_8, hi1_9, r_10, rfl, rfl, hst⟩
                refine k_perm (wX20 E a b c d on lo1_8 hi1_9 fa fb fc fs lf hf) [0, 1, 2, 3, 4, 5, 6] (by decide) rfl ?_
                show kK g (wX20 E a b c d on lo1_8 hi1_9 fa fb fc fs lf hf) [(0, .ref a), (1, .int x), (2, .ref fa), (3, .int (bI w)), (4, .int (bI ch)), (5, .int (nI i))] 0 0 57 [.int (bI r_10)]
                refine k_if_eqB F (pc := 57) 63 dX2_take_57 (by decide) (fun c_13 => ?_) (fun c_13 => ?_)
                · skip
                  refine k_iinc F (pc := 63) 5 ((nI (i + 1))) [(5, .int (nI (i + 1))), (0, .ref a), (1, .int x), (2, .ref fa), (3, .int (bI w)), (4, .int (bI ch))] dX2_take_63 rfl (nI_1 i) (by decide) rfl ?_
                  refine k_goto F (pc := 66) 42 dX2_take_66 (by decide) ?_
                  refine k_lv [(0, .ref a), (1, .int x), (2, .ref fa), (3, .int (bI w)), (4, .int (bI ch)), (5, .int (nI (i + 1)))] [1, 2, 3, 4, 5, 0] rfl ?_
                  exact ih42 (i + 1) ch lo1_8 hi1_9 (by omega) (by omega) (by exact take_step (u := nlo w) hlo hst.1) (by exact take_step (u := nhi w) hhi hst.2.1) (by rw [take_chg hlo hhi hst.2.2 hch]; simp_all)
                · skip
                  refine k_iconst F (pc := 60) ((nI 1)) dX2_take_60 (by decide) ?_
                  refine k_istore F (pc := 61) [(4, .int (nI 1)), (0, .ref a), (1, .int x), (2, .ref fa), (3, .int (bI w)), (5, .int (nI i))] dX2_take_61 (by decide) rfl ?_
                  refine k_iinc F (pc := 63) 5 ((nI (i + 1))) [(5, .int (nI (i + 1))), (4, .int (nI 1)), (0, .ref a), (1, .int x), (2, .ref fa), (3, .int (bI w))] dX2_take_63 rfl (nI_1 i) (by decide) rfl ?_
                  refine k_goto F (pc := 66) 42 dX2_take_66 (by decide) ?_
                  refine k_lv [(0, .ref a), (1, .int x), (2, .ref fa), (3, .int (bI w)), (4, .int (nI 1)), (5, .int (nI (i + 1)))] [2, 3, 4, 5, 1, 0] rfl ?_
                  exact ih42 (i + 1) true lo1_8 hi1_9 (by omega) (by omega) (by exact take_step (u := nlo w) hlo hst.1) (by exact take_step (u := nhi w) hhi hst.2.1) (by rw [take_chg hlo hhi hst.2.2 hch]; simp_all)
          refine k_lv [(0, .ref a), (1, .int x), (2, .ref fa), (3, .int (bI w)), (4, .int (nI 0)), (5, .int (nI 0))] [2, 3, 4, 5, 1, 0] rfl ?_
          exact L42 (4 - 0 + 1) 0 false lo hi (Nat.lt_succ_self _) (by omega) (by intro j; rw [if_neg (by omega)]) (by intro j; rw [if_neg (by omega)]) (by rfl)
        · skip
          have hSq := hR.off hxq.2 c_6
          refine k_aload_n F (pc := 28) 0 rfl dX2_take_28 rfl ?_
          refine k_iload_n F (pc := 29) 1 rfl dX2_take_29 rfl ?_
          refine k_topi (nI q) hxN ?_
          refine k_aload_n F (pc := 30) 2 rfl dX2_take_30 rfl ?_
          refine k_callV F (pc := 31) (C := RX2) (T := TX2) (N := 3) (ci := 2) [.int (nI q), .ref fa] [] 2 (wX20 E a b c d on lo hi fa fb fc fs lf hf) [] [0, 1, 2, 3, 4, 5, 6] [] (m_X2_become l E a b c d on lo hi fa fb fc fs lf hf q (by omega)) dX2_take_31 gX2_take_X2_become rfl (by decide +kernel) rfl ⟨rfl, rfl⟩ (by decide) rfl (Nat.le_of_ble_eq_true rfl) (by decide) rfl rfl rfl rfl (by decide) (by decide) (by decide) ?_
          rintro v_17 w_18 ⟨on1_14, lo1_15, hi1_16, rfl, rfl, hbc⟩
          refine k_perm (wX20 E a b c d on1_14 lo1_15 hi1_16 fa fb fc fs lf hf) [0, 1, 2, 3, 4, 5, 6] (by decide) rfl ?_
          show kK g (wX20 E a b c d on1_14 lo1_15 hi1_16 fa fb fc fs lf hf) [(0, .ref a), (1, .int x), (2, .ref fa), (3, .int (bI w))] 0 0 34 []
          refine k_iconst F (pc := 34) ((nI 1)) dX2_take_34 (by decide) ?_
          refine k_zret F Rr (pc := 35) true dX2_take_35 rfl ⟨on1_14, lo1_15, hi1_16, true, rfl, rfl, ?_⟩
          exact take_new hR hTv hT hSq hbc
      · skip
        refine k_iconst F (pc := 17) ((nI 0)) dX2_take_17 (by decide) ?_
        refine k_zret F Rr (pc := 18) false dX2_take_18 rfl ⟨on, lo, hi, false, rfl, rfl, ?_⟩
        first
        | (rw [hN]; exact ⟨hR, rfl⟩)
        | (exfalso; omega)
