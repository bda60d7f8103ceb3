theorem zm_X4_reached_f57 : (Cond.fieldLink RX4 57 RX4 "scanned" "Z" : Cond) ∈ wsX4_reached := by decide +kernel
theorem zin_X4_reached_X4 : ∀ w ∈ u_ws RX4 TX4 15, w ∈ wsX4_reached := by decide +kernel
theorem zm_X4_reached_f42 : (Cond.fieldLink RX4 42 RX4 "n" "I" : Cond) ∈ wsX4_reached := by decide +kernel
theorem zm_X4_reached_f13 : (Cond.fieldLink RX4 13 RX4 "on" "[Z" : Cond) ∈ wsX4_reached := by decide +kernel
set_option maxHeartbeats 4000000 in
set_option maxRecDepth 100000 in
theorem m_X4_reached (l : Launch) (E : kE) (h : Nat → Nat) (cd : Nat → Int32) (n : Nat) (rt : Nat) (sc : Bool) (on : Nat → Bool) (lo : Nat → Int64) (hi : Nat → Int64) (non : Nat → Bool) (nlo : Nat → Int64) (nhi : Nat → Int64) (fl : Nat → Bool) (tlo : Nat → Int64) (thi : Nat → Int64) (le : Int64) (gr : Int64) (p : Int32) (hn : n ≤ 24) : kC l yX4_reached wsX4_reached ({ frames := 1, cells := 0, slots := 0, locals := 21 } : Room) E [.ref (h 0), .int p] (wX4 E h cd n rt sc on lo hi non nlo nhi fl tlo thi le gr) 0 0 (fun v_ w_ => ∃ (r : Int32), v_ = some (.int r) ∧ w_ = (wX4 E h cd n rt sc on lo hi non nlo nhi fl tlo thi le gr) ∧ (r = rchV sc n on p)) := by
  refine kC.enter cX4_reached 2 (some .int) [(0, .ref (h 0)), (1, .int p)] (by decide) rfl (Nat.le_of_ble_eq_true rfl) rfl ?_
  intro g F Rr
  refine k_aload_n F (pc := 0) 0 rfl dX4_reached_0 rfl ?_
  refine k_get F (pc := 1) (ref := RX4) (C := RX4) (T := TX4) (N := 15) (ci := 4) 0 3 dX4_reached_1 zin_X4_reached_X4 rfl rfl (by decide) zm_X4_reached_f57 rfl rfl ?_
  refine k_if_eqB F (pc := 4) 20 dX4_reached_4 (by decide) (fun c_1 => ?_) (fun c_1 => ?_)
  · skip
    refine k_iconst F (pc := 20) ((-1)) dX4_reached_20 (by decide) ?_
    refine k_iret F Rr (pc := 21) dX4_reached_21 ⟨(-1), rfl, rfl, ?_⟩
    first
    | exact (rchV_f1 (by assumption)).symm
    | exact (rchV_f2 (by omega)).symm
  · skip
    refine k_iload_n F (pc := 7) 1 rfl dX4_reached_7 rfl ?_
    refine k_aload_n F (pc := 8) 0 rfl dX4_reached_8 rfl ?_
    refine k_get F (pc := 9) (ref := RX4) (C := RX4) (T := TX4) (N := 15) (ci := 4) 0 1 dX4_reached_9 zin_X4_reached_X4 rfl rfl (by decide) zm_X4_reached_f42 rfl rfl ?_
    refine k_iconst F (pc := 12) ((nI 1)) dX4_reached_12 (by decide) ?_
    refine k_isub F (pc := 13) dX4_reached_13 ?_
    refine k_callS F (pc := 14) [.int p, .int (nI n - nI 1)] [] 2 (m_X4_within l E p (nI n - nI 1) (((n : Nat) : Int) - ((1 : Nat) : Int)) (pk_sub_toInt (by omega) (by omega))) dX4_reached_14 gX4_reached_X4_within rfl (by decide +kernel) rfl ⟨rfl, rfl⟩ (by decide) rfl (Nat.le_of_ble_eq_true rfl) (by decide) ?_
    rintro v_4 ⟨r_2, rfl, hc_3⟩
    show kK g (wX4 E h cd n rt sc on lo hi non nlo nhi fl tlo thi le gr) [(0, .ref (h 0)), (1, .int p)] 0 0 17 [.int (bI r_2)]
    refine k_if_neB F (pc := 17) 22 dX4_reached_17 (by decide) (fun c_6 => ?_) (fun c_6 => ?_)
    · skip
      have hb_7 := hc_3.mp c_6
      have hz_8 : p = nI p.toNatClampNeg := k_nC (by omega)
      have hz_8i := k_nCi (x := p) (by omega)
      refine k_aload_n F (pc := 22) 0 rfl dX4_reached_22 rfl ?_
      refine k_get F (pc := 23) (ref := RX4) (C := RX4) (T := TX4) (N := 15) (ci := 4) 0 4 dX4_reached_23 zin_X4_reached_X4 rfl rfl (by decide) zm_X4_reached_f13 rfl rfl ?_
      refine k_iload_n F (pc := 26) 1 rfl dX4_reached_26 rfl ?_
      refine k_topi (nI p.toNatClampNeg) hz_8 ?_
      refine k_zald F (pc := 27) 2 dX4_reached_27 rfl (by omega) (by decide) ?_
      refine k_if_eqB F (pc := 28) 35 dX4_reached_28 (by decide) (fun c_9 => ?_) (fun c_9 => ?_)
      · skip
        refine k_iconst F (pc := 35) ((nI 0)) dX4_reached_35 (by decide) ?_
        refine k_iret F Rr (pc := 36) dX4_reached_36 ⟨(nI 0), rfl, rfl, ?_⟩
        rw [rchV_t (by assumption) (by omega), (by assumption : on p.toNatClampNeg = _)]; rfl
      · skip
        refine k_iconst F (pc := 31) ((nI 1)) dX4_reached_31 (by decide) ?_
        refine k_goto F (pc := 32) 36 dX4_reached_32 (by decide) ?_
        refine k_iret F Rr (pc := 36) dX4_reached_36 ⟨(nI 1), rfl, rfl, ?_⟩
        rw [rchV_t (by assumption) (by omega), (by assumption : on p.toNatClampNeg = _)]; rfl
    · skip
      have hb_10 := k_ff hc_3 c_6
      refine k_iconst F (pc := 20) ((-1)) dX4_reached_20 (by decide) ?_
      refine k_iret F Rr (pc := 21) dX4_reached_21 ⟨(-1), rfl, rfl, ?_⟩
      first
      | exact (rchV_f1 (by assumption)).symm
      | exact (rchV_f2 (by omega)).symm
theorem zm_X4_low_c129 : (Cond.constantLong RX4 129 (4294967296) : Cond) ∈ wsX4_low := by decide +kernel
theorem zm_X4_low_f17 : (Cond.fieldLink RX4 17 RX4 "lo" "[J" : Cond) ∈ wsX4_low := by decide +kernel
theorem zin_X4_low_X4 : ∀ w ∈ u_ws RX4 TX4 15, w ∈ wsX4_low := by decide +kernel
set_option maxHeartbeats 4000000 in
set_option maxRecDepth 100000 in
theorem m_X4_low (l : Launch) (E : kE) (h : Nat → Nat) (cd : Nat → Int32) (n : Nat) (rt : Nat) (sc : Bool) (on : Nat → Bool) (lo : Nat → Int64) (hi : Nat → Int64) (non : Nat → Bool) (nlo : Nat → Int64) (nhi : Nat → Int64) (fl : Nat → Bool) (tlo : Nat → Int64) (thi : Nat → Int64) (le : Int64) (gr : Int64) (p : Int32) (v : Int32) (hn : n ≤ 24) : kC l yX4_low wsX4_low ({ frames := 2, cells := 0, slots := 0, locals := 42 } : Room) E [.ref (h 0), .int p, .int v] (wX4 E h cd n rt sc on lo hi non nlo nhi fl tlo thi le gr) 0 0 (fun v_ w_ => ∃ (r : Int64), v_ = some (.long r) ∧ w_ = (wX4 E h cd n rt sc on lo hi non nlo nhi fl tlo thi le gr) ∧ (r = bndV sc n on lo p v)) := by
  refine kC.enter cX4_low 3 (some .long) [(0, .ref (h 0)), (1, .int p), (2, .int v)] (by decide) rfl (Nat.le_of_ble_eq_true rfl) rfl ?_
  intro g F Rr
  refine k_aload_n F (pc := 0) 0 rfl dX4_low_0 rfl ?_
  refine k_iload_n F (pc := 1) 1 rfl dX4_low_1 rfl ?_
  refine k_callV F (pc := 2) (C := RX4) (T := TX4) (N := 15) (ci := 4) [.int p] [] 1 (wX4 E h cd n rt sc on lo hi non nlo nhi fl tlo thi le gr) [] [0, 1, 2, 3, 4, 5, 6, 7, 8, 9, 10] [] (m_X4_reached l E h cd n rt sc on lo hi non nlo nhi fl tlo thi le gr p (by omega)) dX4_low_2 gX4_low_X4_reached rfl (by decide +kernel) rfl ⟨rfl, rfl⟩ (by decide) rfl (Nat.le_of_ble_eq_true rfl) (by decide) rfl rfl rfl rfl (by decide) (by decide) (by decide) ?_
  rintro v_2 w_3 ⟨r_1, rfl, rfl, hre⟩
  refine k_perm (wX4 E h cd n rt sc on lo hi non nlo nhi fl tlo thi le gr) [0, 1, 2, 3, 4, 5, 6, 7, 8, 9, 10] (by decide) rfl ?_
  show kK g (wX4 E h cd n rt sc on lo hi non nlo nhi fl tlo thi le gr) [(0, .ref (h 0)), (1, .int p), (2, .int v)] 0 0 5 [.int r_1]
  refine k_iconst F (pc := 5) ((nI 1)) dX4_low_5 (by decide) ?_
  refine k_icmp_ne F (pc := 6) 30 dX4_low_6 (by decide) rfl (show (nI 1 : Int32).toInt = 1 by decide) (fun c_4 => ?_) (fun c_4 => ?_)
  · skip
    have hrn := rchV_n1 hre c_4
    refine k_ldc2 F (pc := 30) (4294967296) dX4_low_30 zm_X4_low_c129 ?_
    refine k_lret F Rr (pc := 33) dX4_low_33 ⟨4294967296, rfl, rfl, ?_⟩
    first
    | (rw [bndV, if_neg (fun h => hrn h.1)]; done)
    | (rw [bndV, if_neg (by omega)]; done)
    | rw [bndV, if_pos ⟨hr1, by omega, by omega⟩]
  · skip
    obtain ⟨hr1, hr2, hr3, hr4, hr5⟩ := rchV_1 hre c_4
    have hz_5 : p = nI p.toNatClampNeg := k_nC (by omega)
    have hz_5i := k_nCi (x := p) (by omega)
    refine k_iload_n F (pc := 9) 2 rfl dX4_low_9 rfl ?_
    refine k_iconst F (pc := 10) ((nI 3)) dX4_low_10 (by decide) ?_
    refine k_callS F (pc := 11) [.int v, .int (nI 3)] [] 2 (m_X4_within l E v (nI 3) (3 : Int) (show (nI 3 : Int32).toInt = 3 by decide)) dX4_low_11 gX4_low_X4_within rfl (by decide +kernel) rfl ⟨rfl, rfl⟩ (by decide) rfl (Nat.le_of_ble_eq_true rfl) (by decide) ?_
    rintro v_8 ⟨r_6, rfl, hc_7⟩
    show kK g (wX4 E h cd n rt sc on lo hi non nlo nhi fl tlo thi le gr) [(0, .ref (h 0)), (1, .int p), (2, .int v)] 0 0 14 [.int (bI r_6)]
    refine k_if_eqB F (pc := 14) 30 dX4_low_14 (by decide) (fun c_10 => ?_) (fun c_10 => ?_)
    · skip
      have hb_11 := k_ff hc_7 c_10
      refine k_ldc2 F (pc := 30) (4294967296) dX4_low_30 zm_X4_low_c129 ?_
      refine k_lret F Rr (pc := 33) dX4_low_33 ⟨4294967296, rfl, rfl, ?_⟩
      first
      | (rw [bndV, if_neg (fun h => hrn h.1)]; done)
      | (rw [bndV, if_neg (by omega)]; done)
      | rw [bndV, if_pos ⟨hr1, by omega, by omega⟩]
    · skip
      have hb_12 := hc_7.mp c_10
      have hz_13 : v = nI v.toNatClampNeg := k_nC (by omega)
      have hz_13i := k_nCi (x := v) (by omega)
      refine k_aload_n F (pc := 17) 0 rfl dX4_low_17 rfl ?_
      refine k_get F (pc := 18) (ref := RX4) (C := RX4) (T := TX4) (N := 15) (ci := 4) 0 5 dX4_low_18 zin_X4_low_X4 rfl rfl (by decide) zm_X4_low_f17 rfl rfl ?_
      refine k_iconst F (pc := 21) ((nI 4)) dX4_low_21 (by decide) ?_
      refine k_iload_n F (pc := 22) 1 rfl dX4_low_22 rfl ?_
      refine k_topi (nI p.toNatClampNeg) hz_5 ?_
      refine k_imulN F (pc := 23) dX4_low_23 ?_
      refine k_iload_n F (pc := 24) 2 rfl dX4_low_24 rfl ?_
      refine k_topi (nI v.toNatClampNeg) hz_13 ?_
      refine k_iaddN F (pc := 25) dX4_low_25 ?_
      refine k_lald F (pc := 26) 3 dX4_low_26 rfl (by omega) (by decide) ?_
      refine k_goto F (pc := 27) 33 dX4_low_27 (by decide) ?_
      refine k_lret F Rr (pc := 33) dX4_low_33 ⟨(lo (4 * p.toNatClampNeg + v.toNatClampNeg)), rfl, rfl, ?_⟩
      first
      | (rw [bndV, if_neg (fun h => hrn h.1)]; done)
      | (rw [bndV, if_neg (by omega)]; done)
      | rw [bndV, if_pos ⟨hr1, by omega, by omega⟩]
theorem zm_X4_high_c129 : (Cond.constantLong RX4 129 (4294967296) : Cond) ∈ wsX4_high := by decide +kernel
theorem zm_X4_high_f21 : (Cond.fieldLink RX4 21 RX4 "hi" "[J" : Cond) ∈ wsX4_high := by decide +kernel
theorem zin_X4_high_X4 : ∀ w ∈ u_ws RX4 TX4 15, w ∈ wsX4_high := by decide +kernel
set_option maxHeartbeats 4000000 in
set_option maxRecDepth 100000 in
theorem m_X4_high (l : Launch) (E : kE) (h : Nat → Nat) (cd : Nat → Int32) (n : Nat) (rt : Nat) (sc : Bool) (on : Nat → Bool) (lo : Nat → Int64) (hi : Nat → Int64) (non : Nat → Bool) (nlo : Nat → Int64) (nhi : Nat → Int64) (fl : Nat → Bool) (tlo : Nat → Int64) (thi : Nat → Int64) (le : Int64) (gr : Int64) (p : Int32) (v : Int32) (hn : n ≤ 24) : kC l yX4_high wsX4_high ({ frames := 2, cells := 0, slots := 0, locals := 42 } : Room) E [.ref (h 0), .int p, .int v] (wX4 E h cd n rt sc on lo hi non nlo nhi fl tlo thi le gr) 0 0 (fun v_ w_ => ∃ (r : Int64), v_ = some (.long r) ∧ w_ = (wX4 E h cd n rt sc on lo hi non nlo nhi fl tlo thi le gr) ∧ (r = bndV sc n on hi p v)) := by
  refine kC.enter cX4_high 3 (some .long) [(0, .ref (h 0)), (1, .int p), (2, .int v)] (by decide) rfl (Nat.le_of_ble_eq_true rfl) rfl ?_
  intro g F Rr
  refine k_aload_n F (pc := 0) 0 rfl dX4_high_0 rfl ?_
  refine k_iload_n F (pc := 1) 1 rfl dX4_high_1 rfl ?_
  refine k_callV F (pc := 2) (C := RX4) (T := TX4) (N := 15) (ci := 4) [.int p] [] 1 (wX4 E h cd n rt sc on lo hi non nlo nhi fl tlo thi le gr) [] [0, 1, 2, 3, 4, 5, 6, 7, 8, 9, 10] [] (m_X4_reached l E h cd n rt sc on lo hi non nlo nhi fl tlo thi le gr p (by omega)) dX4_high_2 gX4_high_X4_reached rfl (by decide +kernel) rfl ⟨rfl, rfl⟩ (by decide) rfl (Nat.le_of_ble_eq_true rfl) (by decide) rfl rfl rfl rfl (by decide) (by decide) (by decide) ?_
  rintro v_2 w_3 ⟨r_1, rfl, rfl, hre⟩
  refine k_perm (wX4 E h cd n rt sc on lo hi non nlo nhi fl tlo thi le gr) [0, 1, 2, 3, 4, 5, 6, 7, 8, 9, 10] (by decide) rfl ?_
  show kK g (wX4 E h cd n rt sc on lo hi non nlo nhi fl tlo thi le gr) [(0, .ref (h 0)), (1, .int p), (2, .int v)] 0 0 5 [.int r_1]
  refine k_iconst F (pc := 5) ((nI 1)) dX4_high_5 (by decide) ?_
  refine k_icmp_ne F (pc := 6) 30 dX4_high_6 (by decide) rfl (show (nI 1 : Int32).toInt = 1 by decide) (fun c_4 => ?_) (fun c_4 => ?_)
  · skip
    have hrn := rchV_n1 hre c_4
    refine k_ldc2 F (pc := 30) (4294967296) dX4_high_30 zm_X4_high_c129 ?_
    refine k_lret F Rr (pc := 33) dX4_high_33 ⟨4294967296, rfl, rfl, ?_⟩
    first
    | (rw [bndV, if_neg (fun h => hrn h.1)]; done)
    | (rw [bndV, if_neg (by omega)]; done)
    | rw [bndV, if_pos ⟨hr1, by omega, by omega⟩]
  · skip
    obtain ⟨hr1, hr2, hr3, hr4, hr5⟩ := rchV_1 hre c_4
    have hz_5 : p = nI p.toNatClampNeg := k_nC (by omega)
    have hz_5i := k_nCi (x := p) (by omega)
    refine k_iload_n F (pc := 9) 2 rfl dX4_high_9 rfl ?_
    refine k_iconst F (pc := 10) ((nI 3)) dX4_high_10 (by decide) ?_
    refine k_callS F (pc := 11) [.int v, .int (nI 3)] [] 2 (m_X4_within l E v (nI 3) (3 : Int) (show (nI 3 : Int32).toInt = 3 by decide)) dX4_high_11 gX4_high_X4_within rfl (by decide +kernel) rfl ⟨rfl, rfl⟩ (by decide) rfl (Nat.le_of_ble_eq_true rfl) (by decide) ?_
    rintro v_8 ⟨r_6, rfl, hc_7⟩
    show kK g (wX4 E h cd n rt sc on lo hi non nlo nhi fl tlo thi le gr) [(0, .ref (h 0)), (1, .int p), (2, .int v)] 0 0 14 [.int (bI r_6)]
    refine k_if_eqB F (pc := 14) 30 dX4_high_14 (by decide) (fun c_10 => ?_) (fun c_10 => ?_)
    · skip
      have hb_11 := k_ff hc_7 c_10
      refine k_ldc2 F (pc := 30) (4294967296) dX4_high_30 zm_X4_high_c129 ?_
      refine k_lret F Rr (pc := 33) dX4_high_33 ⟨4294967296, rfl, rfl, ?_⟩
      first
      | (rw [bndV, if_neg (fun h => hrn h.1)]; done)
      | (rw [bndV, if_neg (by omega)]; done)
      | rw [bndV, if_pos ⟨hr1, by omega, by omega⟩]
    · skip
      have hb_12 := hc_7.mp c_10
      have hz_13 : v = nI v.toNatClampNeg := k_nC (by omega)
      have hz_13i := k_nCi (x := v) (by omega)
      refine k_aload_n F (pc := 17) 0 rfl dX4_high_17 rfl ?_
      refine k_get F (pc := 18) (ref := RX4) (C := RX4) (T := TX4) (N := 15) (ci := 4) 0 6 dX4_high_18 zin_X4_high_X4 rfl rfl (by decide) zm_X4_high_f21 rfl rfl ?_
      refine k_iconst F (pc := 21) ((nI 4)) dX4_high_21 (by decide) ?_
      refine k_iload_n F (pc := 22) 1 rfl dX4_high_22 rfl ?_
      refine k_topi (nI p.toNatClampNeg) hz_5 ?_
      refine k_imulN F (pc := 23) dX4_high_23 ?_
      refine k_iload_n F (pc := 24) 2 rfl dX4_high_24 rfl ?_
      refine k_topi (nI v.toNatClampNeg) hz_13 ?_
      refine k_iaddN F (pc := 25) dX4_high_25 ?_
      refine k_lald F (pc := 26) 4 dX4_high_26 rfl (by omega) (by decide) ?_
      refine k_goto F (pc := 27) 33 dX4_high_27 (by decide) ?_
      refine k_lret F Rr (pc := 33) dX4_high_33 ⟨(hi (4 * p.toNatClampNeg + v.toNatClampNeg)), rfl, rfl, ?_⟩
      first
      | (rw [bndV, if_neg (fun h => hrn h.1)]; done)
      | (rw [bndV, if_neg (by omega)]; done)
      | rw [bndV, if_pos ⟨hr1, by omega, by omega⟩]
theorem zm_X4_alarm_f7 : (Cond.fieldLink RX4 7 RX4 "code" "[I" : Cond) ∈ wsX4_alarm := by decide +kernel
theorem zin_X4_alarm_X4 : ∀ w ∈ u_ws RX4 TX4 15, w ∈ wsX4_alarm := by decide +kernel
theorem zm_X4_alarm_f17 : (Cond.fieldLink RX4 17 RX4 "lo" "[J" : Cond) ∈ wsX4_alarm := by decide +kernel
theorem zm_X4_alarm_f21 : (Cond.fieldLink RX4 21 RX4 "hi" "[J" : Cond) ∈ wsX4_alarm := by decide +kernel
theorem zm_X4_alarm_c96 : (Cond.constantLong RX4 96 (7) : Cond) ∈ wsX4_alarm := by decide +kernel
set_option maxHeartbeats 4000000 in
set_option maxRecDepth 100000 in
theorem m_X4_alarm (l : Launch) (E : kE) (h : Nat → Nat) (cd : Nat → Int32) (n : Nat) (rt : Nat) (sc : Bool) (on : Nat → Bool) (lo : Nat → Int64) (hi : Nat → Int64) (non : Nat → Bool) (nlo : Nat → Int64) (nhi : Nat → Int64) (fl : Nat → Bool) (tlo : Nat → Int64) (thi : Nat → Int64) (le : Int64) (gr : Int64) (p : Int32) (hn : n ≤ 24) (hok : ∀ p, p < n → okP cd p) : kC l yX4_alarm wsX4_alarm ({ frames := 2, cells := 0, slots := 0, locals := 42 } : Room) E [.ref (h 0), .int p] (wX4 E h cd n rt sc on lo hi non nlo nhi fl tlo thi le gr) 0 0 (fun v_ w_ => ∃ (r : Int32), v_ = some (.int r) ∧ w_ = (wX4 E h cd n rt sc on lo hi non nlo nhi fl tlo thi le gr) ∧ (r = almV cd sc n on lo hi p)) := by
  refine kC.enter cX4_alarm 5 (some .int) [(0, .ref (h 0)), (1, .int p)] (by decide) rfl (Nat.le_of_ble_eq_true rfl) rfl ?_
  intro g F Rr
  refine k_aload_n F (pc := 0) 0 rfl dX4_alarm_0 rfl ?_
  refine k_iload_n F (pc := 1) 1 rfl dX4_alarm_1 rfl ?_
  refine k_callV F (pc := 2) (C := RX4) (T := TX4) (N := 15) (ci := 4) [.int p] [] 1 (wX4 E h cd n rt sc on lo hi non nlo nhi fl tlo thi le gr) [] [0, 1, 2, 3, 4, 5, 6, 7, 8, 9, 10] [] (m_X4_reached l E h cd n rt sc on lo hi non nlo nhi fl tlo thi le gr p (by omega)) dX4_alarm_2 gX4_alarm_X4_reached rfl (by decide +kernel) rfl ⟨rfl, rfl⟩ (by decide) rfl (Nat.le_of_ble_eq_true rfl) (by decide) rfl rfl rfl rfl (by decide) (by decide) (by decide) ?_
  rintro v_2 w_3 ⟨r_1, rfl, rfl, hre⟩
  refine k_perm (wX4 E h cd n rt sc on lo hi non nlo nhi fl tlo thi le gr) [0, 1, 2, 3, 4, 5, 6, 7, 8, 9, 10] (by decide) rfl ?_
  show kK g (wX4 E h cd n rt sc on lo hi non nlo nhi fl tlo thi le gr) [(0, .ref (h 0)), (1, .int p)] 0 0 5 [.int r_1]
  refine k_iconst F (pc := 5) ((nI 1)) dX4_alarm_5 (by decide) ?_
  refine k_icmp_eq F (pc := 6) 11 dX4_alarm_6 (by decide) rfl (show (nI 1 : Int32).toInt = 1 by decide) (fun c_4 => ?_) (fun c_4 => ?_)
  · skip
    obtain ⟨hr1, hr2, hr3, hr4, hr5⟩ := rchV_1 hre c_4
    have hz_5 : p = nI p.toNatClampNeg := k_nC (by omega)
    have hz_5i := k_nCi (x := p) (by omega)
    refine k_aload_n F (pc := 11) 0 rfl dX4_alarm_11 rfl ?_
    refine k_get F (pc := 12) (ref := RX4) (C := RX4) (T := TX4) (N := 15) (ci := 4) 0 0 dX4_alarm_12 zin_X4_alarm_X4 rfl rfl (by decide) zm_X4_alarm_f7 rfl rfl ?_
    refine k_iconst F (pc := 15) ((nI 4)) dX4_alarm_15 (by decide) ?_
    refine k_iload_n F (pc := 16) 1 rfl dX4_alarm_16 rfl ?_
    refine k_topi (nI p.toNatClampNeg) hz_5 ?_
    refine k_imulN F (pc := 17) dX4_alarm_17 ?_
    refine k_iald F (pc := 18) 1 dX4_alarm_18 rfl (by omega) (by decide) ?_
    refine k_istore_n F (pc := 19) [(2, .int (cd (4 * p.toNatClampNeg))), (0, .ref (h 0)), (1, .int p)] dX4_alarm_19 rfl (by decide) rfl ?_
    refine k_iconst F (pc := 20) ((nI 4)) dX4_alarm_20 (by decide) ?_
    refine k_iload_n F (pc := 21) 2 rfl dX4_alarm_21 rfl ?_
    refine k_topi (nI p.toNatClampNeg) hz_5 ?_
    refine k_imulN F (pc := 22) dX4_alarm_22 ?_
    refine k_aload_n F (pc := 23) 1 rfl dX4_alarm_23 rfl ?_
    refine k_get F (pc := 24) (ref := RX4) (C := RX4) (T := TX4) (N := 15) (ci := 4) 0 0 dX4_alarm_24 zin_X4_alarm_X4 rfl rfl (by decide) zm_X4_alarm_f7 rfl rfl ?_
    refine k_iconst F (pc := 27) ((nI 4)) dX4_alarm_27 (by decide) ?_
    refine k_iload_n F (pc := 28) 2 rfl dX4_alarm_28 rfl ?_
    refine k_topi (nI p.toNatClampNeg) hz_5 ?_
    refine k_imulN F (pc := 29) dX4_alarm_29 ?_
    refine k_iconst F (pc := 30) ((nI 2)) dX4_alarm_30 (by decide) ?_
    refine k_iaddN F (pc := 31) dX4_alarm_31 ?_
    refine k_iald F (pc := 32) 1 dX4_alarm_32 rfl (by omega) (by decide) ?_
    refine k_iadd F (pc := 33) dX4_alarm_33 ?_
    refine k_istore_n F (pc := 34) [(3, .int ((nI (4 * p.toNatClampNeg)) + (cd (4 * p.toNatClampNeg + 2)))), (2, .int (cd (4 * p.toNatClampNeg))), (0, .ref (h 0)), (1, .int p)] dX4_alarm_34 rfl (by decide) rfl ?_
    refine k_iconst F (pc := 35) ((nI 4)) dX4_alarm_35 (by decide) ?_
    refine k_iload_n F (pc := 36) 3 rfl dX4_alarm_36 rfl ?_
    refine k_topi (nI p.toNatClampNeg) hz_5 ?_
    refine k_imulN F (pc := 37) dX4_alarm_37 ?_
    refine k_aload_n F (pc := 38) 2 rfl dX4_alarm_38 rfl ?_
    refine k_get F (pc := 39) (ref := RX4) (C := RX4) (T := TX4) (N := 15) (ci := 4) 0 0 dX4_alarm_39 zin_X4_alarm_X4 rfl rfl (by decide) zm_X4_alarm_f7 rfl rfl ?_
    refine k_iconst F (pc := 42) ((nI 4)) dX4_alarm_42 (by decide) ?_
    refine k_iload_n F (pc := 43) 3 rfl dX4_alarm_43 rfl ?_
    refine k_topi (nI p.toNatClampNeg) hz_5 ?_
    refine k_imulN F (pc := 44) dX4_alarm_44 ?_
    refine k_iconst F (pc := 45) ((nI 3)) dX4_alarm_45 (by decide) ?_
    refine k_iaddN F (pc := 46) dX4_alarm_46 ?_
    refine k_iald F (pc := 47) 1 dX4_alarm_47 rfl (by omega) (by decide) ?_
    refine k_iadd F (pc := 48) dX4_alarm_48 ?_
    refine k_istore F (pc := 49) [(4, .int ((nI (4 * p.toNatClampNeg)) + (cd (4 * p.toNatClampNeg + 3)))), (3, .int ((nI (4 * p.toNatClampNeg)) + (cd (4 * p.toNatClampNeg + 2)))), (2, .int (cd (4 * p.toNatClampNeg))), (0, .ref (h 0)), (1, .int p)] dX4_alarm_49 (by decide) rfl ?_
    refine k_iload_n F (pc := 51) 2 rfl dX4_alarm_51 rfl ?_
    refine k_bipush F (pc := 52) ((nI 6)) dX4_alarm_52 (by decide) ?_
    refine k_icmp_ne F (pc := 54) 87 dX4_alarm_54 (by decide) rfl (show (nI 6 : Int32).toInt = 6 by decide) (fun c_6 => ?_) (fun c_6 => ?_)
    · skip
      have J99 : ((cd (4 * p.toNatClampNeg)).toInt = 7 ∨ (cd (4 * p.toNatClampNeg)).toInt = 8) → kK g (wX4 E h cd n rt sc on lo hi non nlo nhi fl tlo thi le gr) [(0, .ref (h 0)), (1, .int p), (2, .int (cd (4 * p.toNatClampNeg))), (3, .int ((nI (4 * p.toNatClampNeg)) + (cd (4 * p.toNatClampNeg + 2)))), (4, .int ((nI (4 * p.toNatClampNeg)) + (cd (4 * p.toNatClampNeg + 3))))] 0 0 99 [] := by
        intro ho78
        obtain ⟨hc1, hc2⟩ := okP_b (hok p.toNatClampNeg (by omega)) (by omega)
        have hz9 : nI (4 * p.toNatClampNeg) + cd (4 * p.toNatClampNeg + 2) = nI (4 * p.toNatClampNeg + (cd (4 * p.toNatClampNeg + 2)).toNatClampNeg) := by rw [← nI_add, ← hc1]
        refine k_aload_n F (pc := 99) 0 rfl dX4_alarm_99 rfl ?_
        refine k_get F (pc := 100) (ref := RX4) (C := RX4) (T := TX4) (N := 15) (ci := 4) 0 5 dX4_alarm_100 zin_X4_alarm_X4 rfl rfl (by decide) zm_X4_alarm_f17 rfl rfl ?_
        refine k_iload_n F (pc := 103) 3 rfl dX4_alarm_103 rfl ?_
        refine k_topi (nI (4 * p.toNatClampNeg + (cd (4 * p.toNatClampNeg + 2)).toNatClampNeg)) hz9 ?_
        refine k_lald F (pc := 104) 3 dX4_alarm_104 rfl (by omega) (by decide) ?_
        refine k_lconst F (pc := 105) 0 dX4_alarm_105 (by decide) ?_
        refine k_lcmp_lt F (pc := 106) 123 dX4_alarm_106 dX4_alarm_107 (by decide) (fun c_7 => ?_) (fun c_7 => ?_)
        · skip
          refine k_iconst F (pc := 123) ((nI 2)) dX4_alarm_123 (by decide) ?_
          refine k_goto F (pc := 124) 128 dX4_alarm_124 (by decide) ?_
          refine k_iret F Rr (pc := 128) dX4_alarm_128 ⟨(nI 2), rfl, rfl, ?_⟩
          rw [almV, if_pos hr1, if_neg (by omega), if_pos (by omega)]
          first
          | (rw [if_pos (Or.inl (by assumption))]; rfl)
          | (rw [if_pos (Or.inr (by assumption))]; rfl)
          | (rw [if_neg (by rintro (h | h) <;> exact absurd h (by assumption))]; rfl)
        · skip
          refine k_aload_n F (pc := 110) 0 rfl dX4_alarm_110 rfl ?_
          refine k_get F (pc := 111) (ref := RX4) (C := RX4) (T := TX4) (N := 15) (ci := 4) 0 6 dX4_alarm_111 zin_X4_alarm_X4 rfl rfl (by decide) zm_X4_alarm_f21 rfl rfl ?_
          refine k_iload_n F (pc := 114) 3 rfl dX4_alarm_114 rfl ?_
          refine k_topi (nI (4 * p.toNatClampNeg + (cd (4 * p.toNatClampNeg + 2)).toNatClampNeg)) hz9 ?_
          refine k_lald F (pc := 115) 4 dX4_alarm_115 rfl (by omega) (by decide) ?_
          refine k_ldc2 F (pc := 116) (7) dX4_alarm_116 zm_X4_alarm_c96 ?_
          refine k_lcmp_le F (pc := 119) 127 dX4_alarm_119 dX4_alarm_120 (by decide) (fun c_8 => ?_) (fun c_8 => ?_)
          · skip
            refine k_iconst F (pc := 127) ((nI 0)) dX4_alarm_127 (by decide) ?_
            refine k_iret F Rr (pc := 128) dX4_alarm_128 ⟨(nI 0), rfl, rfl, ?_⟩
            rw [almV, if_pos hr1, if_neg (by omega), if_pos (by omega)]
            first
            | (rw [if_pos (Or.inl (by assumption))]; rfl)
            | (rw [if_pos (Or.inr (by assumption))]; rfl)
            | (rw [if_neg (by rintro (h | h) <;> exact absurd h (by assumption))]; rfl)
          · skip
            refine k_iconst F (pc := 123) ((nI 2)) dX4_alarm_123 (by decide) ?_
            refine k_goto F (pc := 124) 128 dX4_alarm_124 (by decide) ?_
            refine k_iret F Rr (pc := 128) dX4_alarm_128 ⟨(nI 2), rfl, rfl, ?_⟩
            rw [almV, if_pos hr1, if_neg (by omega), if_pos (by omega)]
            first
            | (rw [if_pos (Or.inl (by assumption))]; rfl)
            | (rw [if_pos (Or.inr (by assumption))]; rfl)
            | (rw [if_neg (by rintro (h | h) <;> exact absurd h (by assumption))]; rfl)
      refine k_iload_n F (pc := 87) 2 rfl dX4_alarm_87 rfl ?_
      refine k_bipush F (pc := 88) ((nI 7)) dX4_alarm_88 (by decide) ?_
      refine k_icmp_eq F (pc := 90) 99 dX4_alarm_90 (by decide) rfl (show (nI 7 : Int32).toInt = 7 by decide) (fun c_9 => ?_) (fun c_9 => ?_)
      · skip
        refine k_lv [(0, .ref (h 0)), (1, .int p), (2, .int (cd (4 * p.toNatClampNeg))), (3, .int ((nI (4 * p.toNatClampNeg)) + (cd (4 * p.toNatClampNeg + 2)))), (4, .int ((nI (4 * p.toNatClampNeg)) + (cd (4 * p.toNatClampNeg + 3))))] [3, 4, 2, 1, 0] rfl ?_
        exact J99  (by omega)
      · skip
        refine k_iload_n F (pc := 93) 2 rfl dX4_alarm_93 rfl ?_
        refine k_bipush F (pc := 94) ((nI 8)) dX4_alarm_94 (by decide) ?_
        refine k_icmp_ne F (pc := 96) 129 dX4_alarm_96 (by decide) rfl (show (nI 8 : Int32).toInt = 8 by decide) (fun c_10 => ?_) (fun c_10 => ?_)
        · skip
          refine k_iconst F (pc := 129) ((nI 0)) dX4_alarm_129 (by decide) ?_
          refine k_iret F Rr (pc := 130) dX4_alarm_130 ⟨(nI 0), rfl, rfl, ?_⟩
          rw [almV, if_pos hr1, if_neg (by omega), if_neg (by omega)]; rfl
        · skip
          refine k_lv [(0, .ref (h 0)), (1, .int p), (2, .int (cd (4 * p.toNatClampNeg))), (3, .int ((nI (4 * p.toNatClampNeg)) + (cd (4 * p.toNatClampNeg + 2)))), (4, .int ((nI (4 * p.toNatClampNeg)) + (cd (4 * p.toNatClampNeg + 3))))] [3, 4, 2, 1, 0] rfl ?_
          exact J99  (by omega)
    · skip
      obtain ⟨hc1, hc2⟩ := okP_c (hok p.toNatClampNeg (by omega)) (by omega)
      have hz9 : nI (4 * p.toNatClampNeg) + cd (4 * p.toNatClampNeg + 3) = nI (4 * p.toNatClampNeg + (cd (4 * p.toNatClampNeg + 3)).toNatClampNeg) := by rw [← nI_add, ← hc1]
      refine k_aload_n F (pc := 57) 3 rfl dX4_alarm_57 rfl ?_
      refine k_get F (pc := 58) (ref := RX4) (C := RX4) (T := TX4) (N := 15) (ci := 4) 0 5 dX4_alarm_58 zin_X4_alarm_X4 rfl rfl (by decide) zm_X4_alarm_f17 rfl rfl ?_
      refine k_iload F (pc := 61) 0 rfl dX4_alarm_61 ?_
      refine k_topi (nI (4 * p.toNatClampNeg + (cd (4 * p.toNatClampNeg + 3)).toNatClampNeg)) hz9 ?_
      refine k_lald F (pc := 63) 3 dX4_alarm_63 rfl (by omega) (by decide) ?_
      refine k_lconst F (pc := 64) 0 dX4_alarm_64 (by decide) ?_
      refine k_lcmp_gt F (pc := 65) 85 dX4_alarm_65 dX4_alarm_66 (by decide) (fun c_11 => ?_) (fun c_11 => ?_)
      · skip
        refine k_iconst F (pc := 85) ((nI 0)) dX4_alarm_85 (by decide) ?_
        refine k_iret F Rr (pc := 86) dX4_alarm_86 ⟨(nI 0), rfl, rfl, ?_⟩
        rw [almV, if_pos hr1, if_pos (by assumption)]
        first
        | (rw [if_pos ⟨by assumption, by assumption⟩]; rfl)
        | (rw [if_neg (fun h => h.1 (by assumption))]; rfl)
        | (rw [if_neg (fun h => h.2 (by assumption))]; rfl)
      · skip
        refine k_aload_n F (pc := 69) 3 rfl dX4_alarm_69 rfl ?_
        refine k_get F (pc := 70) (ref := RX4) (C := RX4) (T := TX4) (N := 15) (ci := 4) 0 6 dX4_alarm_70 zin_X4_alarm_X4 rfl rfl (by decide) zm_X4_alarm_f21 rfl rfl ?_
        refine k_iload F (pc := 73) 0 rfl dX4_alarm_73 ?_
        refine k_topi (nI (4 * p.toNatClampNeg + (cd (4 * p.toNatClampNeg + 3)).toNatClampNeg)) hz9 ?_
        refine k_lald F (pc := 75) 4 dX4_alarm_75 rfl (by omega) (by decide) ?_
        refine k_lconst F (pc := 76) 0 dX4_alarm_76 (by decide) ?_
        refine k_lcmp_lt F (pc := 77) 85 dX4_alarm_77 dX4_alarm_78 (by decide) (fun c_12 => ?_) (fun c_12 => ?_)
        · skip
          refine k_iconst F (pc := 85) ((nI 0)) dX4_alarm_85 (by decide) ?_
          refine k_iret F Rr (pc := 86) dX4_alarm_86 ⟨(nI 0), rfl, rfl, ?_⟩
          rw [almV, if_pos hr1, if_pos (by assumption)]
          first
          | (rw [if_pos ⟨by assumption, by assumption⟩]; rfl)
          | (rw [if_neg (fun h => h.1 (by assumption))]; rfl)
          | (rw [if_neg (fun h => h.2 (by assumption))]; rfl)
        · skip
          refine k_iconst F (pc := 81) ((nI 1)) dX4_alarm_81 (by decide) ?_
          refine k_goto F (pc := 82) 86 dX4_alarm_82 (by decide) ?_
          refine k_iret F Rr (pc := 86) dX4_alarm_86 ⟨(nI 1), rfl, rfl, ?_⟩
          rw [almV, if_pos hr1, if_pos (by assumption)]
          first
          | (rw [if_pos ⟨by assumption, by assumption⟩]; rfl)
          | (rw [if_neg (fun h => h.1 (by assumption))]; rfl)
          | (rw [if_neg (fun h => h.2 (by assumption))]; rfl)
  · skip
    have hrn := rchV_n1 hre c_4
    refine k_iconst F (pc := 9) ((nI 0)) dX4_alarm_9 (by decide) ?_
    refine k_iret F Rr (pc := 10) dX4_alarm_10 ⟨(nI 0), rfl, rfl, ?_⟩
    rw [almV, if_neg hrn]; rfl
set_option maxHeartbeats 4000000 in
set_option maxRecDepth 100000 in
theorem m_X4_target__0 (l : Launch) (E : kE) (h : Nat → Nat) (cd : Nat → Int32) (n : Nat) (rt : Nat) (sc : Bool) (on : Nat → Bool) (lo : Nat → Int64) (hi : Nat → Int64) (non : Nat → Bool) (nlo : Nat → Int64) (nhi : Nat → Int64) (fl : Nat → Bool) (tlo : Nat → Int64) (thi : Nat → Int64) (le : Int64) (gr : Int64) (p : Nat) (hp : p < 24) : kC l yX4_target wsX4_target ({ frames := 0, cells := 0, slots := 0, locals := 0 } : Room) E [.ref (h 0), .int (nI p), .int (nI 0)] (wX4 E h cd n rt sc on lo hi non nlo nhi fl tlo thi le gr) 0 0 (fun v_ w_ => v_ = some (.int (nI (p + 1))) ∧ w_ = (wX4 E h cd n rt sc on lo hi non nlo nhi fl tlo thi le gr)) := by
  refine kC.enter cX4_target 3 (some .int) [(0, .ref (h 0)), (1, .int (nI p)), (2, .int (nI 0))] (by decide) rfl (Nat.le_of_ble_eq_true rfl) rfl ?_
  intro g F Rr
  refine k_iload_n F (pc := 0) 2 rfl dX4_target_0 rfl ?_
  refine k_if_ne F (pc := 1) 10 dX4_target_1 (by decide) (show (nI 0 : Int32).toInt = 0 by decide) (fun c_1 => ?_) (fun c_1 => ?_)
  · skip
    exact absurd c_1 (by decide)
  · skip
    refine k_iload_n F (pc := 4) 1 rfl dX4_target_4 rfl ?_
    refine k_iconst F (pc := 5) ((nI 1)) dX4_target_5 (by decide) ?_
    refine k_iaddN F (pc := 6) dX4_target_6 ?_
    refine k_goto F (pc := 7) 20 dX4_target_7 (by decide) ?_
    exact k_iret F Rr (pc := 20) dX4_target_20 ⟨rfl, rfl⟩
theorem zm_X4_target__1_f7 : (Cond.fieldLink RX4 7 RX4 "code" "[I" : Cond) ∈ wsX4_target := by decide +kernel
theorem zin_X4_target__1_X4 : ∀ w ∈ u_ws RX4 TX4 15, w ∈ wsX4_target := by decide +kernel
set_option maxHeartbeats 4000000 in
set_option maxRecDepth 100000 in
theorem m_X4_target__1 (l : Launch) (E : kE) (h : Nat → Nat) (cd : Nat → Int32) (n : Nat) (rt : Nat) (sc : Bool) (on : Nat → Bool) (lo : Nat → Int64) (hi : Nat → Int64) (non : Nat → Bool) (nlo : Nat → Int64) (nhi : Nat → Int64) (fl : Nat → Bool) (tlo : Nat → Int64) (thi : Nat → Int64) (le : Int64) (gr : Int64) (p : Nat) (hp : p < 24) : kC l yX4_target wsX4_target ({ frames := 0, cells := 0, slots := 0, locals := 0 } : Room) E [.ref (h 0), .int (nI p), .int (nI 1)] (wX4 E h cd n rt sc on lo hi non nlo nhi fl tlo thi le gr) 0 0 (fun v_ w_ => v_ = some (.int (cd (4 * p + 3))) ∧ w_ = (wX4 E h cd n rt sc on lo hi non nlo nhi fl tlo thi le gr)) := by
  refine kC.enter cX4_target 3 (some .int) [(0, .ref (h 0)), (1, .int (nI p)), (2, .int (nI 1))] (by decide) rfl (Nat.le_of_ble_eq_true rfl) rfl ?_
  intro g F Rr
  refine k_iload_n F (pc := 0) 2 rfl dX4_target_0 rfl ?_
  refine k_if_ne F (pc := 1) 10 dX4_target_1 (by decide) (show (nI 1 : Int32).toInt = 1 by decide) (fun c_1 => ?_) (fun c_1 => ?_)
  · skip
    refine k_aload_n F (pc := 10) 0 rfl dX4_target_10 rfl ?_
    refine k_get F (pc := 11) (ref := RX4) (C := RX4) (T := TX4) (N := 15) (ci := 4) 0 0 dX4_target_11 zin_X4_target__1_X4 rfl rfl (by decide) zm_X4_target__1_f7 rfl rfl ?_
    refine k_iconst F (pc := 14) ((nI 4)) dX4_target_14 (by decide) ?_
    refine k_iload_n F (pc := 15) 1 rfl dX4_target_15 rfl ?_
    refine k_imulN F (pc := 16) dX4_target_16 ?_
    refine k_iconst F (pc := 17) ((nI 3)) dX4_target_17 (by decide) ?_
    refine k_iaddN F (pc := 18) dX4_target_18 ?_
    refine k_iald F (pc := 19) 1 dX4_target_19 rfl (by omega) (by decide) ?_
    exact k_iret F Rr (pc := 20) dX4_target_20 ⟨rfl, rfl⟩
  · skip
    exact absurd c_1 (by decide)
