theorem zm_X3_reached_f17 : (Cond.fieldLink RX3 17 RX3 "scanned" "Z" : Cond) ∈ wsX3_reached := by decide +kernel
theorem zin_X3_reached_X3 : ∀ w ∈ u_ws RX3 TX3 8, w ∈ wsX3_reached := by decide +kernel
theorem zm_X3_reached_f31 : (Cond.fieldLink RX3 31 RX3 "settled" "LRangeScan$States;" : Cond) ∈ wsX3_reached := by decide +kernel
set_option maxHeartbeats 4000000 in
set_option maxRecDepth 100000 in
theorem m_X3_reached (l : Launch) (E : kE) (h : Nat → Nat) (cd : Nat → Int32) (n : Nat) (sc : Bool) (rt : Nat) (on : Nat → Bool) (lo : Nat → Int64) (hi : Nat → Int64) (son : Nat → Bool) (slo : Nat → Int64) (shi : Nat → Int64) (fs : Bool) (lf : Nat → Int64) (hf : Nat → Int64) (em : Bool) (le : Int64) (gr : Int64) (p : Int32) (hn : n ≤ 24) : kC l yX3_reached wsX3_reached ({ frames := 1, cells := 0, slots := 0, locals := 21 } : Room) E [.ref (h 0), .int p] (wX3 E h cd n sc rt on lo hi son slo shi fs lf hf em le gr) 0 0 (fun v_ w_ => ∃ (r : Int32), v_ = some (.int r) ∧ w_ = (wX3 E h cd n sc rt on lo hi son slo shi fs lf hf em le gr) ∧ (r = rchV sc n son p)) := by
  refine kC.enter cX3_reached 2 (some .int) [(0, .ref (h 0)), (1, .int p)] (by decide) rfl (Nat.le_of_ble_eq_true rfl) rfl ?_
  intro g F Rr
  refine k_aload_n F (pc := 0) 0 rfl dX3_reached_0 rfl ?_
  refine k_get F (pc := 1) (ref := RX3) (C := RX3) (T := TX3) (N := 8) (ci := 3) 0 2 dX3_reached_1 zin_X3_reached_X3 rfl rfl (by decide) zm_X3_reached_f17 rfl rfl ?_
  refine k_if_eqB F (pc := 4) 15 dX3_reached_4 (by decide) (fun c_1 => ?_) (fun c_1 => ?_)
  · skip
    refine k_iconst F (pc := 15) ((-1)) dX3_reached_15 (by decide) ?_
    refine k_iret F Rr (pc := 16) dX3_reached_16 ⟨(-1), rfl, rfl, ?_⟩
    first
    | exact (rchV_f1 (by assumption)).symm
    | exact (rchV_f2 (by assumption)).symm
  · skip
    refine k_aload_n F (pc := 7) 0 rfl dX3_reached_7 rfl ?_
    refine k_iload_n F (pc := 8) 1 rfl dX3_reached_8 rfl ?_
    refine k_callV F (pc := 9) (C := RX3) (T := TX3) (N := 8) (ci := 3) [.int p] [] 1 (wX3 E h cd n sc rt on lo hi son slo shi fs lf hf em le gr) [] [0, 1, 2, 3, 4, 5, 6, 7, 8, 9, 10, 11, 12, 13] [] (m_X3_isInstruction l E h cd n sc rt on lo hi son slo shi fs lf hf em le gr p (by omega)) dX3_reached_9 gX3_reached_X3_isInstruction rfl (by decide +kernel) rfl ⟨rfl, rfl⟩ (by decide) rfl (Nat.le_of_ble_eq_true rfl) (by decide) rfl rfl rfl rfl (by decide) (by decide) (by decide) ?_
    rintro v_4 w_5 ⟨r_2, rfl, rfl, hc_3⟩
    refine k_perm (wX3 E h cd n sc rt on lo hi son slo shi fs lf hf em le gr) [0, 1, 2, 3, 4, 5, 6, 7, 8, 9, 10, 11, 12, 13] (by decide) rfl ?_
    show kK g (wX3 E h cd n sc rt on lo hi son slo shi fs lf hf em le gr) [(0, .ref (h 0)), (1, .int p)] 0 0 12 [.int (bI r_2)]
    refine k_if_neB F (pc := 12) 17 dX3_reached_12 (by decide) (fun c_6 => ?_) (fun c_6 => ?_)
    · skip
      have hb_7 := hc_3.mp c_6
      have hz_8 : p = nI p.toNatClampNeg := k_nC (by omega)
      have hz_8i := k_nCi (x := p) (by omega)
      refine k_aload_n F (pc := 17) 0 rfl dX3_reached_17 rfl ?_
      refine k_get F (pc := 18) (ref := RX3) (C := RX3) (T := TX3) (N := 8) (ci := 3) 0 5 dX3_reached_18 zin_X3_reached_X3 rfl rfl (by decide) zm_X3_reached_f31 rfl rfl ?_
      refine k_iload_n F (pc := 21) 1 rfl dX3_reached_21 rfl ?_
      refine k_topi (nI p.toNatClampNeg) hz_8 ?_
      refine k_callV F (pc := 22) (C := RX2) (T := TX2) (N := 3) (ci := 2) [.int (nI p.toNatClampNeg)] [] 1 (wX2 E (h 6) (h 7) (h 8) (h 9) son slo shi) [cObj (h 0) 3 [.ref (h 1), .int (nI n), .int (bI sc), .int (nI rt), .ref (h 2), .ref (h 6), .ref (h 10), .ref (h 13)], cInt E (h 1) 96 cd, cObj (h 2) 2 [.ref (h 3), .ref (h 4), .ref (h 5)], cBoo E (h 3) 24 on, cLng E (h 4) 96 lo, cLng E (h 5) 96 hi, cObj (h 10) 0 [.int (bI fs), .ref (h 11), .ref (h 12)], cLng E (h 11) 4 lf, cLng E (h 12) 4 hf, cObj (h 13) 1 [.int (bI em), .long le, .long gr]] [6, 7, 8, 9] [0, 1, 2, 3, 4, 5, 10, 11, 12, 13] (m_X2_isSomewhere l E (h 6) (h 7) (h 8) (h 9) son slo shi p.toNatClampNeg (by omega)) dX3_reached_22 gX3_reached_X2_isSomewhere rfl (by decide +kernel) rfl ⟨rfl, rfl⟩ (by decide) rfl (Nat.le_of_ble_eq_true rfl) (by decide) rfl rfl rfl rfl (by decide) (by decide) (by decide) ?_
      rintro v_9 w_10 ⟨rfl, rfl⟩
      refine k_perm (wX3 E h cd n sc rt on lo hi son slo shi fs lf hf em le gr) [0, 1, 2, 3, 4, 5, 10, 11, 12, 13, 6, 7, 8, 9] (by decide) rfl ?_
      show kK g (wX3 E h cd n sc rt on lo hi son slo shi fs lf hf em le gr) [(0, .ref (h 0)), (1, .int p)] 0 0 25 [.int (bI (son p.toNatClampNeg))]
      refine k_if_eqB F (pc := 25) 32 dX3_reached_25 (by decide) (fun c_11 => ?_) (fun c_11 => ?_)
      · skip
        refine k_iconst F (pc := 32) ((nI 0)) dX3_reached_32 (by decide) ?_
        refine k_iret F Rr (pc := 33) dX3_reached_33 ⟨(nI 0), rfl, rfl, ?_⟩
        rw [rchV_t (by assumption) (by assumption), (by assumption : son p.toNatClampNeg = _)]; rfl
      · skip
        refine k_iconst F (pc := 28) ((nI 1)) dX3_reached_28 (by decide) ?_
        refine k_goto F (pc := 29) 33 dX3_reached_29 (by decide) ?_
        refine k_iret F Rr (pc := 33) dX3_reached_33 ⟨(nI 1), rfl, rfl, ?_⟩
        rw [rchV_t (by assumption) (by assumption), (by assumption : son p.toNatClampNeg = _)]; rfl
    · skip
      have hb_12 := k_ff hc_3 c_6
      refine k_iconst F (pc := 15) ((-1)) dX3_reached_15 (by decide) ?_
      refine k_iret F Rr (pc := 16) dX3_reached_16 ⟨(-1), rfl, rfl, ?_⟩
      first
      | exact (rchV_f1 (by assumption)).symm
      | exact (rchV_f2 (by assumption)).symm
theorem zm_X3_low_c90 : (Cond.constantLong RX3 90 (4294967296) : Cond) ∈ wsX3_low := by decide +kernel
theorem zm_X3_low_f31 : (Cond.fieldLink RX3 31 RX3 "settled" "LRangeScan$States;" : Cond) ∈ wsX3_low := by decide +kernel
theorem zin_X3_low_X3 : ∀ w ∈ u_ws RX3 TX3 8, w ∈ wsX3_low := by decide +kernel
set_option maxHeartbeats 4000000 in
set_option maxRecDepth 100000 in
theorem m_X3_low (l : Launch) (E : kE) (h : Nat → Nat) (cd : Nat → Int32) (n : Nat) (sc : Bool) (rt : Nat) (on : Nat → Bool) (lo : Nat → Int64) (hi : Nat → Int64) (son : Nat → Bool) (slo : Nat → Int64) (shi : Nat → Int64) (fs : Bool) (lf : Nat → Int64) (hf : Nat → Int64) (em : Bool) (le : Int64) (gr : Int64) (p : Int32) (v : Int32) (hn : n ≤ 24) : kC l yX3_low wsX3_low ({ frames := 2, cells := 0, slots := 0, locals := 42 } : Room) E [.ref (h 0), .int p, .int v] (wX3 E h cd n sc rt on lo hi son slo shi fs lf hf em le gr) 0 0 (fun v_ w_ => ∃ (r : Int64), v_ = some (.long r) ∧ w_ = (wX3 E h cd n sc rt on lo hi son slo shi fs lf hf em le gr) ∧ (r = bndV sc n son slo p v)) := by
  refine kC.enter cX3_low 3 (some .long) [(0, .ref (h 0)), (1, .int p), (2, .int v)] (by decide) rfl (Nat.le_of_ble_eq_true rfl) rfl ?_
  intro g F Rr
  refine k_aload_n F (pc := 0) 0 rfl dX3_low_0 rfl ?_
  refine k_iload_n F (pc := 1) 1 rfl dX3_low_1 rfl ?_
  refine k_callV F (pc := 2) (C := RX3) (T := TX3) (N := 8) (ci := 3) [.int p] [] 1 (wX3 E h cd n sc rt on lo hi son slo shi fs lf hf em le gr) [] [0, 1, 2, 3, 4, 5, 6, 7, 8, 9, 10, 11, 12, 13] [] (m_X3_reached l E h cd n sc rt on lo hi son slo shi fs lf hf em le gr p (by omega)) dX3_low_2 gX3_low_X3_reached rfl (by decide +kernel) rfl ⟨rfl, rfl⟩ (by decide) rfl (Nat.le_of_ble_eq_true rfl) (by decide) rfl rfl rfl rfl (by decide) (by decide) (by decide) ?_
  rintro v_2 w_3 ⟨r_1, rfl, rfl, hre⟩
  refine k_perm (wX3 E h cd n sc rt on lo hi son slo shi fs lf hf em le gr) [0, 1, 2, 3, 4, 5, 6, 7, 8, 9, 10, 11, 12, 13] (by decide) rfl ?_
  show kK g (wX3 E h cd n sc rt on lo hi son slo shi fs lf hf em le gr) [(0, .ref (h 0)), (1, .int p), (2, .int v)] 0 0 5 [.int r_1]
  refine k_iconst F (pc := 5) ((nI 1)) dX3_low_5 (by decide) ?_
  refine k_icmp_ne F (pc := 6) 16 dX3_low_6 (by decide) rfl (show (nI 1 : Int32).toInt = 1 by decide) (fun c_4 => ?_) (fun c_4 => ?_)
  · skip
    have hrn := rchV_n1 hre c_4
    refine k_ldc2 F (pc := 16) (4294967296) dX3_low_16 zm_X3_low_c90 ?_
    refine k_lret F Rr (pc := 19) dX3_low_19 ⟨4294967296, rfl, rfl, ?_⟩
    rw [bndV, if_neg]
    first
    | exact fun h => hrn h.1
    | (intro h; omega)
  · skip
    obtain ⟨hr1, hr2, hr3, hr4, hr5⟩ := rchV_1 hre c_4
    have hz_5 : p = nI p.toNatClampNeg := k_nC (by omega)
    have hz_5i := k_nCi (x := p) (by omega)
    refine k_iload_n F (pc := 9) 2 rfl dX3_low_9 rfl ?_
    refine k_callS F (pc := 10) [.int v] [] 1 (m_X3_isVariable l E v) dX3_low_10 gX3_low_X3_isVariable rfl (by decide +kernel) rfl ⟨rfl, rfl⟩ (by decide) rfl (Nat.le_of_ble_eq_true rfl) (by decide) ?_
    rintro v_8 ⟨r_6, rfl, hc_7⟩
    show kK g (wX3 E h cd n sc rt on lo hi son slo shi fs lf hf em le gr) [(0, .ref (h 0)), (1, .int p), (2, .int v)] 0 0 13 [.int (bI r_6)]
    refine k_if_neB F (pc := 13) 20 dX3_low_13 (by decide) (fun c_10 => ?_) (fun c_10 => ?_)
    · skip
      have hb_11 := hc_7.mp c_10
      have hz_12 : v = nI v.toNatClampNeg := k_nC (by omega)
      have hz_12i := k_nCi (x := v) (by omega)
      refine k_aload_n F (pc := 20) 0 rfl dX3_low_20 rfl ?_
      refine k_get F (pc := 21) (ref := RX3) (C := RX3) (T := TX3) (N := 8) (ci := 3) 0 5 dX3_low_21 zin_X3_low_X3 rfl rfl (by decide) zm_X3_low_f31 rfl rfl ?_
      refine k_iload_n F (pc := 24) 1 rfl dX3_low_24 rfl ?_
      refine k_topi (nI p.toNatClampNeg) hz_5 ?_
      refine k_iload_n F (pc := 25) 2 rfl dX3_low_25 rfl ?_
      refine k_topi (nI v.toNatClampNeg) hz_12 ?_
      refine k_callV F (pc := 26) (C := RX2) (T := TX2) (N := 3) (ci := 2) [.int (nI p.toNatClampNeg), .int (nI v.toNatClampNeg)] [] 2 (wX2 E (h 6) (h 7) (h 8) (h 9) son slo shi) [cObj (h 0) 3 [.ref (h 1), .int (nI n), .int (bI sc), .int (nI rt), .ref (h 2), .ref (h 6), .ref (h 10), .ref (h 13)], cInt E (h 1) 96 cd, cObj (h 2) 2 [.ref (h 3), .ref (h 4), .ref (h 5)], cBoo E (h 3) 24 on, cLng E (h 4) 96 lo, cLng E (h 5) 96 hi, cObj (h 10) 0 [.int (bI fs), .ref (h 11), .ref (h 12)], cLng E (h 11) 4 lf, cLng E (h 12) 4 hf, cObj (h 13) 1 [.int (bI em), .long le, .long gr]] [6, 7, 8, 9] [0, 1, 2, 3, 4, 5, 10, 11, 12, 13] (m_X2_lowOf l E (h 6) (h 7) (h 8) (h 9) son slo shi p.toNatClampNeg v.toNatClampNeg (by omega) (by omega)) dX3_low_26 gX3_low_X2_lowOf rfl (by decide +kernel) rfl ⟨rfl, rfl⟩ (by decide) rfl (Nat.le_of_ble_eq_true rfl) (by decide) rfl rfl rfl rfl (by decide) (by decide) (by decide) ?_
      rintro v_13 w_14 ⟨rfl, rfl⟩
      refine k_perm (wX3 E h cd n sc rt on lo hi son slo shi fs lf hf em le gr) [0, 1, 2, 3, 4, 5, 10, 11, 12, 13, 6, 7, 8, 9] (by decide) rfl ?_
      show kK g (wX3 E h cd n sc rt on lo hi son slo shi fs lf hf em le gr) [(0, .ref (h 0)), (1, .int p), (2, .int v)] 0 0 29 [.long (slo (4 * p.toNatClampNeg + v.toNatClampNeg))]
      refine k_lret F Rr (pc := 29) dX3_low_29 ⟨(slo (4 * p.toNatClampNeg + v.toNatClampNeg)), rfl, rfl, ?_⟩
      rw [bndV, if_pos ⟨hr1, by omega, by omega⟩]
    · skip
      have hb_15 := k_ff hc_7 c_10
      refine k_ldc2 F (pc := 16) (4294967296) dX3_low_16 zm_X3_low_c90 ?_
      refine k_lret F Rr (pc := 19) dX3_low_19 ⟨4294967296, rfl, rfl, ?_⟩
      rw [bndV, if_neg]
      first
      | exact fun h => hrn h.1
      | (intro h; omega)
theorem zm_X3_high_c90 : (Cond.constantLong RX3 90 (4294967296) : Cond) ∈ wsX3_high := by decide +kernel
theorem zm_X3_high_f31 : (Cond.fieldLink RX3 31 RX3 "settled" "LRangeScan$States;" : Cond) ∈ wsX3_high := by decide +kernel
theorem zin_X3_high_X3 : ∀ w ∈ u_ws RX3 TX3 8, w ∈ wsX3_high := by decide +kernel
set_option maxHeartbeats 4000000 in
set_option maxRecDepth 100000 in
theorem m_X3_high (l : Launch) (E : kE) (h : Nat → Nat) (cd : Nat → Int32) (n : Nat) (sc : Bool) (rt : Nat) (on : Nat → Bool) (lo : Nat → Int64) (hi : Nat → Int64) (son : Nat → Bool) (slo : Nat → Int64) (shi : Nat → Int64) (fs : Bool) (lf : Nat → Int64) (hf : Nat → Int64) (em : Bool) (le : Int64) (gr : Int64) (p : Int32) (v : Int32) (hn : n ≤ 24) : kC l yX3_high wsX3_high ({ frames := 2, cells := 0, slots := 0, locals := 42 } : Room) E [.ref (h 0), .int p, .int v] (wX3 E h cd n sc rt on lo hi son slo shi fs lf hf em le gr) 0 0 (fun v_ w_ => ∃ (r : Int64), v_ = some (.long r) ∧ w_ = (wX3 E h cd n sc rt on lo hi son slo shi fs lf hf em le gr) ∧ (r = bndV sc n son shi p v)) := by
  refine kC.enter cX3_high 3 (some .long) [(0, .ref (h 0)), (1, .int p), (2, .int v)] (by decide) rfl (Nat.le_of_ble_eq_true rfl) rfl ?_
  intro g F Rr
  refine k_aload_n F (pc := 0) 0 rfl dX3_high_0 rfl ?_
  refine k_iload_n F (pc := 1) 1 rfl dX3_high_1 rfl ?_
  refine k_callV F (pc := 2) (C := RX3) (T := TX3) (N := 8) (ci := 3) [.int p] [] 1 (wX3 E h cd n sc rt on lo hi son slo shi fs lf hf em le gr) [] [0, 1, 2, 3, 4, 5, 6, 7, 8, 9, 10, 11, 12, 13] [] (m_X3_reached l E h cd n sc rt on lo hi son slo shi fs lf hf em le gr p (by omega)) dX3_high_2 gX3_high_X3_reached rfl (by decide +kernel) rfl ⟨rfl, rfl⟩ (by decide) rfl (Nat.le_of_ble_eq_true rfl) (by decide) rfl rfl rfl rfl (by decide) (by decide) (by decide) ?_
  rintro v_2 w_3 ⟨r_1, rfl, rfl, hre⟩
  refine k_perm (wX3 E h cd n sc rt on lo hi son slo shi fs lf hf em le gr) [0, 1, 2, 3, 4, 5, 6, 7, 8, 9, 10, 11, 12, 13] (by decide) rfl ?_
  show kK g (wX3 E h cd n sc rt on lo hi son slo shi fs lf hf em le gr) [(0, .ref (h 0)), (1, .int p), (2, .int v)] 0 0 5 [.int r_1]
  refine k_iconst F (pc := 5) ((nI 1)) dX3_high_5 (by decide) ?_
  refine k_icmp_ne F (pc := 6) 16 dX3_high_6 (by decide) rfl (show (nI 1 : Int32).toInt = 1 by decide) (fun c_4 => ?_) (fun c_4 => ?_)
  · skip
    have hrn := rchV_n1 hre c_4
    refine k_ldc2 F (pc := 16) (4294967296) dX3_high_16 zm_X3_high_c90 ?_
    refine k_lret F Rr (pc := 19) dX3_high_19 ⟨4294967296, rfl, rfl, ?_⟩
    rw [bndV, if_neg]
    first
    | exact fun h => hrn h.1
    | (intro h; omega)
  · skip
    obtain ⟨hr1, hr2, hr3, hr4, hr5⟩ := rchV_1 hre c_4
    have hz_5 : p = nI p.toNatClampNeg := k_nC (by omega)
    have hz_5i := k_nCi (x := p) (by omega)
    refine k_iload_n F (pc := 9) 2 rfl dX3_high_9 rfl ?_
    refine k_callS F (pc := 10) [.int v] [] 1 (m_X3_isVariable l E v) dX3_high_10 gX3_high_X3_isVariable rfl (by decide +kernel) rfl ⟨rfl, rfl⟩ (by decide) rfl (Nat.le_of_ble_eq_true rfl) (by decide) ?_
    rintro v_8 ⟨r_6, rfl, hc_7⟩
    show kK g (wX3 E h cd n sc rt on lo hi son slo shi fs lf hf em le gr) [(0, .ref (h 0)), (1, .int p), (2, .int v)] 0 0 13 [.int (bI r_6)]
    refine k_if_neB F (pc := 13) 20 dX3_high_13 (by decide) (fun c_10 => ?_) (fun c_10 => ?_)
    · skip
      have hb_11 := hc_7.mp c_10
      have hz_12 : v = nI v.toNatClampNeg := k_nC (by omega)
      have hz_12i := k_nCi (x := v) (by omega)
      refine k_aload_n F (pc := 20) 0 rfl dX3_high_20 rfl ?_
      refine k_get F (pc := 21) (ref := RX3) (C := RX3) (T := TX3) (N := 8) (ci := 3) 0 5 dX3_high_21 zin_X3_high_X3 rfl rfl (by decide) zm_X3_high_f31 rfl rfl ?_
      refine k_iload_n F (pc := 24) 1 rfl dX3_high_24 rfl ?_
      refine k_topi (nI p.toNatClampNeg) hz_5 ?_
      refine k_iload_n F (pc := 25) 2 rfl dX3_high_25 rfl ?_
      refine k_topi (nI v.toNatClampNeg) hz_12 ?_
      refine k_callV F (pc := 26) (C := RX2) (T := TX2) (N := 3) (ci := 2) [.int (nI p.toNatClampNeg), .int (nI v.toNatClampNeg)] [] 2 (wX2 E (h 6) (h 7) (h 8) (h 9) son slo shi) [cObj (h 0) 3 [.ref (h 1), .int (nI n), .int (bI sc), .int (nI rt), .ref (h 2), .ref (h 6), .ref (h 10), .ref (h 13)], cInt E (h 1) 96 cd, cObj (h 2) 2 [.ref (h 3), .ref (h 4), .ref (h 5)], cBoo E (h 3) 24 on, cLng E (h 4) 96 lo, cLng E (h 5) 96 hi, cObj (h 10) 0 [.int (bI fs), .ref (h 11), .ref (h 12)], cLng E (h 11) 4 lf, cLng E (h 12) 4 hf, cObj (h 13) 1 [.int (bI em), .long le, .long gr]] [6, 7, 8, 9] [0, 1, 2, 3, 4, 5, 10, 11, 12, 13] (m_X2_highOf l E (h 6) (h 7) (h 8) (h 9) son slo shi p.toNatClampNeg v.toNatClampNeg (by omega) (by omega)) dX3_high_26 gX3_high_X2_highOf rfl (by decide +kernel) rfl ⟨rfl, rfl⟩ (by decide) rfl (Nat.le_of_ble_eq_true rfl) (by decide) rfl rfl rfl rfl (by decide) (by decide) (by decide) ?_
      rintro v_13 w_14 ⟨rfl, rfl⟩
      refine k_perm (wX3 E h cd n sc rt on lo hi son slo shi fs lf hf em le gr) [0, 1, 2, 3, 4, 5, 10, 11, 12, 13, 6, 7, 8, 9] (by decide) rfl ?_
      show kK g (wX3 E h cd n sc rt on lo hi son slo shi fs lf hf em le gr) [(0, .ref (h 0)), (1, .int p), (2, .int v)] 0 0 29 [.long (shi (4 * p.toNatClampNeg + v.toNatClampNeg))]
      refine k_lret F Rr (pc := 29) dX3_high_29 ⟨(shi (4 * p.toNatClampNeg + v.toNatClampNeg)), rfl, rfl, ?_⟩
      rw [bndV, if_pos ⟨hr1, by omega, by omega⟩]
    · skip
      have hb_15 := k_ff hc_7 c_10
      refine k_ldc2 F (pc := 16) (4294967296) dX3_high_16 zm_X3_high_c90 ?_
      refine k_lret F Rr (pc := 19) dX3_high_19 ⟨4294967296, rfl, rfl, ?_⟩
      rw [bndV, if_neg]
      first
      | exact fun h => hrn h.1
      | (intro h; omega)
theorem zm_X3_mayDivideByZero_f9 : (Cond.fieldLink RX3 9 RX3 "codes" "[I" : Cond) ∈ wsX3_mayDivideByZero := by decide +kernel
theorem zin_X3_mayDivideByZero_X3 : ∀ w ∈ u_ws RX3 TX3 8, w ∈ wsX3_mayDivideByZero := by decide +kernel
theorem zm_X3_mayDivideByZero_f31 : (Cond.fieldLink RX3 31 RX3 "settled" "LRangeScan$States;" : Cond) ∈ wsX3_mayDivideByZero := by decide +kernel
set_option maxHeartbeats 4000000 in
set_option maxRecDepth 100000 in
theorem m_X3_mayDivideByZero (l : Launch) (E : kE) (h : Nat → Nat) (cd : Nat → Int32) (n : Nat) (sc : Bool) (rt : Nat) (on : Nat → Bool) (lo : Nat → Int64) (hi : Nat → Int64) (son : Nat → Bool) (slo : Nat → Int64) (shi : Nat → Int64) (fs : Bool) (lf : Nat → Int64) (hf : Nat → Int64) (em : Bool) (le : Int64) (gr : Int64) (p : Nat) (hn : n ≤ 24) (hp : p < n) (ho : (cd (4 * p)).toInt = 6) (hok : okP cd p) : kC l yX3_mayDivideByZero wsX3_mayDivideByZero ({ frames := 1, cells := 0, slots := 0, locals := 22 } : Room) E [.ref (h 0), .int (nI p)] (wX3 E h cd n sc rt on lo hi son slo shi fs lf hf em le gr) 0 0 (fun v_ w_ => ∃ (r : Bool), v_ = some (.int (bI r)) ∧ w_ = (wX3 E h cd n sc rt on lo hi son slo shi fs lf hf em le gr) ∧ (r = true ↔ (¬ 0 < slo (4 * p + (cd (4 * p + 3)).toNatClampNeg) ∧ ¬ shi (4 * p + (cd (4 * p + 3)).toNatClampNeg) < 0))) := by
  refine kC.enter cX3_mayDivideByZero 3 (some .boolean) [(0, .ref (h 0)), (1, .int (nI p))] (by decide) rfl (Nat.le_of_ble_eq_true rfl) rfl ?_
  intro g F Rr
  refine k_aload_n F (pc := 0) 0 rfl dX3_mayDivideByZero_0 rfl ?_
  refine k_get F (pc := 1) (ref := RX3) (C := RX3) (T := TX3) (N := 8) (ci := 3) 0 0 dX3_mayDivideByZero_1 zin_X3_mayDivideByZero_X3 rfl rfl (by decide) zm_X3_mayDivideByZero_f9 rfl rfl ?_
  refine k_iload_n F (pc := 4) 1 rfl dX3_mayDivideByZero_4 rfl ?_
  refine k_iconst F (pc := 5) ((nI 4)) dX3_mayDivideByZero_5 (by decide) ?_
  refine k_imulC F (pc := 6) dX3_mayDivideByZero_6 ?_
  refine k_iconst F (pc := 7) ((nI 3)) dX3_mayDivideByZero_7 (by decide) ?_
  refine k_iaddN F (pc := 8) dX3_mayDivideByZero_8 ?_
  refine k_iald F (pc := 9) 1 dX3_mayDivideByZero_9 rfl (by omega) (by decide) ?_
  refine k_istore_n F (pc := 10) [(2, .int (cd (4 * p + 3))), (0, .ref (h 0)), (1, .int (nI p))] dX3_mayDivideByZero_10 rfl (by decide) rfl ?_
  obtain ⟨hc1, hc2⟩ := okP_c hok (by omega)
  refine k_aload_n F (pc := 11) 1 rfl dX3_mayDivideByZero_11 rfl ?_
  refine k_get F (pc := 12) (ref := RX3) (C := RX3) (T := TX3) (N := 8) (ci := 3) 0 5 dX3_mayDivideByZero_12 zin_X3_mayDivideByZero_X3 rfl rfl (by decide) zm_X3_mayDivideByZero_f31 rfl rfl ?_
  refine k_iload_n F (pc := 15) 2 rfl dX3_mayDivideByZero_15 rfl ?_
  refine k_iload_n F (pc := 16) 0 rfl dX3_mayDivideByZero_16 rfl ?_
  refine k_topi (nI ((cd (4 * p + 3)).toNatClampNeg)) hc1 ?_
  refine k_callV F (pc := 17) (C := RX2) (T := TX2) (N := 3) (ci := 2) [.int (nI p), .int (nI ((cd (4 * p + 3)).toNatClampNeg))] [] 2 (wX2 E (h 6) (h 7) (h 8) (h 9) son slo shi) [cObj (h 0) 3 [.ref (h 1), .int (nI n), .int (bI sc), .int (nI rt), .ref (h 2), .ref (h 6), .ref (h 10), .ref (h 13)], cInt E (h 1) 96 cd, cObj (h 2) 2 [.ref (h 3), .ref (h 4), .ref (h 5)], cBoo E (h 3) 24 on, cLng E (h 4) 96 lo, cLng E (h 5) 96 hi, cObj (h 10) 0 [.int (bI fs), .ref (h 11), .ref (h 12)], cLng E (h 11) 4 lf, cLng E (h 12) 4 hf, cObj (h 13) 1 [.int (bI em), .long le, .long gr]] [6, 7, 8, 9] [0, 1, 2, 3, 4, 5, 10, 11, 12, 13] (m_X2_lowOf l E (h 6) (h 7) (h 8) (h 9) son slo shi p ((cd (4 * p + 3)).toNatClampNeg) (by omega) (by omega)) dX3_mayDivideByZero_17 gX3_mayDivideByZero_X2_lowOf rfl (by decide +kernel) rfl ⟨rfl, rfl⟩ (by decide) rfl (Nat.le_of_ble_eq_true rfl) (by decide) rfl rfl rfl rfl (by decide) (by decide) (by decide) ?_
  rintro v_1 w_2 ⟨rfl, rfl⟩
  refine k_perm (wX3 E h cd n sc rt on lo hi son slo shi fs lf hf em le gr) [0, 1, 2, 3, 4, 5, 10, 11, 12, 13, 6, 7, 8, 9] (by decide) rfl ?_
  show kK g (wX3 E h cd n sc rt on lo hi son slo shi fs lf hf em le gr) [(2, .int (cd (4 * p + 3))), (0, .ref (h 0)), (1, .int (nI p))] 0 0 20 [.long (slo (4 * p + ((cd (4 * p + 3)).toNatClampNeg)))]
  refine k_lconst F (pc := 20) 0 dX3_mayDivideByZero_20 (by decide) ?_
  refine k_lcmp_gt F (pc := 21) 43 dX3_mayDivideByZero_21 dX3_mayDivideByZero_22 (by decide) (fun c_3 => ?_) (fun c_3 => ?_)
  · skip
    refine k_iconst F (pc := 43) ((nI 0)) dX3_mayDivideByZero_43 (by decide) ?_
    refine k_zret F Rr (pc := 44) false dX3_mayDivideByZero_44 rfl ⟨false, rfl, rfl, ?_⟩
    first
    | exact ⟨fun _ => ⟨by assumption, by assumption⟩, fun _ => rfl⟩
    | exact ⟨fun h => absurd h (by decide), fun h => absurd (by assumption) h.1⟩
    | exact ⟨fun h => absurd h (by decide), fun h => absurd (by assumption) h.2⟩
  · skip
    refine k_aload_n F (pc := 25) 1 rfl dX3_mayDivideByZero_25 rfl ?_
    refine k_get F (pc := 26) (ref := RX3) (C := RX3) (T := TX3) (N := 8) (ci := 3) 0 5 dX3_mayDivideByZero_26 zin_X3_mayDivideByZero_X3 rfl rfl (by decide) zm_X3_mayDivideByZero_f31 rfl rfl ?_
    refine k_iload_n F (pc := 29) 2 rfl dX3_mayDivideByZero_29 rfl ?_
    refine k_iload_n F (pc := 30) 0 rfl dX3_mayDivideByZero_30 rfl ?_
    refine k_topi (nI ((cd (4 * p + 3)).toNatClampNeg)) hc1 ?_
    refine k_callV F (pc := 31) (C := RX2) (T := TX2) (N := 3) (ci := 2) [.int (nI p), .int (nI ((cd (4 * p + 3)).toNatClampNeg))] [] 2 (wX2 E (h 6) (h 7) (h 8) (h 9) son slo shi) [cObj (h 0) 3 [.ref (h 1), .int (nI n), .int (bI sc), .int (nI rt), .ref (h 2), .ref (h 6), .ref (h 10), .ref (h 13)], cInt E (h 1) 96 cd, cObj (h 2) 2 [.ref (h 3), .ref (h 4), .ref (h 5)], cBoo E (h 3) 24 on, cLng E (h 4) 96 lo, cLng E (h 5) 96 hi, cObj (h 10) 0 [.int (bI fs), .ref (h 11), .ref (h 12)], cLng E (h 11) 4 lf, cLng E (h 12) 4 hf, cObj (h 13) 1 [.int (bI em), .long le, .long gr]] [6, 7, 8, 9] [0, 1, 2, 3, 4, 5, 10, 11, 12, 13] (m_X2_highOf l E (h 6) (h 7) (h 8) (h 9) son slo shi p ((cd (4 * p + 3)).toNatClampNeg) (by omega) (by omega)) dX3_mayDivideByZero_31 gX3_mayDivideByZero_X2_highOf rfl (by decide +kernel) rfl ⟨rfl, rfl⟩ (by decide) rfl (Nat.le_of_ble_eq_true rfl) (by decide) rfl rfl rfl rfl (by decide) (by decide) (by decide) ?_
    rintro v_4 w_5 ⟨rfl, rfl⟩
    refine k_perm (wX3 E h cd n sc rt on lo hi son slo shi fs lf hf em le gr) [0, 1, 2, 3, 4, 5, 10, 11, 12, 13, 6, 7, 8, 9] (by decide) rfl ?_
    show kK g (wX3 E h cd n sc rt on lo hi son slo shi fs lf hf em le gr) [(2, .int (cd (4 * p + 3))), (0, .ref (h 0)), (1, .int (nI p))] 0 0 34 [.long (shi (4 * p + ((cd (4 * p + 3)).toNatClampNeg)))]
    refine k_lconst F (pc := 34) 0 dX3_mayDivideByZero_34 (by decide) ?_
    refine k_lcmp_lt F (pc := 35) 43 dX3_mayDivideByZero_35 dX3_mayDivideByZero_36 (by decide) (fun c_6 => ?_) (fun c_6 => ?_)
    · skip
      refine k_iconst F (pc := 43) ((nI 0)) dX3_mayDivideByZero_43 (by decide) ?_
      refine k_zret F Rr (pc := 44) false dX3_mayDivideByZero_44 rfl ⟨false, rfl, rfl, ?_⟩
      first
      | exact ⟨fun _ => ⟨by assumption, by assumption⟩, fun _ => rfl⟩
      | exact ⟨fun h => absurd h (by decide), fun h => absurd (by assumption) h.1⟩
      | exact ⟨fun h => absurd h (by decide), fun h => absurd (by assumption) h.2⟩
    · skip
      refine k_iconst F (pc := 39) ((nI 1)) dX3_mayDivideByZero_39 (by decide) ?_
      refine k_goto F (pc := 40) 44 dX3_mayDivideByZero_40 (by decide) ?_
      refine k_zret F Rr (pc := 44) true dX3_mayDivideByZero_44 rfl ⟨true, rfl, rfl, ?_⟩
      first
      | exact ⟨fun _ => ⟨by assumption, by assumption⟩, fun _ => rfl⟩
      | exact ⟨fun h => absurd h (by decide), fun h => absurd (by assumption) h.1⟩
      | exact ⟨fun h => absurd h (by decide), fun h => absurd (by assumption) h.2⟩
theorem zm_X3_mayLeaveArray_f9 : (Cond.fieldLink RX3 9 RX3 "codes" "[I" : Cond) ∈ wsX3_mayLeaveArray := by decide +kernel
theorem zin_X3_mayLeaveArray_X3 : ∀ w ∈ u_ws RX3 TX3 8, w ∈ wsX3_mayLeaveArray := by decide +kernel
theorem zm_X3_mayLeaveArray_f31 : (Cond.fieldLink RX3 31 RX3 "settled" "LRangeScan$States;" : Cond) ∈ wsX3_mayLeaveArray := by decide +kernel
theorem zm_X3_mayLeaveArray_c201 : (Cond.constantLong RX3 201 (7) : Cond) ∈ wsX3_mayLeaveArray := by decide +kernel
set_option maxHeartbeats 4000000 in
set_option maxRecDepth 100000 in
theorem m_X3_mayLeaveArray (l : Launch) (E : kE) (h : Nat → Nat) (cd : Nat → Int32) (n : Nat) (sc : Bool) (rt : Nat) (on : Nat → Bool) (lo : Nat → Int64) (hi : Nat → Int64) (son : Nat → Bool) (slo : Nat → Int64) (shi : Nat → Int64) (fs : Bool) (lf : Nat → Int64) (hf : Nat → Int64) (em : Bool) (le : Int64) (gr : Int64) (p : Nat) (hn : n ≤ 24) (hp : p < n) (ho : (cd (4 * p)).toInt = 7 ∨ (cd (4 * p)).toInt = 8) (hok : okP cd p) : kC l yX3_mayLeaveArray wsX3_mayLeaveArray ({ frames := 1, cells := 0, slots := 0, locals := 22 } : Room) E [.ref (h 0), .int (nI p)] (wX3 E h cd n sc rt on lo hi son slo shi fs lf hf em le gr) 0 0 (fun v_ w_ => ∃ (r : Bool), v_ = some (.int (bI r)) ∧ w_ = (wX3 E h cd n sc rt on lo hi son slo shi fs lf hf em le gr) ∧ (r = true ↔ (slo (4 * p + (cd (4 * p + 2)).toNatClampNeg) < 0 ∨ 7 < shi (4 * p + (cd (4 * p + 2)).toNatClampNeg)))) := by
  refine kC.enter cX3_mayLeaveArray 3 (some .boolean) [(0, .ref (h 0)), (1, .int (nI p))] (by decide) rfl (Nat.le_of_ble_eq_true rfl) rfl ?_
  intro g F Rr
  refine k_aload_n F (pc := 0) 0 rfl dX3_mayLeaveArray_0 rfl ?_
  refine k_get F (pc := 1) (ref := RX3) (C := RX3) (T := TX3) (N := 8) (ci := 3) 0 0 dX3_mayLeaveArray_1 zin_X3_mayLeaveArray_X3 rfl rfl (by decide) zm_X3_mayLeaveArray_f9 rfl rfl ?_
  refine k_iload_n F (pc := 4) 1 rfl dX3_mayLeaveArray_4 rfl ?_
  refine k_iconst F (pc := 5) ((nI 4)) dX3_mayLeaveArray_5 (by decide) ?_
  refine k_imulC F (pc := 6) dX3_mayLeaveArray_6 ?_
  refine k_iconst F (pc := 7) ((nI 2)) dX3_mayLeaveArray_7 (by decide) ?_
  refine k_iaddN F (pc := 8) dX3_mayLeaveArray_8 ?_
  refine k_iald F (pc := 9) 1 dX3_mayLeaveArray_9 rfl (by omega) (by decide) ?_
  refine k_istore_n F (pc := 10) [(2, .int (cd (4 * p + 2))), (0, .ref (h 0)), (1, .int (nI p))] dX3_mayLeaveArray_10 rfl (by decide) rfl ?_
  obtain ⟨hc1, hc2⟩ := okP_b hok (by omega)
  refine k_aload_n F (pc := 11) 1 rfl dX3_mayLeaveArray_11 rfl ?_
  refine k_get F (pc := 12) (ref := RX3) (C := RX3) (T := TX3) (N := 8) (ci := 3) 0 5 dX3_mayLeaveArray_12 zin_X3_mayLeaveArray_X3 rfl rfl (by decide) zm_X3_mayLeaveArray_f31 rfl rfl ?_
  refine k_iload_n F (pc := 15) 2 rfl dX3_mayLeaveArray_15 rfl ?_
  refine k_iload_n F (pc := 16) 0 rfl dX3_mayLeaveArray_16 rfl ?_
  refine k_topi (nI ((cd (4 * p + 2)).toNatClampNeg)) hc1 ?_
  refine k_callV F (pc := 17) (C := RX2) (T := TX2) (N := 3) (ci := 2) [.int (nI p), .int (nI ((cd (4 * p + 2)).toNatClampNeg))] [] 2 (wX2 E (h 6) (h 7) (h 8) (h 9) son slo shi) [cObj (h 0) 3 [.ref (h 1), .int (nI n), .int (bI sc), .int (nI rt), .ref (h 2), .ref (h 6), .ref (h 10), .ref (h 13)], cInt E (h 1) 96 cd, cObj (h 2) 2 [.ref (h 3), .ref (h 4), .ref (h 5)], cBoo E (h 3) 24 on, cLng E (h 4) 96 lo, cLng E (h 5) 96 hi, cObj (h 10) 0 [.int (bI fs), .ref (h 11), .ref (h 12)], cLng E (h 11) 4 lf, cLng E (h 12) 4 hf, cObj (h 13) 1 [.int (bI em), .long le, .long gr]] [6, 7, 8, 9] [0, 1, 2, 3, 4, 5, 10, 11, 12, 13] (m_X2_lowOf l E (h 6) (h 7) (h 8) (h 9) son slo shi p ((cd (4 * p + 2)).toNatClampNeg) (by omega) (by omega)) dX3_mayLeaveArray_17 gX3_mayLeaveArray_X2_lowOf rfl (by decide +kernel) rfl ⟨rfl, rfl⟩ (by decide) rfl (Nat.le_of_ble_eq_true rfl) (by decide) rfl rfl rfl rfl (by decide) (by decide) (by decide) ?_
  rintro v_1 w_2 ⟨rfl, rfl⟩
  refine k_perm (wX3 E h cd n sc rt on lo hi son slo shi fs lf hf em le gr) [0, 1, 2, 3, 4, 5, 10, 11, 12, 13, 6, 7, 8, 9] (by decide) rfl ?_
  show kK g (wX3 E h cd n sc rt on lo hi son slo shi fs lf hf em le gr) [(2, .int (cd (4 * p + 2))), (0, .ref (h 0)), (1, .int (nI p))] 0 0 20 [.long (slo (4 * p + ((cd (4 * p + 2)).toNatClampNeg)))]
  refine k_lconst F (pc := 20) 0 dX3_mayLeaveArray_20 (by decide) ?_
  refine k_lcmp_lt F (pc := 21) 41 dX3_mayLeaveArray_21 dX3_mayLeaveArray_22 (by decide) (fun c_3 => ?_) (fun c_3 => ?_)
  · skip
    refine k_iconst F (pc := 41) ((nI 1)) dX3_mayLeaveArray_41 (by decide) ?_
    refine k_goto F (pc := 42) 46 dX3_mayLeaveArray_42 (by decide) ?_
    refine k_zret F Rr (pc := 46) true dX3_mayLeaveArray_46 rfl ⟨true, rfl, rfl, ?_⟩
    first
    | exact ⟨fun _ => Or.inl (by assumption), fun _ => rfl⟩
    | exact ⟨fun _ => Or.inr (by assumption), fun _ => rfl⟩
    | exact ⟨fun h => absurd h (by decide), fun h => by rcases h with h | h <;> exact absurd h (by assumption)⟩
  · skip
    refine k_aload_n F (pc := 25) 1 rfl dX3_mayLeaveArray_25 rfl ?_
    refine k_get F (pc := 26) (ref := RX3) (C := RX3) (T := TX3) (N := 8) (ci := 3) 0 5 dX3_mayLeaveArray_26 zin_X3_mayLeaveArray_X3 rfl rfl (by decide) zm_X3_mayLeaveArray_f31 rfl rfl ?_
    refine k_iload_n F (pc := 29) 2 rfl dX3_mayLeaveArray_29 rfl ?_
    refine k_iload_n F (pc := 30) 0 rfl dX3_mayLeaveArray_30 rfl ?_
    refine k_topi (nI ((cd (4 * p + 2)).toNatClampNeg)) hc1 ?_
    refine k_callV F (pc := 31) (C := RX2) (T := TX2) (N := 3) (ci := 2) [.int (nI p), .int (nI ((cd (4 * p + 2)).toNatClampNeg))] [] 2 (wX2 E (h 6) (h 7) (h 8) (h 9) son slo shi) [cObj (h 0) 3 [.ref (h 1), .int (nI n), .int (bI sc), .int (nI rt), .ref (h 2), .ref (h 6), .ref (h 10), .ref (h 13)], cInt E (h 1) 96 cd, cObj (h 2) 2 [.ref (h 3), .ref (h 4), .ref (h 5)], cBoo E (h 3) 24 on, cLng E (h 4) 96 lo, cLng E (h 5) 96 hi, cObj (h 10) 0 [.int (bI fs), .ref (h 11), .ref (h 12)], cLng E (h 11) 4 lf, cLng E (h 12) 4 hf, cObj (h 13) 1 [.int (bI em), .long le, .long gr]] [6, 7, 8, 9] [0, 1, 2, 3, 4, 5, 10, 11, 12, 13] (m_X2_highOf l E (h 6) (h 7) (h 8) (h 9) son slo shi p ((cd (4 * p + 2)).toNatClampNeg) (by omega) (by omega)) dX3_mayLeaveArray_31 gX3_mayLeaveArray_X2_highOf rfl (by decide +kernel) rfl ⟨rfl, rfl⟩ (by decide) rfl (Nat.le_of_ble_eq_true rfl) (by decide) rfl rfl rfl rfl (by decide) (by decide) (by decide) ?_
    rintro v_4 w_5 ⟨rfl, rfl⟩
    refine k_perm (wX3 E h cd n sc rt on lo hi son slo shi fs lf hf em le gr) [0, 1, 2, 3, 4, 5, 10, 11, 12, 13, 6, 7, 8, 9] (by decide) rfl ?_
    show kK g (wX3 E h cd n sc rt on lo hi son slo shi fs lf hf em le gr) [(2, .int (cd (4 * p + 2))), (0, .ref (h 0)), (1, .int (nI p))] 0 0 34 [.long (shi (4 * p + ((cd (4 * p + 2)).toNatClampNeg)))]
    refine k_ldc2 F (pc := 34) (7) dX3_mayLeaveArray_34 zm_X3_mayLeaveArray_c201 ?_
    refine k_lcmp_le F (pc := 37) 45 dX3_mayLeaveArray_37 dX3_mayLeaveArray_38 (by decide) (fun c_6 => ?_) (fun c_6 => ?_)
    · skip
      refine k_iconst F (pc := 45) ((nI 0)) dX3_mayLeaveArray_45 (by decide) ?_
      refine k_zret F Rr (pc := 46) false dX3_mayLeaveArray_46 rfl ⟨false, rfl, rfl, ?_⟩
      first
      | exact ⟨fun _ => Or.inl (by assumption), fun _ => rfl⟩
      | exact ⟨fun _ => Or.inr (by assumption), fun _ => rfl⟩
      | exact ⟨fun h => absurd h (by decide), fun h => by rcases h with h | h <;> exact absurd h (by assumption)⟩
    · skip
      refine k_iconst F (pc := 41) ((nI 1)) dX3_mayLeaveArray_41 (by decide) ?_
      refine k_goto F (pc := 42) 46 dX3_mayLeaveArray_42 (by decide) ?_
      refine k_zret F Rr (pc := 46) true dX3_mayLeaveArray_46 rfl ⟨true, rfl, rfl, ?_⟩
      first
      | exact ⟨fun _ => Or.inl (by assumption), fun _ => rfl⟩
      | exact ⟨fun _ => Or.inr (by assumption), fun _ => rfl⟩
      | exact ⟨fun h => absurd h (by decide), fun h => by rcases h with h | h <;> exact absurd h (by assumption)⟩
theorem zm_X3_alarm_f9 : (Cond.fieldLink RX3 9 RX3 "codes" "[I" : Cond) ∈ wsX3_alarm := by decide +kernel
theorem zin_X3_alarm_X3 : ∀ w ∈ u_ws RX3 TX3 8, w ∈ wsX3_alarm := by decide +kernel
set_option maxHeartbeats 4000000 in
set_option maxRecDepth 100000 in
theorem m_X3_alarm (l : Launch) (E : kE) (h : Nat → Nat) (cd : Nat → Int32) (n : Nat) (sc : Bool) (rt : Nat) (on : Nat → Bool) (lo : Nat → Int64) (hi : Nat → Int64) (son : Nat → Bool) (slo : Nat → Int64) (shi : Nat → Int64) (fs : Bool) (lf : Nat → Int64) (hf : Nat → Int64) (em : Bool) (le : Int64) (gr : Int64) (p : Int32) (hn : n ≤ 24) (hok : ∀ p, p < n → okP cd p) : kC l yX3_alarm wsX3_alarm ({ frames := 2, cells := 0, slots := 0, locals := 44 } : Room) E [.ref (h 0), .int p] (wX3 E h cd n sc rt on lo hi son slo shi fs lf hf em le gr) 0 0 (fun v_ w_ => ∃ (r : Int32), v_ = some (.int r) ∧ w_ = (wX3 E h cd n sc rt on lo hi son slo shi fs lf hf em le gr) ∧ (r = almV cd sc n son slo shi p)) := by
  refine kC.enter cX3_alarm 2 (some .int) [(0, .ref (h 0)), (1, .int p)] (by decide) rfl (Nat.le_of_ble_eq_true rfl) rfl ?_
  intro g F Rr
  refine k_aload_n F (pc := 0) 0 rfl dX3_alarm_0 rfl ?_
  refine k_iload_n F (pc := 1) 1 rfl dX3_alarm_1 rfl ?_
  refine k_callV F (pc := 2) (C := RX3) (T := TX3) (N := 8) (ci := 3) [.int p] [] 1 (wX3 E h cd n sc rt on lo hi son slo shi fs lf hf em le gr) [] [0, 1, 2, 3, 4, 5, 6, 7, 8, 9, 10, 11, 12, 13] [] (m_X3_reached l E h cd n sc rt on lo hi son slo shi fs lf hf em le gr p (by omega)) dX3_alarm_2 gX3_alarm_X3_reached rfl (by decide +kernel) rfl ⟨rfl, rfl⟩ (by decide) rfl (Nat.le_of_ble_eq_true rfl) (by decide) rfl rfl rfl rfl (by decide) (by decide) (by decide) ?_
  rintro v_2 w_3 ⟨r_1, rfl, rfl, hre⟩
  refine k_perm (wX3 E h cd n sc rt on lo hi son slo shi fs lf hf em le gr) [0, 1, 2, 3, 4, 5, 6, 7, 8, 9, 10, 11, 12, 13] (by decide) rfl ?_
  show kK g (wX3 E h cd n sc rt on lo hi son slo shi fs lf hf em le gr) [(0, .ref (h 0)), (1, .int p)] 0 0 5 [.int r_1]
  refine k_iconst F (pc := 5) ((nI 1)) dX3_alarm_5 (by decide) ?_
  refine k_icmp_eq F (pc := 6) 11 dX3_alarm_6 (by decide) rfl (show (nI 1 : Int32).toInt = 1 by decide) (fun c_4 => ?_) (fun c_4 => ?_)
  · skip
    obtain ⟨hr1, hr2, hr3, hr4, hr5⟩ := rchV_1 hre c_4
    have hz_5 : p = nI p.toNatClampNeg := k_nC (by omega)
    have hz_5i := k_nCi (x := p) (by omega)
    refine k_aload_n F (pc := 11) 0 rfl dX3_alarm_11 rfl ?_
    refine k_get F (pc := 12) (ref := RX3) (C := RX3) (T := TX3) (N := 8) (ci := 3) 0 0 dX3_alarm_12 zin_X3_alarm_X3 rfl rfl (by decide) zm_X3_alarm_f9 rfl rfl ?_
    refine k_iload_n F (pc := 15) 1 rfl dX3_alarm_15 rfl ?_
    refine k_topi (nI p.toNatClampNeg) hz_5 ?_
    refine k_iconst F (pc := 16) ((nI 4)) dX3_alarm_16 (by decide) ?_
    refine k_imulC F (pc := 17) dX3_alarm_17 ?_
    refine k_iconst F (pc := 18) ((nI 0)) dX3_alarm_18 (by decide) ?_
    refine k_iadd0 F (pc := 19) dX3_alarm_19 ?_
    refine k_iald F (pc := 20) 1 dX3_alarm_20 rfl (by omega) (by decide) ?_
    by_cases c_6 : (cd (4 * p.toNatClampNeg)).toInt = 6
    · skip
      refine k_tabIn F (pc := 21) 6 48 dX3_alarm_21 c_6 (by decide) (by decide) rfl (by decide) ?_
      refine k_aload_n F (pc := 48) 0 rfl dX3_alarm_48 rfl ?_
      refine k_iload_n F (pc := 49) 1 rfl dX3_alarm_49 rfl ?_
      refine k_topi (nI p.toNatClampNeg) hz_5 ?_
      refine k_callV F (pc := 50) (C := RX3) (T := TX3) (N := 8) (ci := 3) [.int (nI p.toNatClampNeg)] [] 1 (wX3 E h cd n sc rt on lo hi son slo shi fs lf hf em le gr) [] [0, 1, 2, 3, 4, 5, 6, 7, 8, 9, 10, 11, 12, 13] [] (m_X3_mayDivideByZero l E h cd n sc rt on lo hi son slo shi fs lf hf em le gr p.toNatClampNeg (by omega) (by omega) (by assumption) (hok _ (by omega))) dX3_alarm_50 gX3_alarm_X3_mayDivideByZero rfl (by decide +kernel) rfl ⟨rfl, rfl⟩ (by decide) rfl (Nat.le_of_ble_eq_true rfl) (by decide) rfl rfl rfl rfl (by decide) (by decide) (by decide) ?_
      rintro v_9 w_10 ⟨r_7, rfl, rfl, hc_8⟩
      refine k_perm (wX3 E h cd n sc rt on lo hi son slo shi fs lf hf em le gr) [0, 1, 2, 3, 4, 5, 6, 7, 8, 9, 10, 11, 12, 13] (by decide) rfl ?_
      show kK g (wX3 E h cd n sc rt on lo hi son slo shi fs lf hf em le gr) [(0, .ref (h 0)), (1, .int p)] 0 0 53 [.int (bI r_7)]
      refine k_if_eqB F (pc := 53) 60 dX3_alarm_53 (by decide) (fun c_11 => ?_) (fun c_11 => ?_)
      · skip
        have hb_12 := k_ff hc_8 c_11
        refine k_iconst F (pc := 60) ((nI 0)) dX3_alarm_60 (by decide) ?_
        refine k_iret F Rr (pc := 61) dX3_alarm_61 ⟨(nI 0), rfl, rfl, ?_⟩
        rw [almV, if_pos hr1, if_pos (by assumption)]
        first
        | (rw [if_pos (by assumption)]; rfl)
        | (rw [if_neg (by assumption)]; rfl)
      · skip
        have hb_13 := hc_8.mp c_11
        refine k_iconst F (pc := 56) ((nI 1)) dX3_alarm_56 (by decide) ?_
        refine k_goto F (pc := 57) 61 dX3_alarm_57 (by decide) ?_
        refine k_iret F Rr (pc := 61) dX3_alarm_61 ⟨(nI 1), rfl, rfl, ?_⟩
        rw [almV, if_pos hr1, if_pos (by assumption)]
        first
        | (rw [if_pos (by assumption)]; rfl)
        | (rw [if_neg (by assumption)]; rfl)
    by_cases c_14 : (cd (4 * p.toNatClampNeg)).toInt = 7
    · skip
      refine k_tabIn F (pc := 21) 7 62 dX3_alarm_21 c_14 (by decide) (by decide) rfl (by decide) ?_
      refine k_aload_n F (pc := 62) 0 rfl dX3_alarm_62 rfl ?_
      refine k_iload_n F (pc := 63) 1 rfl dX3_alarm_63 rfl ?_
      refine k_topi (nI p.toNatClampNeg) hz_5 ?_
      refine k_callV F (pc := 64) (C := RX3) (T := TX3) (N := 8) (ci := 3) [.int (nI p.toNatClampNeg)] [] 1 (wX3 E h cd n sc rt on lo hi son slo shi fs lf hf em le gr) [] [0, 1, 2, 3, 4, 5, 6, 7, 8, 9, 10, 11, 12, 13] [] (m_X3_mayLeaveArray l E h cd n sc rt on lo hi son slo shi fs lf hf em le gr p.toNatClampNeg (by omega) (by omega) (by omega) (hok _ (by omega))) dX3_alarm_64 gX3_alarm_X3_mayLeaveArray rfl (by decide +kernel) rfl ⟨rfl, rfl⟩ (by decide) rfl (Nat.le_of_ble_eq_true rfl) (by decide) rfl rfl rfl rfl (by decide) (by decide) (by decide) ?_
      rintro v_17 w_18 ⟨r_15, rfl, rfl, hc_16⟩
      refine k_perm (wX3 E h cd n sc rt on lo hi son slo shi fs lf hf em le gr) [0, 1, 2, 3, 4, 5, 6, 7, 8, 9, 10, 11, 12, 13] (by decide) rfl ?_
      show kK g (wX3 E h cd n sc rt on lo hi son slo shi fs lf hf em le gr) [(0, .ref (h 0)), (1, .int p)] 0 0 67 [.int (bI r_15)]
      refine k_if_eqB F (pc := 67) 74 dX3_alarm_67 (by decide) (fun c_19 => ?_) (fun c_19 => ?_)
      · skip
        have hb_20 := k_ff hc_16 c_19
        refine k_iconst F (pc := 74) ((nI 0)) dX3_alarm_74 (by decide) ?_
        refine k_iret F Rr (pc := 75) dX3_alarm_75 ⟨(nI 0), rfl, rfl, ?_⟩
        rw [almV, if_pos hr1, if_neg (by omega), if_pos (by omega)]
        first
        | (rw [if_pos (by assumption)]; rfl)
        | (rw [if_neg (by assumption)]; rfl)
      · skip
        have hb_21 := hc_16.mp c_19
        refine k_iconst F (pc := 70) ((nI 2)) dX3_alarm_70 (by decide) ?_
        refine k_goto F (pc := 71) 75 dX3_alarm_71 (by decide) ?_
        refine k_iret F Rr (pc := 75) dX3_alarm_75 ⟨(nI 2), rfl, rfl, ?_⟩
        rw [almV, if_pos hr1, if_neg (by omega), if_pos (by omega)]
        first
        | (rw [if_pos (by assumption)]; rfl)
        | (rw [if_neg (by assumption)]; rfl)
    by_cases c_22 : (cd (4 * p.toNatClampNeg)).toInt = 8
    · skip
      refine k_tabIn F (pc := 21) 8 62 dX3_alarm_21 c_22 (by decide) (by decide) rfl (by decide) ?_
      refine k_aload_n F (pc := 62) 0 rfl dX3_alarm_62 rfl ?_
      refine k_iload_n F (pc := 63) 1 rfl dX3_alarm_63 rfl ?_
      refine k_topi (nI p.toNatClampNeg) hz_5 ?_
      refine k_callV F (pc := 64) (C := RX3) (T := TX3) (N := 8) (ci := 3) [.int (nI p.toNatClampNeg)] [] 1 (wX3 E h cd n sc rt on lo hi son slo shi fs lf hf em le gr) [] [0, 1, 2, 3, 4, 5, 6, 7, 8, 9, 10, 11, 12, 13] [] (m_X3_mayLeaveArray l E h cd n sc rt on lo hi son slo shi fs lf hf em le gr p.toNatClampNeg (by omega) (by omega) (by omega) (hok _ (by omega))) dX3_alarm_64 gX3_alarm_X3_mayLeaveArray rfl (by decide +kernel) rfl ⟨rfl, rfl⟩ (by decide) rfl (Nat.le_of_ble_eq_true rfl) (by decide) rfl rfl rfl rfl (by decide) (by decide) (by decide) ?_
      rintro v_25 w_26 ⟨r_23, rfl, rfl, hc_24⟩
      refine k_perm (wX3 E h cd n sc rt on lo hi son slo shi fs lf hf em le gr) [0, 1, 2, 3, 4, 5, 6, 7, 8, 9, 10, 11, 12, 13] (by decide) rfl ?_
      show kK g (wX3 E h cd n sc rt on lo hi son slo shi fs lf hf em le gr) [(0, .ref (h 0)), (1, .int p)] 0 0 67 [.int (bI r_23)]
      refine k_if_eqB F (pc := 67) 74 dX3_alarm_67 (by decide) (fun c_27 => ?_) (fun c_27 => ?_)
      · skip
        have hb_28 := k_ff hc_24 c_27
        refine k_iconst F (pc := 74) ((nI 0)) dX3_alarm_74 (by decide) ?_
        refine k_iret F Rr (pc := 75) dX3_alarm_75 ⟨(nI 0), rfl, rfl, ?_⟩
        rw [almV, if_pos hr1, if_neg (by omega), if_pos (by omega)]
        first
        | (rw [if_pos (by assumption)]; rfl)
        | (rw [if_neg (by assumption)]; rfl)
      · skip
        have hb_29 := hc_24.mp c_27
        refine k_iconst F (pc := 70) ((nI 2)) dX3_alarm_70 (by decide) ?_
        refine k_goto F (pc := 71) 75 dX3_alarm_71 (by decide) ?_
        refine k_iret F Rr (pc := 75) dX3_alarm_75 ⟨(nI 2), rfl, rfl, ?_⟩
        rw [almV, if_pos hr1, if_neg (by omega), if_pos (by omega)]
        first
        | (rw [if_pos (by assumption)]; rfl)
        | (rw [if_neg (by assumption)]; rfl)
    refine k_tabOut F (pc := 21) 76 dX3_alarm_21 (by omega) (by decide) ?_
    refine k_iconst F (pc := 76) ((nI 0)) dX3_alarm_76 (by decide) ?_
    refine k_iret F Rr (pc := 77) dX3_alarm_77 ⟨(nI 0), rfl, rfl, ?_⟩
    rw [almV, if_pos hr1, if_neg (by omega), if_neg (by omega)]; rfl
  · skip
    have hrn := rchV_n1 hre c_4
    refine k_iconst F (pc := 9) ((nI 0)) dX3_alarm_9 (by decide) ?_
    refine k_iret F Rr (pc := 10) dX3_alarm_10 ⟨(nI 0), rfl, rfl, ?_⟩
    rw [almV, if_neg hrn]; rfl
theorem zm_X3_countAlarms_f13 : (Cond.fieldLink RX3 13 RX3 "count" "I" : Cond) ∈ wsX3_countAlarms := by decide +kernel
theorem zin_X3_countAlarms_X3 : ∀ w ∈ u_ws RX3 TX3 8, w ∈ wsX3_countAlarms := by decide +kernel
set_option maxHeartbeats 4000000 in
set_option maxRecDepth 100000 in
theorem m_X3_countAlarms (l : Launch) (E : kE) (h : Nat → Nat) (cd : Nat → Int32) (n : Nat) (sc : Bool) (rt : Nat) (on : Nat → Bool) (lo : Nat → Int64) (hi : Nat → Int64) (son : Nat → Bool) (slo : Nat → Int64) (shi : Nat → Int64) (fs : Bool) (lf : Nat → Int64) (hf : Nat → Int64) (em : Bool) (le : Int64) (gr : Int64) (hn : n ≤ 24) (hok : ∀ p, p < n → okP cd p) : kC l yX3_countAlarms wsX3_countAlarms ({ frames := 3, cells := 0, slots := 0, locals := 65 } : Room) E [.ref (h 0)] (wX3 E h cd n sc rt on lo hi son slo shi fs lf hf em le gr) 0 0 (fun v_ w_ => ∃ (r : Nat), v_ = some (.int (nI r)) ∧ w_ = (wX3 E h cd n sc rt on lo hi son slo shi fs lf hf em le gr) ∧ (r = cntV cd sc n son slo shi n)) := by
  refine kC.enter cX3_countAlarms 3 (some .int) [(0, .ref (h 0))] (by decide) rfl (Nat.le_of_ble_eq_true rfl) rfl ?_
  intro g F Rr
  refine k_iconst F (pc := 0) ((nI 0)) dX3_countAlarms_0 (by decide) ?_
  refine k_istore_n F (pc := 1) [(1, .int (nI 0)), (0, .ref (h 0))] dX3_countAlarms_1 rfl (by decide) rfl ?_
  refine k_iconst F (pc := 2) ((nI 0)) dX3_countAlarms_2 (by decide) ?_
  refine k_istore_n F (pc := 3) [(2, .int (nI 0)), (1, .int (nI 0)), (0, .ref (h 0))] dX3_countAlarms_3 rfl (by decide) rfl ?_
  have L4 : ∀ (d_ : Nat) (i : Nat) (k : Nat), n - i < d_ → (i ≤ n) → (k = cntV cd sc n son slo shi i) → (k ≤ i) → kK g (wX3 E h cd n sc rt on lo hi son slo shi fs lf hf em le gr) [(0, .ref (h 0)), (1, .int (nI k)), (2, .int (nI i))] 0 0 4 [] := by
    intro d_
    induction d_ with
    | zero => intro i k hm; exact absurd hm (Nat.not_lt_zero _)
    | succ d_ ih4 =>
      intro i k hm4 hin hk hki
      refine k_iload_n F (pc := 4) 2 rfl dX3_countAlarms_4 rfl ?_
      refine k_aload_n F (pc := 5) 0 rfl dX3_countAlarms_5 rfl ?_
      refine k_get F (pc := 6) (ref := RX3) (C := RX3) (T := TX3) (N := 8) (ci := 3) 0 1 dX3_countAlarms_6 zin_X3_countAlarms_X3 rfl rfl (by decide) zm_X3_countAlarms_f13 rfl rfl ?_
      refine k_icmp_ge F (pc := 9) 29 dX3_countAlarms_9 (by decide) (nI_toInt (by omega)) (nI_toInt (by omega)) (fun c_1 => ?_) (fun c_1 => ?_)
      · skip
        refine k_iload_n F (pc := 29) 1 rfl dX3_countAlarms_29 rfl ?_
        refine k_iret F Rr (pc := 30) dX3_countAlarms_30 ⟨k, rfl, rfl, ?_⟩
        rw [hk, show i = n by omega]
      · skip
        refine k_aload_n F (pc := 12) 0 rfl dX3_countAlarms_12 rfl ?_
        refine k_iload_n F (pc := 13) 2 rfl dX3_countAlarms_13 rfl ?_
        refine k_callV F (pc := 14) (C := RX3) (T := TX3) (N := 8) (ci := 3) [.int (nI i)] [] 1 (wX3 E h cd n sc rt on lo hi son slo shi fs lf hf em le gr) [] [0, 1, 2, 3, 4, 5, 6, 7, 8, 9, 10, 11, 12, 13] [] (m_X3_alarm l E h cd n sc rt on lo hi son slo shi fs lf hf em le gr (nI i) (by omega) hok) dX3_countAlarms_14 gX3_countAlarms_X3_alarm rfl (by decide +kernel) rfl ⟨rfl, rfl⟩ (by decide) rfl (Nat.le_of_ble_eq_true rfl) (by decide) rfl rfl rfl rfl (by decide) (by decide) (by decide) ?_
        rintro v_3 w_4 ⟨r_2, rfl, rfl, hal⟩
        refine k_perm (wX3 E h cd n sc rt on lo hi son slo shi fs lf hf em le gr) [0, 1, 2, 3, 4, 5, 6, 7, 8, 9, 10, 11, 12, 13] (by decide) rfl ?_
        show kK g (wX3 E h cd n sc rt on lo hi son slo shi fs lf hf em le gr) [(0, .ref (h 0)), (1, .int (nI k)), (2, .int (nI i))] 0 0 17 [.int r_2]
        refine k_if_eq F (pc := 17) 23 dX3_countAlarms_17 (by decide) rfl (fun c_5 => ?_) (fun c_5 => ?_)
        · skip
          refine k_iinc F (pc := 23) 2 ((nI (i + 1))) [(2, .int (nI (i + 1))), (0, .ref (h 0)), (1, .int (nI k))] dX3_countAlarms_23 rfl (nI_1 i) (by decide) rfl ?_
          refine k_goto F (pc := 26) 4 dX3_countAlarms_26 (by decide) ?_
          refine k_lv [(0, .ref (h 0)), (1, .int (nI k)), (2, .int (nI (i + 1)))] [1, 2, 0] rfl ?_
          exact ih4 (i + 1) k (by omega) (by omega) (by rw [cntV, hk]; first | rw [if_pos (by rw [← hal]; assumption)] | rw [if_neg (by rw [← hal]; assumption)]) (by omega)
        · skip
          refine k_iinc F (pc := 20) 1 ((nI (k + 1))) [(1, .int (nI (k + 1))), (0, .ref (h 0)), (2, .int (nI i))] dX3_countAlarms_20 rfl (nI_1 k) (by decide) rfl ?_
          refine k_iinc F (pc := 23) 2 ((nI (i + 1))) [(2, .int (nI (i + 1))), (1, .int (nI (k + 1))), (0, .ref (h 0))] dX3_countAlarms_23 rfl (nI_1 i) (by decide) rfl ?_
          refine k_goto F (pc := 26) 4 dX3_countAlarms_26 (by decide) ?_
          refine k_lv [(0, .ref (h 0)), (1, .int (nI (k + 1))), (2, .int (nI (i + 1)))] [2, 1, 0] rfl ?_
          exact ih4 (i + 1) (k + 1) (by omega) (by omega) (by rw [cntV, hk]; first | rw [if_pos (by rw [← hal]; assumption)] | rw [if_neg (by rw [← hal]; assumption)]) (by omega)
  refine k_lv [(0, .ref (h 0)), (1, .int (nI 0)), (2, .int (nI 0))] [2, 1, 0] rfl ?_
  exact L4 (n - 0 + 1) 0 0 (Nat.lt_succ_self _) (by omega) (by rfl) (by omega)
