theorem zm_X3_makeFlowToNext_f9 : (Cond.fieldLink RX3 9 RX3 "codes" "[I" : Cond) ∈ wsX3_makeFlowToNext := by decide +kernel
theorem zin_X3_makeFlowToNext_X3 : ∀ w ∈ u_ws RX3 TX3 8, w ∈ wsX3_makeFlowToNext := by decide +kernel
theorem zm_X3_makeFlowToNext_f27 : (Cond.fieldLink RX3 27 RX3 "found" "LRangeScan$States;" : Cond) ∈ wsX3_makeFlowToNext := by decide +kernel
theorem zm_X3_makeFlowToNext_f37 : (Cond.fieldLink RX3 37 RX3 "flow" "LRangeScan$Flow;" : Cond) ∈ wsX3_makeFlowToNext := by decide +kernel
theorem zm_X3_makeFlowToNext_c149 : (Cond.constantLong RX3 149 (-2147483648) : Cond) ∈ wsX3_makeFlowToNext := by decide +kernel
theorem zm_X3_makeFlowToNext_c151 : (Cond.constantLong RX3 151 (2147483647) : Cond) ∈ wsX3_makeFlowToNext := by decide +kernel
set_option maxHeartbeats 4000000 in
set_option maxRecDepth 100000 in
theorem m_X3_makeFlowToNext (l : Launch) (E : kE) (h : Nat → Nat) (cd : Nat → Int32) (n : Nat) (sc : Bool) (rt : Nat) (on : Nat → Bool) (lo : Nat → Int64) (hi : Nat → Int64) (son : Nat → Bool) (slo : Nat → Int64) (shi : Nat → Int64) (fs : Bool) (lf : Nat → Int64) (hf : Nat → Int64) (em : Bool) (le : Int64) (gr : Int64) (p : Nat) (X : IV × IV) (hp : p < 24) (hok : okP cd p) (hX : okX X) (hR : ∀ v, v < 4 → lo (4 * p + v) = X.1 v ∧ hi (4 * p + v) = X.2 v) : kC l yX3_makeFlowToNext wsX3_makeFlowToNext ({ frames := 3, cells := 0, slots := 0, locals := 81 } : Room) E [.ref (h 0), .int (nI p)] (wX3 E h cd n sc rt on lo hi son slo shi fs lf hf em le gr) 0 0 (fun v_ w_ => ∃ (fs1 : Bool) (lf1 : Nat → Int64) (hf1 : Nat → Int64) (em1 : Bool) (le1 : Int64) (gr1 : Int64), v_ = none ∧ w_ = (wX3 E h cd n sc rt on lo hi son slo shi fs1 lf1 hf1 em1 le1 gr1) ∧ (FRep fs1 lf1 hf1 (fN cd p X))) := by
  refine kC.enter cX3_makeFlowToNext 6 none [(0, .ref (h 0)), (1, .int (nI p))] (by decide) rfl (Nat.le_of_ble_eq_true rfl) rfl ?_
  intro g F Rr
  refine k_iload_n F (pc := 0) 1 rfl dX3_makeFlowToNext_0 rfl ?_
  refine k_iconst F (pc := 1) ((nI 4)) dX3_makeFlowToNext_1 (by decide) ?_
  refine k_imulC F (pc := 2) dX3_makeFlowToNext_2 ?_
  refine k_istore_n F (pc := 3) [(2, .int (nI (4 * p))), (0, .ref (h 0)), (1, .int (nI p))] dX3_makeFlowToNext_3 rfl (by decide) rfl ?_
  refine k_aload_n F (pc := 4) 1 rfl dX3_makeFlowToNext_4 rfl ?_
  refine k_get F (pc := 5) (ref := RX3) (C := RX3) (T := TX3) (N := 8) (ci := 3) 0 0 dX3_makeFlowToNext_5 zin_X3_makeFlowToNext_X3 rfl rfl (by decide) zm_X3_makeFlowToNext_f9 rfl rfl ?_
  refine k_iload_n F (pc := 8) 0 rfl dX3_makeFlowToNext_8 rfl ?_
  refine k_iconst F (pc := 9) ((nI 0)) dX3_makeFlowToNext_9 (by decide) ?_
  refine k_iadd0 F (pc := 10) dX3_makeFlowToNext_10 ?_
  refine k_iald F (pc := 11) 1 dX3_makeFlowToNext_11 rfl (by omega) (by decide) ?_
  refine k_istore_n F (pc := 12) [(3, .int (cd (4 * p))), (2, .int (nI (4 * p))), (0, .ref (h 0)), (1, .int (nI p))] dX3_makeFlowToNext_12 rfl (by decide) rfl ?_
  refine k_aload_n F (pc := 13) 2 rfl dX3_makeFlowToNext_13 rfl ?_
  refine k_get F (pc := 14) (ref := RX3) (C := RX3) (T := TX3) (N := 8) (ci := 3) 0 0 dX3_makeFlowToNext_14 zin_X3_makeFlowToNext_X3 rfl rfl (by decide) zm_X3_makeFlowToNext_f9 rfl rfl ?_
  refine k_iload_n F (pc := 17) 1 rfl dX3_makeFlowToNext_17 rfl ?_
  refine k_iconst F (pc := 18) ((nI 1)) dX3_makeFlowToNext_18 (by decide) ?_
  refine k_iaddN F (pc := 19) dX3_makeFlowToNext_19 ?_
  refine k_iald F (pc := 20) 1 dX3_makeFlowToNext_20 rfl (by omega) (by decide) ?_
  refine k_istore F (pc := 21) [(4, .int (cd (4 * p + 1))), (3, .int (cd (4 * p))), (2, .int (nI (4 * p))), (0, .ref (h 0)), (1, .int (nI p))] dX3_makeFlowToNext_21 (by decide) rfl ?_
  refine k_aload_n F (pc := 23) 3 rfl dX3_makeFlowToNext_23 rfl ?_
  refine k_get F (pc := 24) (ref := RX3) (C := RX3) (T := TX3) (N := 8) (ci := 3) 0 0 dX3_makeFlowToNext_24 zin_X3_makeFlowToNext_X3 rfl rfl (by decide) zm_X3_makeFlowToNext_f9 rfl rfl ?_
  refine k_iload_n F (pc := 27) 2 rfl dX3_makeFlowToNext_27 rfl ?_
  refine k_iconst F (pc := 28) ((nI 2)) dX3_makeFlowToNext_28 (by decide) ?_
  refine k_iaddN F (pc := 29) dX3_makeFlowToNext_29 ?_
  refine k_iald F (pc := 30) 1 dX3_makeFlowToNext_30 rfl (by omega) (by decide) ?_
  refine k_istore F (pc := 31) [(5, .int (cd (4 * p + 2))), (4, .int (cd (4 * p + 1))), (3, .int (cd (4 * p))), (2, .int (nI (4 * p))), (0, .ref (h 0)), (1, .int (nI p))] dX3_makeFlowToNext_31 (by decide) rfl ?_
  refine k_aload_n F (pc := 33) 4 rfl dX3_makeFlowToNext_33 rfl ?_
  refine k_get F (pc := 34) (ref := RX3) (C := RX3) (T := TX3) (N := 8) (ci := 3) 0 4 dX3_makeFlowToNext_34 zin_X3_makeFlowToNext_X3 rfl rfl (by decide) zm_X3_makeFlowToNext_f27 rfl rfl ?_
  refine k_aload_n F (pc := 37) 4 rfl dX3_makeFlowToNext_37 rfl ?_
  refine k_get F (pc := 38) (ref := RX3) (C := RX3) (T := TX3) (N := 8) (ci := 3) 0 6 dX3_makeFlowToNext_38 zin_X3_makeFlowToNext_X3 rfl rfl (by decide) zm_X3_makeFlowToNext_f37 rfl rfl ?_
  refine k_iload_n F (pc := 41) 5 rfl dX3_makeFlowToNext_41 rfl ?_
  refine k_callV F (pc := 42) (C := RX2) (T := TX2) (N := 3) (ci := 2) [.ref (h 10), .int (nI p)] [] 2 (wX20 E (h 2) (h 3) (h 4) (h 5) on lo hi (h 10) (h 11) (h 12) fs lf hf) [cObj (h 0) 3 [.ref (h 1), .int (nI n), .int (bI sc), .int (nI rt), .ref (h 2), .ref (h 6), .ref (h 10), .ref (h 13)], cInt E (h 1) 96 cd, cObj (h 6) 2 [.ref (h 7), .ref (h 8), .ref (h 9)], cBoo E (h 7) 24 son, cLng E (h 8) 96 slo, cLng E (h 9) 96 shi, cObj (h 13) 1 [.int (bI em), .long le, .long gr]] [2, 3, 4, 5, 10, 11, 12] [0, 1, 6, 7, 8, 9, 13] (m_X2_copyTo l E (h 2) (h 3) (h 4) (h 5) on lo hi (h 10) (h 11) (h 12) fs lf hf p (by omega)) dX3_makeFlowToNext_42 gX3_makeFlowToNext_X2_copyTo rfl (by decide +kernel) rfl ⟨rfl, rfl⟩ (by decide) rfl (Nat.le_of_ble_eq_true rfl) (by decide) rfl rfl rfl rfl (by decide) (by decide) (by decide) ?_
  rintro v_3 w_4 ⟨lf1_1, hf1_2, rfl, rfl, hcp⟩
  refine k_perm (wX3 E h cd n sc rt on lo hi son slo shi true lf1_1 hf1_2 em le gr) [0, 1, 7, 8, 9, 10, 2, 3, 4, 5, 11, 12, 13, 6] (by decide) rfl ?_
  show kK g (wX3 E h cd n sc rt on lo hi son slo shi true lf1_1 hf1_2 em le gr) [(5, .int (cd (4 * p + 2))), (4, .int (cd (4 * p + 1))), (3, .int (cd (4 * p))), (2, .int (nI (4 * p))), (0, .ref (h 0)), (1, .int (nI p))] 0 0 45 []
  have hF0 : FRep true lf1_1 hf1_2 (some X) := cp_rep hcp hR
  refine k_iload_n F (pc := 45) 2 rfl dX3_makeFlowToNext_45 rfl ?_
  by_cases c_5 : (cd (4 * p)).toInt = 1
  · skip
    refine k_tabIn F (pc := 46) 1 104 dX3_makeFlowToNext_46 c_5 (by decide) (by decide) rfl (by decide) ?_
    have hop := c_5
    obtain ⟨ea, ha4⟩ := okP_a hok (by omega)
    refine k_aload_n F (pc := 104) 4 rfl dX3_makeFlowToNext_104 rfl ?_
    refine k_get F (pc := 105) (ref := RX3) (C := RX3) (T := TX3) (N := 8) (ci := 3) 0 6 dX3_makeFlowToNext_105 zin_X3_makeFlowToNext_X3 rfl rfl (by decide) zm_X3_makeFlowToNext_f37 rfl rfl ?_
    refine k_iload F (pc := 108) 1 rfl dX3_makeFlowToNext_108 ?_
    refine k_topi (nI ((cd (4 * p + 1)).toNatClampNeg)) ea ?_
    refine k_iload F (pc := 110) 0 rfl dX3_makeFlowToNext_110 ?_
    refine k_i2l F (pc := 112) ((cd (4 * p + 2)).toInt64) dX3_makeFlowToNext_112 rfl ?_
    refine k_iload F (pc := 113) 0 rfl dX3_makeFlowToNext_113 ?_
    refine k_i2l F (pc := 115) ((cd (4 * p + 2)).toInt64) dX3_makeFlowToNext_115 rfl ?_
    refine k_callV F (pc := 116) (C := RX0) (T := TX0) (N := 3) (ci := 0) [.int (nI ((cd (4 * p + 1)).toNatClampNeg)), .long ((cd (4 * p + 2)).toInt64), .long ((cd (4 * p + 2)).toInt64)] [] 3 (wX0 E (h 10) (h 11) (h 12) true lf1_1 hf1_2) [cObj (h 0) 3 [.ref (h 1), .int (nI n), .int (bI sc), .int (nI rt), .ref (h 2), .ref (h 6), .ref (h 10), .ref (h 13)], cInt E (h 1) 96 cd, cObj (h 2) 2 [.ref (h 3), .ref (h 4), .ref (h 5)], cBoo E (h 3) 24 on, cLng E (h 4) 96 lo, cLng E (h 5) 96 hi, cObj (h 6) 2 [.ref (h 7), .ref (h 8), .ref (h 9)], cBoo E (h 7) 24 son, cLng E (h 8) 96 slo, cLng E (h 9) 96 shi, cObj (h 13) 1 [.int (bI em), .long le, .long gr]] [10, 11, 12] [0, 1, 2, 3, 4, 5, 6, 7, 8, 9, 13] (m_X0_put l E (h 10) (h 11) (h 12) true lf1_1 hf1_2 ((cd (4 * p + 1)).toNatClampNeg) ((cd (4 * p + 2)).toInt64) ((cd (4 * p + 2)).toInt64) (by omega)) dX3_makeFlowToNext_116 gX3_makeFlowToNext_X0_put rfl (by decide +kernel) rfl ⟨rfl, rfl⟩ (by decide) rfl (Nat.le_of_ble_eq_true rfl) (by decide) rfl rfl rfl rfl (by decide) (by decide) (by decide) ?_
    rintro v_6 w_7 ⟨rfl, rfl⟩
    refine k_perm (wX3 E h cd n sc rt on lo hi son slo shi true (vp_updL lf1_1 ((cd (4 * p + 1)).toNatClampNeg) ((cd (4 * p + 2)).toInt64)) (vp_updL hf1_2 ((cd (4 * p + 1)).toNatClampNeg) ((cd (4 * p + 2)).toInt64)) em le gr) [0, 1, 2, 3, 4, 5, 6, 7, 8, 9, 11, 12, 13, 10] (by decide) rfl ?_
    show kK g (wX3 E h cd n sc rt on lo hi son slo shi true (vp_updL lf1_1 ((cd (4 * p + 1)).toNatClampNeg) ((cd (4 * p + 2)).toInt64)) (vp_updL hf1_2 ((cd (4 * p + 1)).toNatClampNeg) ((cd (4 * p + 2)).toInt64)) em le gr) [(5, .int (cd (4 * p + 2))), (4, .int (cd (4 * p + 1))), (3, .int (cd (4 * p))), (2, .int (nI (4 * p))), (0, .ref (h 0)), (1, .int (nI p))] 0 0 119 []
    have hfin : FRep true (vp_updL lf1_1 ((cd (4 * p + 1)).toNatClampNeg) ((cd (4 * p + 2)).toInt64)) (vp_updL hf1_2 ((cd (4 * p + 1)).toNatClampNeg) ((cd (4 * p + 2)).toInt64)) (fN cd p X) := by rw [fN_1 hop]; exact hF0.put _ _ _
    refine k_goto F (pc := 119) 245 dX3_makeFlowToNext_119 (by decide) ?_
    refine k_vret F Rr (pc := 245) dX3_makeFlowToNext_245 ⟨true, (vp_updL lf1_1 ((cd (4 * p + 1)).toNatClampNeg) ((cd (4 * p + 2)).toInt64)), (vp_updL hf1_2 ((cd (4 * p + 1)).toNatClampNeg) ((cd (4 * p + 2)).toInt64)), em, le, gr, rfl, rfl, ?_⟩
    exact hfin
  by_cases c_8 : (cd (4 * p)).toInt = 2
  · skip
    refine k_tabIn F (pc := 46) 2 122 dX3_makeFlowToNext_46 c_8 (by decide) (by decide) rfl (by decide) ?_
    have hop := c_8
    obtain ⟨ea, ha4⟩ := okP_a hok (by omega)
    obtain ⟨eb, hb4⟩ := okP_b hok (by omega)
    refine k_aload_n F (pc := 122) 4 rfl dX3_makeFlowToNext_122 rfl ?_
    refine k_get F (pc := 123) (ref := RX3) (C := RX3) (T := TX3) (N := 8) (ci := 3) 0 6 dX3_makeFlowToNext_123 zin_X3_makeFlowToNext_X3 rfl rfl (by decide) zm_X3_makeFlowToNext_f37 rfl rfl ?_
    refine k_iload F (pc := 126) 1 rfl dX3_makeFlowToNext_126 ?_
    refine k_topi (nI ((cd (4 * p + 1)).toNatClampNeg)) ea ?_
    refine k_aload_n F (pc := 128) 4 rfl dX3_makeFlowToNext_128 rfl ?_
    refine k_get F (pc := 129) (ref := RX3) (C := RX3) (T := TX3) (N := 8) (ci := 3) 0 6 dX3_makeFlowToNext_129 zin_X3_makeFlowToNext_X3 rfl rfl (by decide) zm_X3_makeFlowToNext_f37 rfl rfl ?_
    refine k_iload F (pc := 132) 0 rfl dX3_makeFlowToNext_132 ?_
    refine k_topi (nI ((cd (4 * p + 2)).toNatClampNeg)) eb ?_
    refine k_callV F (pc := 134) (C := RX0) (T := TX0) (N := 3) (ci := 0) [.int (nI ((cd (4 * p + 2)).toNatClampNeg))] [.int (nI ((cd (4 * p + 1)).toNatClampNeg)), .ref (h 10)] 1 (wX0 E (h 10) (h 11) (h 12) true lf1_1 hf1_2) [cObj (h 0) 3 [.ref (h 1), .int (nI n), .int (bI sc), .int (nI rt), .ref (h 2), .ref (h 6), .ref (h 10), .ref (h 13)], cInt E (h 1) 96 cd, cObj (h 2) 2 [.ref (h 3), .ref (h 4), .ref (h 5)], cBoo E (h 3) 24 on, cLng E (h 4) 96 lo, cLng E (h 5) 96 hi, cObj (h 6) 2 [.ref (h 7), .ref (h 8), .ref (h 9)], cBoo E (h 7) 24 son, cLng E (h 8) 96 slo, cLng E (h 9) 96 shi, cObj (h 13) 1 [.int (bI em), .long le, .long gr]] [10, 11, 12] [0, 1, 2, 3, 4, 5, 6, 7, 8, 9, 13] (m_X0_lowOf l E (h 10) (h 11) (h 12) true lf1_1 hf1_2 ((cd (4 * p + 2)).toNatClampNeg) (by omega)) dX3_makeFlowToNext_134 gX3_makeFlowToNext_X0_lowOf rfl (by decide +kernel) rfl ⟨rfl, rfl⟩ (by decide) rfl (Nat.le_of_ble_eq_true rfl) (by decide) rfl rfl rfl rfl (by decide) (by decide) (by decide) ?_
    rintro v_9 w_10 ⟨rfl, rfl⟩
    refine k_perm (wX3 E h cd n sc rt on lo hi son slo shi true lf1_1 hf1_2 em le gr) [0, 1, 2, 3, 4, 5, 6, 7, 8, 9, 11, 12, 13, 10] (by decide) rfl ?_
    show kK g (wX3 E h cd n sc rt on lo hi son slo shi true lf1_1 hf1_2 em le gr) [(5, .int (cd (4 * p + 2))), (4, .int (cd (4 * p + 1))), (3, .int (cd (4 * p))), (2, .int (nI (4 * p))), (0, .ref (h 0)), (1, .int (nI p))] 0 0 137 [.long (lf1_1 ((cd (4 * p + 2)).toNatClampNeg)), .int (nI ((cd (4 * p + 1)).toNatClampNeg)), .ref (h 10)]
    refine k_aload_n F (pc := 137) 4 rfl dX3_makeFlowToNext_137 rfl ?_
    refine k_get F (pc := 138) (ref := RX3) (C := RX3) (T := TX3) (N := 8) (ci := 3) 0 6 dX3_makeFlowToNext_138 zin_X3_makeFlowToNext_X3 rfl rfl (by decide) zm_X3_makeFlowToNext_f37 rfl rfl ?_
    refine k_iload F (pc := 141) 0 rfl dX3_makeFlowToNext_141 ?_
    refine k_topi (nI ((cd (4 * p + 2)).toNatClampNeg)) eb ?_
    refine k_callV F (pc := 143) (C := RX0) (T := TX0) (N := 3) (ci := 0) [.int (nI ((cd (4 * p + 2)).toNatClampNeg))] [.long (lf1_1 ((cd (4 * p + 2)).toNatClampNeg)), .int (nI ((cd (4 * p + 1)).toNatClampNeg)), .ref (h 10)] 1 (wX0 E (h 10) (h 11) (h 12) true lf1_1 hf1_2) [cObj (h 0) 3 [.ref (h 1), .int (nI n), .int (bI sc), .int (nI rt), .ref (h 2), .ref (h 6), .ref (h 10), .ref (h 13)], cInt E (h 1) 96 cd, cObj (h 2) 2 [.ref (h 3), .ref (h 4), .ref (h 5)], cBoo E (h 3) 24 on, cLng E (h 4) 96 lo, cLng E (h 5) 96 hi, cObj (h 6) 2 [.ref (h 7), .ref (h 8), .ref (h 9)], cBoo E (h 7) 24 son, cLng E (h 8) 96 slo, cLng E (h 9) 96 shi, cObj (h 13) 1 [.int (bI em), .long le, .long gr]] [10, 11, 12] [0, 1, 2, 3, 4, 5, 6, 7, 8, 9, 13] (m_X0_highOf l E (h 10) (h 11) (h 12) true lf1_1 hf1_2 ((cd (4 * p + 2)).toNatClampNeg) (by omega)) dX3_makeFlowToNext_143 gX3_makeFlowToNext_X0_highOf rfl (by decide +kernel) rfl ⟨rfl, rfl⟩ (by decide) rfl (Nat.le_of_ble_eq_true rfl) (by decide) rfl rfl rfl rfl (by decide) (by decide) (by decide) ?_
    rintro v_11 w_12 ⟨rfl, rfl⟩
    refine k_perm (wX3 E h cd n sc rt on lo hi son slo shi true lf1_1 hf1_2 em le gr) [0, 1, 2, 3, 4, 5, 6, 7, 8, 9, 11, 12, 13, 10] (by decide) rfl ?_
    show kK g (wX3 E h cd n sc rt on lo hi son slo shi true lf1_1 hf1_2 em le gr) [(5, .int (cd (4 * p + 2))), (4, .int (cd (4 * p + 1))), (3, .int (cd (4 * p))), (2, .int (nI (4 * p))), (0, .ref (h 0)), (1, .int (nI p))] 0 0 146 [.long (hf1_2 ((cd (4 * p + 2)).toNatClampNeg)), .long (lf1_1 ((cd (4 * p + 2)).toNatClampNeg)), .int (nI ((cd (4 * p + 1)).toNatClampNeg)), .ref (h 10)]
    refine k_callV F (pc := 146) (C := RX0) (T := TX0) (N := 3) (ci := 0) [.int (nI ((cd (4 * p + 1)).toNatClampNeg)), .long (lf1_1 ((cd (4 * p + 2)).toNatClampNeg)), .long (hf1_2 ((cd (4 * p + 2)).toNatClampNeg))] [] 3 (wX0 E (h 10) (h 11) (h 12) true lf1_1 hf1_2) [cObj (h 0) 3 [.ref (h 1), .int (nI n), .int (bI sc), .int (nI rt), .ref (h 2), .ref (h 6), .ref (h 10), .ref (h 13)], cInt E (h 1) 96 cd, cObj (h 2) 2 [.ref (h 3), .ref (h 4), .ref (h 5)], cBoo E (h 3) 24 on, cLng E (h 4) 96 lo, cLng E (h 5) 96 hi, cObj (h 6) 2 [.ref (h 7), .ref (h 8), .ref (h 9)], cBoo E (h 7) 24 son, cLng E (h 8) 96 slo, cLng E (h 9) 96 shi, cObj (h 13) 1 [.int (bI em), .long le, .long gr]] [10, 11, 12] [0, 1, 2, 3, 4, 5, 6, 7, 8, 9, 13] (m_X0_put l E (h 10) (h 11) (h 12) true lf1_1 hf1_2 ((cd (4 * p + 1)).toNatClampNeg) (lf1_1 ((cd (4 * p + 2)).toNatClampNeg)) (hf1_2 ((cd (4 * p + 2)).toNatClampNeg)) (by omega)) dX3_makeFlowToNext_146 gX3_makeFlowToNext_X0_put rfl (by decide +kernel) rfl ⟨rfl, rfl⟩ (by decide) rfl (Nat.le_of_ble_eq_true rfl) (by decide) rfl rfl rfl rfl (by decide) (by decide) (by decide) ?_
    rintro v_13 w_14 ⟨rfl, rfl⟩
    refine k_perm (wX3 E h cd n sc rt on lo hi son slo shi true (vp_updL lf1_1 ((cd (4 * p + 1)).toNatClampNeg) (lf1_1 ((cd (4 * p + 2)).toNatClampNeg))) (vp_updL hf1_2 ((cd (4 * p + 1)).toNatClampNeg) (hf1_2 ((cd (4 * p + 2)).toNatClampNeg))) em le gr) [0, 1, 2, 3, 4, 5, 6, 7, 8, 9, 11, 12, 13, 10] (by decide) rfl ?_
    show kK g (wX3 E h cd n sc rt on lo hi son slo shi true (vp_updL lf1_1 ((cd (4 * p + 1)).toNatClampNeg) (lf1_1 ((cd (4 * p + 2)).toNatClampNeg))) (vp_updL hf1_2 ((cd (4 * p + 1)).toNatClampNeg) (hf1_2 ((cd (4 * p + 2)).toNatClampNeg))) em le gr) [(5, .int (cd (4 * p + 2))), (4, .int (cd (4 * p + 1))), (3, .int (cd (4 * p))), (2, .int (nI (4 * p))), (0, .ref (h 0)), (1, .int (nI p))] 0 0 149 []
    have hfin : FRep true (vp_updL lf1_1 ((cd (4 * p + 1)).toNatClampNeg) (lf1_1 ((cd (4 * p + 2)).toNatClampNeg))) (vp_updL hf1_2 ((cd (4 * p + 1)).toNatClampNeg) (hf1_2 ((cd (4 * p + 2)).toNatClampNeg))) (fN cd p X) := next_2 hF0 hop hb4
    refine k_goto F (pc := 149) 245 dX3_makeFlowToNext_149 (by decide) ?_
    refine k_vret F Rr (pc := 245) dX3_makeFlowToNext_245 ⟨true, (vp_updL lf1_1 ((cd (4 * p + 1)).toNatClampNeg) (lf1_1 ((cd (4 * p + 2)).toNatClampNeg))), (vp_updL hf1_2 ((cd (4 * p + 1)).toNatClampNeg) (hf1_2 ((cd (4 * p + 2)).toNatClampNeg))), em, le, gr, rfl, rfl, ?_⟩
    exact hfin
  by_cases c_15 : (cd (4 * p)).toInt = 3
  · skip
    refine k_tabIn F (pc := 46) 3 152 dX3_makeFlowToNext_46 c_15 (by decide) (by decide) rfl (by decide) ?_
    have hop := c_15
    obtain ⟨ea, ha4⟩ := okP_a hok (by omega)
    obtain ⟨eb, hb4⟩ := okP_b hok (by omega)
    obtain ⟨ec, hc4⟩ := okP_c hok (by omega)
    refine k_aload_n F (pc := 152) 4 rfl dX3_makeFlowToNext_152 rfl ?_
    refine k_iload_n F (pc := 153) 2 rfl dX3_makeFlowToNext_153 rfl ?_
    refine k_iload F (pc := 154) 0 rfl dX3_makeFlowToNext_154 ?_
    refine k_topi (nI ((cd (4 * p + 2)).toNatClampNeg)) eb ?_
    refine k_aload_n F (pc := 156) 4 rfl dX3_makeFlowToNext_156 rfl ?_
    refine k_get F (pc := 157) (ref := RX3) (C := RX3) (T := TX3) (N := 8) (ci := 3) 0 0 dX3_makeFlowToNext_157 zin_X3_makeFlowToNext_X3 rfl rfl (by decide) zm_X3_makeFlowToNext_f9 rfl rfl ?_
    refine k_iload_n F (pc := 160) 3 rfl dX3_makeFlowToNext_160 rfl ?_
    refine k_iconst F (pc := 161) ((nI 3)) dX3_makeFlowToNext_161 (by decide) ?_
    refine k_iaddN F (pc := 162) dX3_makeFlowToNext_162 ?_
    refine k_iald F (pc := 163) 1 dX3_makeFlowToNext_163 rfl (by omega) (by decide) ?_
    refine k_topi (nI ((cd (4 * p + 3)).toNatClampNeg)) ec ?_
    refine k_callV F (pc := 164) (C := RX3) (T := TX3) (N := 8) (ci := 3) [.int (cd (4 * p)), .int (nI ((cd (4 * p + 2)).toNatClampNeg)), .int (nI ((cd (4 * p + 3)).toNatClampNeg))] [] 3 (wX3 E h cd n sc rt on lo hi son slo shi true lf1_1 hf1_2 em le gr) [] [0, 1, 2, 3, 4, 5, 6, 7, 8, 9, 10, 11, 12, 13] [] (m_X3_calculate l E h cd n sc rt on lo hi son slo shi true lf1_1 hf1_2 em le gr (cd (4 * p)) ((cd (4 * p + 2)).toNatClampNeg) ((cd (4 * p + 3)).toNatClampNeg) (by omega) (by omega) (by omega) (by rw [((hF0.2 X rfl).2 _ hc4).1, ((hF0.2 X rfl).2 _ hc4).2]; exact (hX _ hc4).2.1)) dX3_makeFlowToNext_164 gX3_makeFlowToNext_X3_calculate rfl (by decide +kernel) rfl ⟨rfl, rfl⟩ (by decide) rfl (Nat.le_of_ble_eq_true rfl) (by decide) rfl rfl rfl rfl (by decide) (by decide) (by decide) ?_
    rintro v_19 w_20 ⟨em1_16, le1_17, gr1_18, rfl, rfl, hca⟩
    refine k_perm (wX3 E h cd n sc rt on lo hi son slo shi true lf1_1 hf1_2 em1_16 le1_17 gr1_18) [0, 1, 2, 3, 4, 5, 6, 7, 8, 9, 10, 11, 12, 13] (by decide) rfl ?_
    show kK g (wX3 E h cd n sc rt on lo hi son slo shi true lf1_1 hf1_2 em1_16 le1_17 gr1_18) [(5, .int (cd (4 * p + 2))), (4, .int (cd (4 * p + 1))), (3, .int (cd (4 * p))), (2, .int (nI (4 * p))), (0, .ref (h 0)), (1, .int (nI p))] 0 0 167 []
    refine k_aload_n F (pc := 167) 4 rfl dX3_makeFlowToNext_167 rfl ?_
    refine k_iload F (pc := 168) 1 rfl dX3_makeFlowToNext_168 ?_
    refine k_topi (nI ((cd (4 * p + 1)).toNatClampNeg)) ea ?_
    refine k_callV F (pc := 170) (C := RX3) (T := TX3) (N := 8) (ci := 3) [.int (nI ((cd (4 * p + 1)).toNatClampNeg))] [] 1 (wX3 E h cd n sc rt on lo hi son slo shi true lf1_1 hf1_2 em1_16 le1_17 gr1_18) [] [0, 1, 2, 3, 4, 5, 6, 7, 8, 9, 10, 11, 12, 13] [] (m_X3_putResults l E h cd n sc rt on lo hi son slo shi true lf1_1 hf1_2 em1_16 le1_17 gr1_18 ((cd (4 * p + 1)).toNatClampNeg) (calcR (cd (4 * p)).toInt (lf1_1 ((cd (4 * p + 2)).toNatClampNeg)) (hf1_2 ((cd (4 * p + 2)).toNatClampNeg)) (lf1_1 ((cd (4 * p + 3)).toNatClampNeg)) (hf1_2 ((cd (4 * p + 3)).toNatClampNeg))) (by omega) hca) dX3_makeFlowToNext_170 gX3_makeFlowToNext_X3_putResults rfl (by decide +kernel) rfl ⟨rfl, rfl⟩ (by decide) rfl (Nat.le_of_ble_eq_true rfl) (by decide) rfl rfl rfl rfl (by decide) (by decide) (by decide) ?_
    rintro v_24 w_25 ⟨fs1_21, lf1_22, hf1_23, rfl, rfl, hpr⟩
    refine k_perm (wX3 E h cd n sc rt on lo hi son slo shi fs1_21 lf1_22 hf1_23 em1_16 le1_17 gr1_18) [0, 1, 2, 3, 4, 5, 6, 7, 8, 9, 10, 11, 12, 13] (by decide) rfl ?_
    show kK g (wX3 E h cd n sc rt on lo hi son slo shi fs1_21 lf1_22 hf1_23 em1_16 le1_17 gr1_18) [(5, .int (cd (4 * p + 2))), (4, .int (cd (4 * p + 1))), (3, .int (cd (4 * p))), (2, .int (nI (4 * p))), (0, .ref (h 0)), (1, .int (nI p))] 0 0 173 []
    have hfin : FRep fs1_21 lf1_22 hf1_23 (fN cd p X) := next_3 hF0 (by omega) hb4 hc4 hpr
    refine k_goto F (pc := 173) 245 dX3_makeFlowToNext_173 (by decide) ?_
    refine k_vret F Rr (pc := 245) dX3_makeFlowToNext_245 ⟨fs1_21, lf1_22, hf1_23, em1_16, le1_17, gr1_18, rfl, rfl, ?_⟩
    exact hfin
  by_cases c_26 : (cd (4 * p)).toInt = 4
  · skip
    refine k_tabIn F (pc := 46) 4 152 dX3_makeFlowToNext_46 c_26 (by decide) (by decide) rfl (by decide) ?_
    have hop := c_26
    obtain ⟨ea, ha4⟩ := okP_a hok (by omega)
    obtain ⟨eb, hb4⟩ := okP_b hok (by omega)
    obtain ⟨ec, hc4⟩ := okP_c hok (by omega)
    refine k_aload_n F (pc := 152) 4 rfl dX3_makeFlowToNext_152 rfl ?_
    refine k_iload_n F (pc := 153) 2 rfl dX3_makeFlowToNext_153 rfl ?_
    refine k_iload F (pc := 154) 0 rfl dX3_makeFlowToNext_154 ?_
    refine k_topi (nI ((cd (4 * p + 2)).toNatClampNeg)) eb ?_
    refine k_aload_n F (pc := 156) 4 rfl dX3_makeFlowToNext_156 rfl ?_
    refine k_get F (pc := 157) (ref := RX3) (C := RX3) (T := TX3) (N := 8) (ci := 3) 0 0 dX3_makeFlowToNext_157 zin_X3_makeFlowToNext_X3 rfl rfl (by decide) zm_X3_makeFlowToNext_f9 rfl rfl ?_
    refine k_iload_n F (pc := 160) 3 rfl dX3_makeFlowToNext_160 rfl ?_
    refine k_iconst F (pc := 161) ((nI 3)) dX3_makeFlowToNext_161 (by decide) ?_
    refine k_iaddN F (pc := 162) dX3_makeFlowToNext_162 ?_
    refine k_iald F (pc := 163) 1 dX3_makeFlowToNext_163 rfl (by omega) (by decide) ?_
    refine k_topi (nI ((cd (4 * p + 3)).toNatClampNeg)) ec ?_
    refine k_callV F (pc := 164) (C := RX3) (T := TX3) (N := 8) (ci := 3) [.int (cd (4 * p)), .int (nI ((cd (4 * p + 2)).toNatClampNeg)), .int (nI ((cd (4 * p + 3)).toNatClampNeg))] [] 3 (wX3 E h cd n sc rt on lo hi son slo shi true lf1_1 hf1_2 em le gr) [] [0, 1, 2, 3, 4, 5, 6, 7, 8, 9, 10, 11, 12, 13] [] (m_X3_calculate l E h cd n sc rt on lo hi son slo shi true lf1_1 hf1_2 em le gr (cd (4 * p)) ((cd (4 * p + 2)).toNatClampNeg) ((cd (4 * p + 3)).toNatClampNeg) (by omega) (by omega) (by omega) (by rw [((hF0.2 X rfl).2 _ hc4).1, ((hF0.2 X rfl).2 _ hc4).2]; exact (hX _ hc4).2.1)) dX3_makeFlowToNext_164 gX3_makeFlowToNext_X3_calculate rfl (by decide +kernel) rfl ⟨rfl, rfl⟩ (by decide) rfl (Nat.le_of_ble_eq_true rfl) (by decide) rfl rfl rfl rfl (by decide) (by decide) (by decide) ?_
    rintro v_30 w_31 ⟨em1_27, le1_28, gr1_29, rfl, rfl, hca⟩
    refine k_perm (wX3 E h cd n sc rt on lo hi son slo shi true lf1_1 hf1_2 em1_27 le1_28 gr1_29) [0, 1, 2, 3, 4, 5, 6, 7, 8, 9, 10, 11, 12, 13] (by decide) rfl ?_
    show kK g (wX3 E h cd n sc rt on lo hi son slo shi true lf1_1 hf1_2 em1_27 le1_28 gr1_29) [(5, .int (cd (4 * p + 2))), (4, .int (cd (4 * p + 1))), (3, .int (cd (4 * p))), (2, .int (nI (4 * p))), (0, .ref (h 0)), (1, .int (nI p))] 0 0 167 []
    refine k_aload_n F (pc := 167) 4 rfl dX3_makeFlowToNext_167 rfl ?_
    refine k_iload F (pc := 168) 1 rfl dX3_makeFlowToNext_168 ?_
    refine k_topi (nI ((cd (4 * p + 1)).toNatClampNeg)) ea ?_
    refine k_callV F (pc := 170) (C := RX3) (T := TX3) (N := 8) (ci := 3) [.int (nI ((cd (4 * p + 1)).toNatClampNeg))] [] 1 (wX3 E h cd n sc rt on lo hi son slo shi true lf1_1 hf1_2 em1_27 le1_28 gr1_29) [] [0, 1, 2, 3, 4, 5, 6, 7, 8, 9, 10, 11, 12, 13] [] (m_X3_putResults l E h cd n sc rt on lo hi son slo shi true lf1_1 hf1_2 em1_27 le1_28 gr1_29 ((cd (4 * p + 1)).toNatClampNeg) (calcR (cd (4 * p)).toInt (lf1_1 ((cd (4 * p + 2)).toNatClampNeg)) (hf1_2 ((cd (4 * p + 2)).toNatClampNeg)) (lf1_1 ((cd (4 * p + 3)).toNatClampNeg)) (hf1_2 ((cd (4 * p + 3)).toNatClampNeg))) (by omega) hca) dX3_makeFlowToNext_170 gX3_makeFlowToNext_X3_putResults rfl (by decide +kernel) rfl ⟨rfl, rfl⟩ (by decide) rfl (Nat.le_of_ble_eq_true rfl) (by decide) rfl rfl rfl rfl (by decide) (by decide) (by decide) ?_
    rintro v_35 w_36 ⟨fs1_32, lf1_33, hf1_34, rfl, rfl, hpr⟩
    refine k_perm (wX3 E h cd n sc rt on lo hi son slo shi fs1_32 lf1_33 hf1_34 em1_27 le1_28 gr1_29) [0, 1, 2, 3, 4, 5, 6, 7, 8, 9, 10, 11, 12, 13] (by decide) rfl ?_
    show kK g (wX3 E h cd n sc rt on lo hi son slo shi fs1_32 lf1_33 hf1_34 em1_27 le1_28 gr1_29) [(5, .int (cd (4 * p + 2))), (4, .int (cd (4 * p + 1))), (3, .int (cd (4 * p))), (2, .int (nI (4 * p))), (0, .ref (h 0)), (1, .int (nI p))] 0 0 173 []
    have hfin : FRep fs1_32 lf1_33 hf1_34 (fN cd p X) := next_3 hF0 (by omega) hb4 hc4 hpr
    refine k_goto F (pc := 173) 245 dX3_makeFlowToNext_173 (by decide) ?_
    refine k_vret F Rr (pc := 245) dX3_makeFlowToNext_245 ⟨fs1_32, lf1_33, hf1_34, em1_27, le1_28, gr1_29, rfl, rfl, ?_⟩
    exact hfin
  by_cases c_37 : (cd (4 * p)).toInt = 5
  · skip
    refine k_tabIn F (pc := 46) 5 152 dX3_makeFlowToNext_46 c_37 (by decide) (by decide) rfl (by decide) ?_
    have hop := c_37
    obtain ⟨ea, ha4⟩ := okP_a hok (by omega)
    obtain ⟨eb, hb4⟩ := okP_b hok (by omega)
    obtain ⟨ec, hc4⟩ := okP_c hok (by omega)
    refine k_aload_n F (pc := 152) 4 rfl dX3_makeFlowToNext_152 rfl ?_
    refine k_iload_n F (pc := 153) 2 rfl dX3_makeFlowToNext_153 rfl ?_
    refine k_iload F (pc := 154) 0 rfl dX3_makeFlowToNext_154 ?_
    refine k_topi (nI ((cd (4 * p + 2)).toNatClampNeg)) eb ?_
    refine k_aload_n F (pc := 156) 4 rfl dX3_makeFlowToNext_156 rfl ?_
    refine k_get F (pc := 157) (ref := RX3) (C := RX3) (T := TX3) (N := 8) (ci := 3) 0 0 dX3_makeFlowToNext_157 zin_X3_makeFlowToNext_X3 rfl rfl (by decide) zm_X3_makeFlowToNext_f9 rfl rfl ?_
    refine k_iload_n F (pc := 160) 3 rfl dX3_makeFlowToNext_160 rfl ?_
    refine k_iconst F (pc := 161) ((nI 3)) dX3_makeFlowToNext_161 (by decide) ?_
    refine k_iaddN F (pc := 162) dX3_makeFlowToNext_162 ?_
    refine k_iald F (pc := 163) 1 dX3_makeFlowToNext_163 rfl (by omega) (by decide) ?_
    refine k_topi (nI ((cd (4 * p + 3)).toNatClampNeg)) ec ?_
    refine k_callV F (pc := 164) (C := RX3) (T := TX3) (N := 8) (ci := 3) [.int (cd (4 * p)), .int (nI ((cd (4 * p + 2)).toNatClampNeg)), .int (nI ((cd (4 * p + 3)).toNatClampNeg))] [] 3 (wX3 E h cd n sc rt on lo hi son slo shi true lf1_1 hf1_2 em le gr) [] [0, 1, 2, 3, 4, 5, 6, 7, 8, 9, 10, 11, 12, 13] [] (m_X3_calculate l E h cd n sc rt on lo hi son slo shi true lf1_1 hf1_2 em le gr (cd (4 * p)) ((cd (4 * p + 2)).toNatClampNeg) ((cd (4 * p + 3)).toNatClampNeg) (by omega) (by omega) (by omega) (by rw [((hF0.2 X rfl).2 _ hc4).1, ((hF0.2 X rfl).2 _ hc4).2]; exact (hX _ hc4).2.1)) dX3_makeFlowToNext_164 gX3_makeFlowToNext_X3_calculate rfl (by decide +kernel) rfl ⟨rfl, rfl⟩ (by decide) rfl (Nat.le_of_ble_eq_true rfl) (by decide) rfl rfl rfl rfl (by decide) (by decide) (by decide) ?_
    rintro v_41 w_42 ⟨em1_38, le1_39, gr1_40, rfl, rfl, hca⟩
    refine k_perm (wX3 E h cd n sc rt on lo hi son slo shi true lf1_1 hf1_2 em1_38 le1_39 gr1_40) [0, 1, 2, 3, 4, 5, 6, 7, 8, 9, 10, 11, 12, 13] (by decide) rfl ?_
    show kK g (wX3 E h cd n sc rt on lo hi son slo shi true lf1_1 hf1_2 em1_38 le1_39 gr1_40) [(5, .int (cd (4 * p + 2))), (4, .int (cd (4 * p + 1))), (3, .int (cd (4 * p))), (2, .int (nI (4 * p))), (0, .ref (h 0)), (1, .int (nI p))] 0 0 167 []
    refine k_aload_n F (pc := 167) 4 rfl dX3_makeFlowToNext_167 rfl ?_
    refine k_iload F (pc := 168) 1 rfl dX3_makeFlowToNext_168 ?_
    refine k_topi (nI ((cd (4 * p + 1)).toNatClampNeg)) ea ?_
    refine k_callV F (pc := 170) (C := RX3) (T := TX3) (N := 8) (ci := 3) [.int (nI ((cd (4 * p + 1)).toNatClampNeg))] [] 1 (wX3 E h cd n sc rt on lo hi son slo shi true lf1_1 hf1_2 em1_38 le1_39 gr1_40) [] [0, 1, 2, 3, 4, 5, 6, 7, 8, 9, 10, 11, 12, 13] [] (m_X3_putResults l E h cd n sc rt on lo hi son slo shi true lf1_1 hf1_2 em1_38 le1_39 gr1_40 ((cd (4 * p + 1)).toNatClampNeg) (calcR (cd (4 * p)).toInt (lf1_1 ((cd (4 * p + 2)).toNatClampNeg)) (hf1_2 ((cd (4 * p + 2)).toNatClampNeg)) (lf1_1 ((cd (4 * p + 3)).toNatClampNeg)) (hf1_2 ((cd (4 * p + 3)).toNatClampNeg))) (by omega) hca) dX3_makeFlowToNext_170 gX3_makeFlowToNext_X3_putResults rfl (by decide +kernel) rfl ⟨rfl, rfl⟩ (by decide) rfl (Nat.le_of_ble_eq_true rfl) (by decide) rfl rfl rfl rfl (by decide) (by decide) (by decide) ?_
    rintro v_46 w_47 ⟨fs1_43, lf1_44, hf1_45, rfl, rfl, hpr⟩
    refine k_perm (wX3 E h cd n sc rt on lo hi son slo shi fs1_43 lf1_44 hf1_45 em1_38 le1_39 gr1_40) [0, 1, 2, 3, 4, 5, 6, 7, 8, 9, 10, 11, 12, 13] (by decide) rfl ?_
    show kK g (wX3 E h cd n sc rt on lo hi son slo shi fs1_43 lf1_44 hf1_45 em1_38 le1_39 gr1_40) [(5, .int (cd (4 * p + 2))), (4, .int (cd (4 * p + 1))), (3, .int (cd (4 * p))), (2, .int (nI (4 * p))), (0, .ref (h 0)), (1, .int (nI p))] 0 0 173 []
    have hfin : FRep fs1_43 lf1_44 hf1_45 (fN cd p X) := next_3 hF0 (by omega) hb4 hc4 hpr
    refine k_goto F (pc := 173) 245 dX3_makeFlowToNext_173 (by decide) ?_
    refine k_vret F Rr (pc := 245) dX3_makeFlowToNext_245 ⟨fs1_43, lf1_44, hf1_45, em1_38, le1_39, gr1_40, rfl, rfl, ?_⟩
    exact hfin
  by_cases c_48 : (cd (4 * p)).toInt = 6
  · skip
    refine k_tabIn F (pc := 46) 6 152 dX3_makeFlowToNext_46 c_48 (by decide) (by decide) rfl (by decide) ?_
    have hop := c_48
    obtain ⟨ea, ha4⟩ := okP_a hok (by omega)
    obtain ⟨eb, hb4⟩ := okP_b hok (by omega)
    obtain ⟨ec, hc4⟩ := okP_c hok (by omega)
    refine k_aload_n F (pc := 152) 4 rfl dX3_makeFlowToNext_152 rfl ?_
    refine k_iload_n F (pc := 153) 2 rfl dX3_makeFlowToNext_153 rfl ?_
    refine k_iload F (pc := 154) 0 rfl dX3_makeFlowToNext_154 ?_
    refine k_topi (nI ((cd (4 * p + 2)).toNatClampNeg)) eb ?_
    refine k_aload_n F (pc := 156) 4 rfl dX3_makeFlowToNext_156 rfl ?_
    refine k_get F (pc := 157) (ref := RX3) (C := RX3) (T := TX3) (N := 8) (ci := 3) 0 0 dX3_makeFlowToNext_157 zin_X3_makeFlowToNext_X3 rfl rfl (by decide) zm_X3_makeFlowToNext_f9 rfl rfl ?_
    refine k_iload_n F (pc := 160) 3 rfl dX3_makeFlowToNext_160 rfl ?_
    refine k_iconst F (pc := 161) ((nI 3)) dX3_makeFlowToNext_161 (by decide) ?_
    refine k_iaddN F (pc := 162) dX3_makeFlowToNext_162 ?_
    refine k_iald F (pc := 163) 1 dX3_makeFlowToNext_163 rfl (by omega) (by decide) ?_
    refine k_topi (nI ((cd (4 * p + 3)).toNatClampNeg)) ec ?_
    refine k_callV F (pc := 164) (C := RX3) (T := TX3) (N := 8) (ci := 3) [.int (cd (4 * p)), .int (nI ((cd (4 * p + 2)).toNatClampNeg)), .int (nI ((cd (4 * p + 3)).toNatClampNeg))] [] 3 (wX3 E h cd n sc rt on lo hi son slo shi true lf1_1 hf1_2 em le gr) [] [0, 1, 2, 3, 4, 5, 6, 7, 8, 9, 10, 11, 12, 13] [] (m_X3_calculate l E h cd n sc rt on lo hi son slo shi true lf1_1 hf1_2 em le gr (cd (4 * p)) ((cd (4 * p + 2)).toNatClampNeg) ((cd (4 * p + 3)).toNatClampNeg) (by omega) (by omega) (by omega) (by rw [((hF0.2 X rfl).2 _ hc4).1, ((hF0.2 X rfl).2 _ hc4).2]; exact (hX _ hc4).2.1)) dX3_makeFlowToNext_164 gX3_makeFlowToNext_X3_calculate rfl (by decide +kernel) rfl ⟨rfl, rfl⟩ (by decide) rfl (Nat.le_of_ble_eq_true rfl) (by decide) rfl rfl rfl rfl (by decide) (by decide) (by decide) ?_
    rintro v_52 w_53 ⟨em1_49, le1_50, gr1_51, rfl, rfl, hca⟩
    refine k_perm (wX3 E h cd n sc rt on lo hi son slo shi true lf1_1 hf1_2 em1_49 le1_50 gr1_51) [0, 1, 2, 3, 4, 5, 6, 7, 8, 9, 10, 11, 12, 13] (by decide) rfl ?_
    show kK g (wX3 E h cd n sc rt on lo hi son slo shi true lf1_1 hf1_2 em1_49 le1_50 gr1_51) [(5, .int (cd (4 * p + 2))), (4, .int (cd (4 * p + 1))), (3, .int (cd (4 * p))), (2, .int (nI (4 * p))), (0, .ref (h 0)), (1, .int (nI p))] 0 0 167 []
    refine k_aload_n F (pc := 167) 4 rfl dX3_makeFlowToNext_167 rfl ?_
    refine k_iload F (pc := 168) 1 rfl dX3_makeFlowToNext_168 ?_
    refine k_topi (nI ((cd (4 * p + 1)).toNatClampNeg)) ea ?_
    refine k_callV F (pc := 170) (C := RX3) (T := TX3) (N := 8) (ci := 3) [.int (nI ((cd (4 * p + 1)).toNatClampNeg))] [] 1 (wX3 E h cd n sc rt on lo hi son slo shi true lf1_1 hf1_2 em1_49 le1_50 gr1_51) [] [0, 1, 2, 3, 4, 5, 6, 7, 8, 9, 10, 11, 12, 13] [] (m_X3_putResults l E h cd n sc rt on lo hi son slo shi true lf1_1 hf1_2 em1_49 le1_50 gr1_51 ((cd (4 * p + 1)).toNatClampNeg) (calcR (cd (4 * p)).toInt (lf1_1 ((cd (4 * p + 2)).toNatClampNeg)) (hf1_2 ((cd (4 * p + 2)).toNatClampNeg)) (lf1_1 ((cd (4 * p + 3)).toNatClampNeg)) (hf1_2 ((cd (4 * p + 3)).toNatClampNeg))) (by omega) hca) dX3_makeFlowToNext_170 gX3_makeFlowToNext_X3_putResults rfl (by decide +kernel) rfl ⟨rfl, rfl⟩ (by decide) rfl (Nat.le_of_ble_eq_true rfl) (by decide) rfl rfl rfl rfl (by decide) (by decide) (by decide) ?_
    rintro v_57 w_58 ⟨fs1_54, lf1_55, hf1_56, rfl, rfl, hpr⟩
    refine k_perm (wX3 E h cd n sc rt on lo hi son slo shi fs1_54 lf1_55 hf1_56 em1_49 le1_50 gr1_51) [0, 1, 2, 3, 4, 5, 6, 7, 8, 9, 10, 11, 12, 13] (by decide) rfl ?_
    show kK g (wX3 E h cd n sc rt on lo hi son slo shi fs1_54 lf1_55 hf1_56 em1_49 le1_50 gr1_51) [(5, .int (cd (4 * p + 2))), (4, .int (cd (4 * p + 1))), (3, .int (cd (4 * p))), (2, .int (nI (4 * p))), (0, .ref (h 0)), (1, .int (nI p))] 0 0 173 []
    have hfin : FRep fs1_54 lf1_55 hf1_56 (fN cd p X) := next_3 hF0 (by omega) hb4 hc4 hpr
    refine k_goto F (pc := 173) 245 dX3_makeFlowToNext_173 (by decide) ?_
    refine k_vret F Rr (pc := 245) dX3_makeFlowToNext_245 ⟨fs1_54, lf1_55, hf1_56, em1_49, le1_50, gr1_51, rfl, rfl, ?_⟩
    exact hfin
  by_cases c_59 : (cd (4 * p)).toInt = 7
  · skip
    refine k_tabIn F (pc := 46) 7 176 dX3_makeFlowToNext_46 c_59 (by decide) (by decide) rfl (by decide) ?_
    have hop := c_59
    obtain ⟨ea, ha4⟩ := okP_a hok (by omega)
    obtain ⟨eb, hb4⟩ := okP_b hok (by omega)
    refine k_aload_n F (pc := 176) 4 rfl dX3_makeFlowToNext_176 rfl ?_
    refine k_iload F (pc := 177) 0 rfl dX3_makeFlowToNext_177 ?_
    refine k_topi (nI ((cd (4 * p + 2)).toNatClampNeg)) eb ?_
    refine k_callV F (pc := 179) (C := RX3) (T := TX3) (N := 8) (ci := 3) [.int (nI ((cd (4 * p + 2)).toNatClampNeg))] [] 1 (wX3 E h cd n sc rt on lo hi son slo shi true lf1_1 hf1_2 em le gr) [] [0, 1, 2, 3, 4, 5, 6, 7, 8, 9, 10, 11, 12, 13] [] (m_X3_stopOutsideArray l E h cd n sc rt on lo hi son slo shi true lf1_1 hf1_2 em le gr ((cd (4 * p + 2)).toNatClampNeg) (by omega)) dX3_makeFlowToNext_179 gX3_makeFlowToNext_X3_stopOutsideArray rfl (by decide +kernel) rfl ⟨rfl, rfl⟩ (by decide) rfl (Nat.le_of_ble_eq_true rfl) (by decide) rfl rfl rfl rfl (by decide) (by decide) (by decide) ?_
    rintro v_61 w_62 ⟨fs1_60, rfl, rfl, hso⟩
    refine k_perm (wX3 E h cd n sc rt on lo hi son slo shi fs1_60 lf1_1 hf1_2 em le gr) [0, 1, 2, 3, 4, 5, 6, 7, 8, 9, 10, 11, 12, 13] (by decide) rfl ?_
    show kK g (wX3 E h cd n sc rt on lo hi son slo shi fs1_60 lf1_1 hf1_2 em le gr) [(5, .int (cd (4 * p + 2))), (4, .int (cd (4 * p + 1))), (3, .int (cd (4 * p))), (2, .int (nI (4 * p))), (0, .ref (h 0)), (1, .int (nI p))] 0 0 182 []
    refine k_aload_n F (pc := 182) 4 rfl dX3_makeFlowToNext_182 rfl ?_
    refine k_get F (pc := 183) (ref := RX3) (C := RX3) (T := TX3) (N := 8) (ci := 3) 0 6 dX3_makeFlowToNext_183 zin_X3_makeFlowToNext_X3 rfl rfl (by decide) zm_X3_makeFlowToNext_f37 rfl rfl ?_
    refine k_iload F (pc := 186) 1 rfl dX3_makeFlowToNext_186 ?_
    refine k_topi (nI ((cd (4 * p + 1)).toNatClampNeg)) ea ?_
    refine k_ldc2 F (pc := 188) (-2147483648) dX3_makeFlowToNext_188 zm_X3_makeFlowToNext_c149 ?_
    refine k_ldc2 F (pc := 191) (2147483647) dX3_makeFlowToNext_191 zm_X3_makeFlowToNext_c151 ?_
    refine k_callV F (pc := 194) (C := RX0) (T := TX0) (N := 3) (ci := 0) [.int (nI ((cd (4 * p + 1)).toNatClampNeg)), .long (-2147483648), .long 2147483647] [] 3 (wX0 E (h 10) (h 11) (h 12) fs1_60 lf1_1 hf1_2) [cObj (h 0) 3 [.ref (h 1), .int (nI n), .int (bI sc), .int (nI rt), .ref (h 2), .ref (h 6), .ref (h 10), .ref (h 13)], cInt E (h 1) 96 cd, cObj (h 2) 2 [.ref (h 3), .ref (h 4), .ref (h 5)], cBoo E (h 3) 24 on, cLng E (h 4) 96 lo, cLng E (h 5) 96 hi, cObj (h 6) 2 [.ref (h 7), .ref (h 8), .ref (h 9)], cBoo E (h 7) 24 son, cLng E (h 8) 96 slo, cLng E (h 9) 96 shi, cObj (h 13) 1 [.int (bI em), .long le, .long gr]] [10, 11, 12] [0, 1, 2, 3, 4, 5, 6, 7, 8, 9, 13] (m_X0_put l E (h 10) (h 11) (h 12) fs1_60 lf1_1 hf1_2 ((cd (4 * p + 1)).toNatClampNeg) (-2147483648) 2147483647 (by omega)) dX3_makeFlowToNext_194 gX3_makeFlowToNext_X0_put rfl (by decide +kernel) rfl ⟨rfl, rfl⟩ (by decide) rfl (Nat.le_of_ble_eq_true rfl) (by decide) rfl rfl rfl rfl (by decide) (by decide) (by decide) ?_
    rintro v_63 w_64 ⟨rfl, rfl⟩
    refine k_perm (wX3 E h cd n sc rt on lo hi son slo shi fs1_60 (vp_updL lf1_1 ((cd (4 * p + 1)).toNatClampNeg) (-2147483648)) (vp_updL hf1_2 ((cd (4 * p + 1)).toNatClampNeg) 2147483647) em le gr) [0, 1, 2, 3, 4, 5, 6, 7, 8, 9, 11, 12, 13, 10] (by decide) rfl ?_
    show kK g (wX3 E h cd n sc rt on lo hi son slo shi fs1_60 (vp_updL lf1_1 ((cd (4 * p + 1)).toNatClampNeg) (-2147483648)) (vp_updL hf1_2 ((cd (4 * p + 1)).toNatClampNeg) 2147483647) em le gr) [(5, .int (cd (4 * p + 2))), (4, .int (cd (4 * p + 1))), (3, .int (cd (4 * p))), (2, .int (nI (4 * p))), (0, .ref (h 0)), (1, .int (nI p))] 0 0 197 []
    have hfin : FRep fs1_60 (vp_updL lf1_1 ((cd (4 * p + 1)).toNatClampNeg) (-2147483648)) (vp_updL hf1_2 ((cd (4 * p + 1)).toNatClampNeg) 2147483647) (fN cd p X) := next_7 hF0 hop hb4 hso
    refine k_goto F (pc := 197) 245 dX3_makeFlowToNext_197 (by decide) ?_
    refine k_vret F Rr (pc := 245) dX3_makeFlowToNext_245 ⟨fs1_60, (vp_updL lf1_1 ((cd (4 * p + 1)).toNatClampNeg) (-2147483648)), (vp_updL hf1_2 ((cd (4 * p + 1)).toNatClampNeg) 2147483647), em, le, gr, rfl, rfl, ?_⟩
    exact hfin
  by_cases c_65 : (cd (4 * p)).toInt = 8
  · skip
    refine k_tabIn F (pc := 46) 8 200 dX3_makeFlowToNext_46 c_65 (by decide) (by decide) rfl (by decide) ?_
    have hop := c_65
    obtain ⟨ea, ha4⟩ := okP_a hok (by omega)
    obtain ⟨eb, hb4⟩ := okP_b hok (by omega)
    refine k_aload_n F (pc := 200) 4 rfl dX3_makeFlowToNext_200 rfl ?_
    refine k_iload F (pc := 201) 0 rfl dX3_makeFlowToNext_201 ?_
    refine k_topi (nI ((cd (4 * p + 2)).toNatClampNeg)) eb ?_
    refine k_callV F (pc := 203) (C := RX3) (T := TX3) (N := 8) (ci := 3) [.int (nI ((cd (4 * p + 2)).toNatClampNeg))] [] 1 (wX3 E h cd n sc rt on lo hi son slo shi true lf1_1 hf1_2 em le gr) [] [0, 1, 2, 3, 4, 5, 6, 7, 8, 9, 10, 11, 12, 13] [] (m_X3_stopOutsideArray l E h cd n sc rt on lo hi son slo shi true lf1_1 hf1_2 em le gr ((cd (4 * p + 2)).toNatClampNeg) (by omega)) dX3_makeFlowToNext_203 gX3_makeFlowToNext_X3_stopOutsideArray rfl (by decide +kernel) rfl ⟨rfl, rfl⟩ (by decide) rfl (Nat.le_of_ble_eq_true rfl) (by decide) rfl rfl rfl rfl (by decide) (by decide) (by decide) ?_
    rintro v_67 w_68 ⟨fs1_66, rfl, rfl, hso⟩
    refine k_perm (wX3 E h cd n sc rt on lo hi son slo shi fs1_66 lf1_1 hf1_2 em le gr) [0, 1, 2, 3, 4, 5, 6, 7, 8, 9, 10, 11, 12, 13] (by decide) rfl ?_
    show kK g (wX3 E h cd n sc rt on lo hi son slo shi fs1_66 lf1_1 hf1_2 em le gr) [(5, .int (cd (4 * p + 2))), (4, .int (cd (4 * p + 1))), (3, .int (cd (4 * p))), (2, .int (nI (4 * p))), (0, .ref (h 0)), (1, .int (nI p))] 0 0 206 []
    have hfin : FRep fs1_66 lf1_1 hf1_2 (fN cd p X) := next_8 hF0 hop hb4 hso
    refine k_goto F (pc := 206) 245 dX3_makeFlowToNext_206 (by decide) ?_
    refine k_vret F Rr (pc := 245) dX3_makeFlowToNext_245 ⟨fs1_66, lf1_1, hf1_2, em, le, gr, rfl, rfl, ?_⟩
    exact hfin
  by_cases c_69 : (cd (4 * p)).toInt = 9
  · skip
    refine k_tabIn F (pc := 46) 9 209 dX3_makeFlowToNext_46 c_69 (by decide) (by decide) rfl (by decide) ?_
    have hop := c_69
    obtain ⟨ea, ha4⟩ := okP_a hok (by omega)
    obtain ⟨eb, hb4⟩ := okP_b hok (by omega)
    refine k_aload_n F (pc := 209) 4 rfl dX3_makeFlowToNext_209 rfl ?_
    refine k_iload F (pc := 210) 1 rfl dX3_makeFlowToNext_210 ?_
    refine k_topi (nI ((cd (4 * p + 1)).toNatClampNeg)) ea ?_
    refine k_iload F (pc := 212) 0 rfl dX3_makeFlowToNext_212 ?_
    refine k_topi (nI ((cd (4 * p + 2)).toNatClampNeg)) eb ?_
    refine k_callV F (pc := 214) (C := RX3) (T := TX3) (N := 8) (ci := 3) [.int (nI ((cd (4 * p + 1)).toNatClampNeg)), .int (nI ((cd (4 * p + 2)).toNatClampNeg))] [] 2 (wX3 E h cd n sc rt on lo hi son slo shi true lf1_1 hf1_2 em le gr) [] [0, 1, 2, 3, 4, 5, 6, 7, 8, 9, 10, 11, 12, 13] [] (m_X3_keepNotLess l E h cd n sc rt on lo hi son slo shi true lf1_1 hf1_2 em le gr ((cd (4 * p + 1)).toNatClampNeg) ((cd (4 * p + 2)).toNatClampNeg) (by omega) (by omega)) dX3_makeFlowToNext_214 gX3_makeFlowToNext_X3_keepNotLess rfl (by decide +kernel) rfl ⟨rfl, rfl⟩ (by decide) rfl (Nat.le_of_ble_eq_true rfl) (by decide) rfl rfl rfl rfl (by decide) (by decide) (by decide) ?_
    rintro v_73 w_74 ⟨fs1_70, lf1_71, hf1_72, rfl, rfl, hkn⟩
    refine k_perm (wX3 E h cd n sc rt on lo hi son slo shi fs1_70 lf1_71 hf1_72 em le gr) [0, 1, 2, 3, 4, 5, 6, 7, 8, 9, 10, 11, 12, 13] (by decide) rfl ?_
    show kK g (wX3 E h cd n sc rt on lo hi son slo shi fs1_70 lf1_71 hf1_72 em le gr) [(5, .int (cd (4 * p + 2))), (4, .int (cd (4 * p + 1))), (3, .int (cd (4 * p))), (2, .int (nI (4 * p))), (0, .ref (h 0)), (1, .int (nI p))] 0 0 217 []
    have hfin : FRep fs1_70 lf1_71 hf1_72 (fN cd p X) := by rw [fN_9 hop]; exact hkn X hF0
    refine k_goto F (pc := 217) 245 dX3_makeFlowToNext_217 (by decide) ?_
    refine k_vret F Rr (pc := 245) dX3_makeFlowToNext_245 ⟨fs1_70, lf1_71, hf1_72, em, le, gr, rfl, rfl, ?_⟩
    exact hfin
  by_cases c_75 : (cd (4 * p)).toInt = 10
  · skip
    refine k_tabIn F (pc := 46) 10 238 dX3_makeFlowToNext_46 c_75 (by decide) (by decide) rfl (by decide) ?_
    have hop := c_75
    have hno : (cd (4 * p)).toInt = 0 ∨ (cd (4 * p)).toInt = 10 := by omega
    refine k_aload_n F (pc := 238) 4 rfl dX3_makeFlowToNext_238 rfl ?_
    refine k_get F (pc := 239) (ref := RX3) (C := RX3) (T := TX3) (N := 8) (ci := 3) 0 6 dX3_makeFlowToNext_239 zin_X3_makeFlowToNext_X3 rfl rfl (by decide) zm_X3_makeFlowToNext_f37 rfl rfl ?_
    refine k_callV F (pc := 242) (C := RX0) (T := TX0) (N := 3) (ci := 0) [] [] 0 (wX0 E (h 10) (h 11) (h 12) true lf1_1 hf1_2) [cObj (h 0) 3 [.ref (h 1), .int (nI n), .int (bI sc), .int (nI rt), .ref (h 2), .ref (h 6), .ref (h 10), .ref (h 13)], cInt E (h 1) 96 cd, cObj (h 2) 2 [.ref (h 3), .ref (h 4), .ref (h 5)], cBoo E (h 3) 24 on, cLng E (h 4) 96 lo, cLng E (h 5) 96 hi, cObj (h 6) 2 [.ref (h 7), .ref (h 8), .ref (h 9)], cBoo E (h 7) 24 son, cLng E (h 8) 96 slo, cLng E (h 9) 96 shi, cObj (h 13) 1 [.int (bI em), .long le, .long gr]] [10, 11, 12] [0, 1, 2, 3, 4, 5, 6, 7, 8, 9, 13] (m_X0_stop l E (h 10) (h 11) (h 12) true lf1_1 hf1_2) dX3_makeFlowToNext_242 gX3_makeFlowToNext_X0_stop rfl (by decide +kernel) rfl ⟨rfl, rfl⟩ (by decide) rfl (Nat.le_of_ble_eq_true rfl) (by decide) rfl rfl rfl rfl (by decide) (by decide) (by decide) ?_
    rintro v_76 w_77 ⟨rfl, rfl⟩
    refine k_perm (wX3 E h cd n sc rt on lo hi son slo shi false lf1_1 hf1_2 em le gr) [0, 1, 2, 3, 4, 5, 6, 7, 8, 9, 11, 12, 13, 10] (by decide) rfl ?_
    show kK g (wX3 E h cd n sc rt on lo hi son slo shi false lf1_1 hf1_2 em le gr) [(5, .int (cd (4 * p + 2))), (4, .int (cd (4 * p + 1))), (3, .int (cd (4 * p))), (2, .int (nI (4 * p))), (0, .ref (h 0)), (1, .int (nI p))] 0 0 245 []
    have hfin : FRep false lf1_1 hf1_2 (fN cd p X) := by rw [fN_no hno]; exact frep_none
    refine k_vret F Rr (pc := 245) dX3_makeFlowToNext_245 ⟨false, lf1_1, hf1_2, em, le, gr, rfl, rfl, ?_⟩
    exact hfin
  by_cases c_78 : (cd (4 * p)).toInt = 11
  · skip
    refine k_tabIn F (pc := 46) 11 220 dX3_makeFlowToNext_46 c_78 (by decide) (by decide) rfl (by decide) ?_
    have hop := c_78
    obtain ⟨ea, ha4⟩ := okP_a hok (by omega)
    refine k_aload_n F (pc := 220) 4 rfl dX3_makeFlowToNext_220 rfl ?_
    refine k_get F (pc := 221) (ref := RX3) (C := RX3) (T := TX3) (N := 8) (ci := 3) 0 6 dX3_makeFlowToNext_221 zin_X3_makeFlowToNext_X3 rfl rfl (by decide) zm_X3_makeFlowToNext_f37 rfl rfl ?_
    refine k_iload F (pc := 224) 1 rfl dX3_makeFlowToNext_224 ?_
    refine k_topi (nI ((cd (4 * p + 1)).toNatClampNeg)) ea ?_
    refine k_ldc2 F (pc := 226) (-2147483648) dX3_makeFlowToNext_226 zm_X3_makeFlowToNext_c149 ?_
    refine k_ldc2 F (pc := 229) (2147483647) dX3_makeFlowToNext_229 zm_X3_makeFlowToNext_c151 ?_
    refine k_callV F (pc := 232) (C := RX0) (T := TX0) (N := 3) (ci := 0) [.int (nI ((cd (4 * p + 1)).toNatClampNeg)), .long (-2147483648), .long 2147483647] [] 3 (wX0 E (h 10) (h 11) (h 12) true lf1_1 hf1_2) [cObj (h 0) 3 [.ref (h 1), .int (nI n), .int (bI sc), .int (nI rt), .ref (h 2), .ref (h 6), .ref (h 10), .ref (h 13)], cInt E (h 1) 96 cd, cObj (h 2) 2 [.ref (h 3), .ref (h 4), .ref (h 5)], cBoo E (h 3) 24 on, cLng E (h 4) 96 lo, cLng E (h 5) 96 hi, cObj (h 6) 2 [.ref (h 7), .ref (h 8), .ref (h 9)], cBoo E (h 7) 24 son, cLng E (h 8) 96 slo, cLng E (h 9) 96 shi, cObj (h 13) 1 [.int (bI em), .long le, .long gr]] [10, 11, 12] [0, 1, 2, 3, 4, 5, 6, 7, 8, 9, 13] (m_X0_put l E (h 10) (h 11) (h 12) true lf1_1 hf1_2 ((cd (4 * p + 1)).toNatClampNeg) (-2147483648) 2147483647 (by omega)) dX3_makeFlowToNext_232 gX3_makeFlowToNext_X0_put rfl (by decide +kernel) rfl ⟨rfl, rfl⟩ (by decide) rfl (Nat.le_of_ble_eq_true rfl) (by decide) rfl rfl rfl rfl (by decide) (by decide) (by decide) ?_
    rintro v_79 w_80 ⟨rfl, rfl⟩
    refine k_perm (wX3 E h cd n sc rt on lo hi son slo shi true (vp_updL lf1_1 ((cd (4 * p + 1)).toNatClampNeg) (-2147483648)) (vp_updL hf1_2 ((cd (4 * p + 1)).toNatClampNeg) 2147483647) em le gr) [0, 1, 2, 3, 4, 5, 6, 7, 8, 9, 11, 12, 13, 10] (by decide) rfl ?_
    show kK g (wX3 E h cd n sc rt on lo hi son slo shi true (vp_updL lf1_1 ((cd (4 * p + 1)).toNatClampNeg) (-2147483648)) (vp_updL hf1_2 ((cd (4 * p + 1)).toNatClampNeg) 2147483647) em le gr) [(5, .int (cd (4 * p + 2))), (4, .int (cd (4 * p + 1))), (3, .int (cd (4 * p))), (2, .int (nI (4 * p))), (0, .ref (h 0)), (1, .int (nI p))] 0 0 235 []
    have hfin : FRep true (vp_updL lf1_1 ((cd (4 * p + 1)).toNatClampNeg) (-2147483648)) (vp_updL hf1_2 ((cd (4 * p + 1)).toNatClampNeg) 2147483647) (fN cd p X) := by rw [fN_11 hop]; exact hF0.put _ _ _
    refine k_goto F (pc := 235) 245 dX3_makeFlowToNext_235 (by decide) ?_
    refine k_vret F Rr (pc := 245) dX3_makeFlowToNext_245 ⟨true, (vp_updL lf1_1 ((cd (4 * p + 1)).toNatClampNeg) (-2147483648)), (vp_updL hf1_2 ((cd (4 * p + 1)).toNatClampNeg) 2147483647), em, le, gr, rfl, rfl, ?_⟩
    exact hfin
  refine k_tabOut F (pc := 46) 238 dX3_makeFlowToNext_46 (by omega) (by decide) ?_
  have hno : (cd (4 * p)).toInt = 0 ∨ (cd (4 * p)).toInt = 10 := by have := hok.1; have := hok.2.1; omega
  refine k_aload_n F (pc := 238) 4 rfl dX3_makeFlowToNext_238 rfl ?_
  refine k_get F (pc := 239) (ref := RX3) (C := RX3) (T := TX3) (N := 8) (ci := 3) 0 6 dX3_makeFlowToNext_239 zin_X3_makeFlowToNext_X3 rfl rfl (by decide) zm_X3_makeFlowToNext_f37 rfl rfl ?_
  refine k_callV F (pc := 242) (C := RX0) (T := TX0) (N := 3) (ci := 0) [] [] 0 (wX0 E (h 10) (h 11) (h 12) true lf1_1 hf1_2) [cObj (h 0) 3 [.ref (h 1), .int (nI n), .int (bI sc), .int (nI rt), .ref (h 2), .ref (h 6), .ref (h 10), .ref (h 13)], cInt E (h 1) 96 cd, cObj (h 2) 2 [.ref (h 3), .ref (h 4), .ref (h 5)], cBoo E (h 3) 24 on, cLng E (h 4) 96 lo, cLng E (h 5) 96 hi, cObj (h 6) 2 [.ref (h 7), .ref (h 8), .ref (h 9)], cBoo E (h 7) 24 son, cLng E (h 8) 96 slo, cLng E (h 9) 96 shi, cObj (h 13) 1 [.int (bI em), .long le, .long gr]] [10, 11, 12] [0, 1, 2, 3, 4, 5, 6, 7, 8, 9, 13] (m_X0_stop l E (h 10) (h 11) (h 12) true lf1_1 hf1_2) dX3_makeFlowToNext_242 gX3_makeFlowToNext_X0_stop rfl (by decide +kernel) rfl ⟨rfl, rfl⟩ (by decide) rfl (Nat.le_of_ble_eq_true rfl) (by decide) rfl rfl rfl rfl (by decide) (by decide) (by decide) ?_
  rintro v_81 w_82 ⟨rfl, rfl⟩
  refine k_perm (wX3 E h cd n sc rt on lo hi son slo shi false lf1_1 hf1_2 em le gr) [0, 1, 2, 3, 4, 5, 6, 7, 8, 9, 11, 12, 13, 10] (by decide) rfl ?_
  show kK g (wX3 E h cd n sc rt on lo hi son slo shi false lf1_1 hf1_2 em le gr) [(5, .int (cd (4 * p + 2))), (4, .int (cd (4 * p + 1))), (3, .int (cd (4 * p))), (2, .int (nI (4 * p))), (0, .ref (h 0)), (1, .int (nI p))] 0 0 245 []
  have hfin : FRep false lf1_1 hf1_2 (fN cd p X) := by rw [fN_no hno]; exact frep_none
  refine k_vret F Rr (pc := 245) dX3_makeFlowToNext_245 ⟨false, lf1_1, hf1_2, em, le, gr, rfl, rfl, ?_⟩
  exact hfin
theorem zm_X3_makeFlowToPlace_f27 : (Cond.fieldLink RX3 27 RX3 "found" "LRangeScan$States;" : Cond) ∈ wsX3_makeFlowToPlace := by decide +kernel
theorem zin_X3_makeFlowToPlace_X3 : ∀ w ∈ u_ws RX3 TX3 8, w ∈ wsX3_makeFlowToPlace := by decide +kernel
theorem zm_X3_makeFlowToPlace_f37 : (Cond.fieldLink RX3 37 RX3 "flow" "LRangeScan$Flow;" : Cond) ∈ wsX3_makeFlowToPlace := by decide +kernel
theorem zm_X3_makeFlowToPlace_f9 : (Cond.fieldLink RX3 9 RX3 "codes" "[I" : Cond) ∈ wsX3_makeFlowToPlace := by decide +kernel
set_option maxHeartbeats 4000000 in
set_option maxRecDepth 100000 in
theorem m_X3_makeFlowToPlace (l : Launch) (E : kE) (h : Nat → Nat) (cd : Nat → Int32) (n : Nat) (sc : Bool) (rt : Nat) (on : Nat → Bool) (lo : Nat → Int64) (hi : Nat → Int64) (son : Nat → Bool) (slo : Nat → Int64) (shi : Nat → Int64) (fs : Bool) (lf : Nat → Int64) (hf : Nat → Int64) (em : Bool) (le : Int64) (gr : Int64) (p : Nat) (X : IV × IV) (hp : p < 24) (hok : okP cd p) (hR : ∀ v, v < 4 → lo (4 * p + v) = X.1 v ∧ hi (4 * p + v) = X.2 v) : kC l yX3_makeFlowToPlace wsX3_makeFlowToPlace ({ frames := 3, cells := 0, slots := 0, locals := 66 } : Room) E [.ref (h 0), .int (nI p)] (wX3 E h cd n sc rt on lo hi son slo shi fs lf hf em le gr) 0 0 (fun v_ w_ => ∃ (fs1 : Bool) (lf1 : Nat → Int64) (hf1 : Nat → Int64), v_ = none ∧ w_ = (wX3 E h cd n sc rt on lo hi son slo shi fs1 lf1 hf1 em le gr) ∧ (FRep fs1 lf1 hf1 (fP cd p X))) := by
  refine kC.enter cX3_makeFlowToPlace 3 none [(0, .ref (h 0)), (1, .int (nI p))] (by decide) rfl (Nat.le_of_ble_eq_true rfl) rfl ?_
  intro g F Rr
  refine k_iload_n F (pc := 0) 1 rfl dX3_makeFlowToPlace_0 rfl ?_
  refine k_iconst F (pc := 1) ((nI 4)) dX3_makeFlowToPlace_1 (by decide) ?_
  refine k_imulC F (pc := 2) dX3_makeFlowToPlace_2 ?_
  refine k_istore_n F (pc := 3) [(2, .int (nI (4 * p))), (0, .ref (h 0)), (1, .int (nI p))] dX3_makeFlowToPlace_3 rfl (by decide) rfl ?_
  refine k_aload_n F (pc := 4) 1 rfl dX3_makeFlowToPlace_4 rfl ?_
  refine k_get F (pc := 5) (ref := RX3) (C := RX3) (T := TX3) (N := 8) (ci := 3) 0 4 dX3_makeFlowToPlace_5 zin_X3_makeFlowToPlace_X3 rfl rfl (by decide) zm_X3_makeFlowToPlace_f27 rfl rfl ?_
  refine k_aload_n F (pc := 8) 1 rfl dX3_makeFlowToPlace_8 rfl ?_
  refine k_get F (pc := 9) (ref := RX3) (C := RX3) (T := TX3) (N := 8) (ci := 3) 0 6 dX3_makeFlowToPlace_9 zin_X3_makeFlowToPlace_X3 rfl rfl (by decide) zm_X3_makeFlowToPlace_f37 rfl rfl ?_
  refine k_iload_n F (pc := 12) 2 rfl dX3_makeFlowToPlace_12 rfl ?_
  refine k_callV F (pc := 13) (C := RX2) (T := TX2) (N := 3) (ci := 2) [.ref (h 10), .int (nI p)] [] 2 (wX20 E (h 2) (h 3) (h 4) (h 5) on lo hi (h 10) (h 11) (h 12) fs lf hf) [cObj (h 0) 3 [.ref (h 1), .int (nI n), .int (bI sc), .int (nI rt), .ref (h 2), .ref (h 6), .ref (h 10), .ref (h 13)], cInt E (h 1) 96 cd, cObj (h 6) 2 [.ref (h 7), .ref (h 8), .ref (h 9)], cBoo E (h 7) 24 son, cLng E (h 8) 96 slo, cLng E (h 9) 96 shi, cObj (h 13) 1 [.int (bI em), .long le, .long gr]] [2, 3, 4, 5, 10, 11, 12] [0, 1, 6, 7, 8, 9, 13] (m_X2_copyTo l E (h 2) (h 3) (h 4) (h 5) on lo hi (h 10) (h 11) (h 12) fs lf hf p (by omega)) dX3_makeFlowToPlace_13 gX3_makeFlowToPlace_X2_copyTo rfl (by decide +kernel) rfl ⟨rfl, rfl⟩ (by decide) rfl (Nat.le_of_ble_eq_true rfl) (by decide) rfl rfl rfl rfl (by decide) (by decide) (by decide) ?_
  rintro v_3 w_4 ⟨lf1_1, hf1_2, rfl, rfl, hcp⟩
  refine k_perm (wX3 E h cd n sc rt on lo hi son slo shi true lf1_1 hf1_2 em le gr) [0, 1, 7, 8, 9, 10, 2, 3, 4, 5, 11, 12, 13, 6] (by decide) rfl ?_
  show kK g (wX3 E h cd n sc rt on lo hi son slo shi true lf1_1 hf1_2 em le gr) [(2, .int (nI (4 * p))), (0, .ref (h 0)), (1, .int (nI p))] 0 0 16 []
  have hF0 : FRep true lf1_1 hf1_2 (some X) := cp_rep hcp hR
  refine k_aload_n F (pc := 16) 1 rfl dX3_makeFlowToPlace_16 rfl ?_
  refine k_get F (pc := 17) (ref := RX3) (C := RX3) (T := TX3) (N := 8) (ci := 3) 0 0 dX3_makeFlowToPlace_17 zin_X3_makeFlowToPlace_X3 rfl rfl (by decide) zm_X3_makeFlowToPlace_f9 rfl rfl ?_
  refine k_iload_n F (pc := 20) 0 rfl dX3_makeFlowToPlace_20 rfl ?_
  refine k_iconst F (pc := 21) ((nI 0)) dX3_makeFlowToPlace_21 (by decide) ?_
  refine k_iadd0 F (pc := 22) dX3_makeFlowToPlace_22 ?_
  refine k_iald F (pc := 23) 1 dX3_makeFlowToPlace_23 rfl (by omega) (by decide) ?_
  by_cases c_5 : (cd (4 * p)).toInt = 9
  · skip
    refine k_look F (pc := 24) 52 dX3_makeFlowToPlace_24 (by decide) (by rw [c_5]) (by decide) ?_
    have hop := c_5
    obtain ⟨ea, ha4⟩ := okP_a hok (by omega)
    obtain ⟨eb, hb4⟩ := okP_b hok (by omega)
    refine k_aload_n F (pc := 52) 1 rfl dX3_makeFlowToPlace_52 rfl ?_
    refine k_aload_n F (pc := 53) 1 rfl dX3_makeFlowToPlace_53 rfl ?_
    refine k_get F (pc := 54) (ref := RX3) (C := RX3) (T := TX3) (N := 8) (ci := 3) 0 0 dX3_makeFlowToPlace_54 zin_X3_makeFlowToPlace_X3 rfl rfl (by decide) zm_X3_makeFlowToPlace_f9 rfl rfl ?_
    refine k_iload_n F (pc := 57) 0 rfl dX3_makeFlowToPlace_57 rfl ?_
    refine k_iconst F (pc := 58) ((nI 1)) dX3_makeFlowToPlace_58 (by decide) ?_
    refine k_iaddN F (pc := 59) dX3_makeFlowToPlace_59 ?_
    refine k_iald F (pc := 60) 1 dX3_makeFlowToPlace_60 rfl (by omega) (by decide) ?_
    refine k_topi (nI ((cd (4 * p + 1)).toNatClampNeg)) ea ?_
    refine k_aload_n F (pc := 61) 1 rfl dX3_makeFlowToPlace_61 rfl ?_
    refine k_get F (pc := 62) (ref := RX3) (C := RX3) (T := TX3) (N := 8) (ci := 3) 0 0 dX3_makeFlowToPlace_62 zin_X3_makeFlowToPlace_X3 rfl rfl (by decide) zm_X3_makeFlowToPlace_f9 rfl rfl ?_
    refine k_iload_n F (pc := 65) 0 rfl dX3_makeFlowToPlace_65 rfl ?_
    refine k_iconst F (pc := 66) ((nI 2)) dX3_makeFlowToPlace_66 (by decide) ?_
    refine k_iaddN F (pc := 67) dX3_makeFlowToPlace_67 ?_
    refine k_iald F (pc := 68) 1 dX3_makeFlowToPlace_68 rfl (by omega) (by decide) ?_
    refine k_topi (nI ((cd (4 * p + 2)).toNatClampNeg)) eb ?_
    refine k_callV F (pc := 69) (C := RX3) (T := TX3) (N := 8) (ci := 3) [.int (nI ((cd (4 * p + 1)).toNatClampNeg)), .int (nI ((cd (4 * p + 2)).toNatClampNeg))] [] 2 (wX3 E h cd n sc rt on lo hi son slo shi true lf1_1 hf1_2 em le gr) [] [0, 1, 2, 3, 4, 5, 6, 7, 8, 9, 10, 11, 12, 13] [] (m_X3_keepLess l E h cd n sc rt on lo hi son slo shi true lf1_1 hf1_2 em le gr ((cd (4 * p + 1)).toNatClampNeg) ((cd (4 * p + 2)).toNatClampNeg) (by omega) (by omega)) dX3_makeFlowToPlace_69 gX3_makeFlowToPlace_X3_keepLess rfl (by decide +kernel) rfl ⟨rfl, rfl⟩ (by decide) rfl (Nat.le_of_ble_eq_true rfl) (by decide) rfl rfl rfl rfl (by decide) (by decide) (by decide) ?_
    rintro v_9 w_10 ⟨fs1_6, lf1_7, hf1_8, rfl, rfl, hkl⟩
    refine k_perm (wX3 E h cd n sc rt on lo hi son slo shi fs1_6 lf1_7 hf1_8 em le gr) [0, 1, 2, 3, 4, 5, 6, 7, 8, 9, 10, 11, 12, 13] (by decide) rfl ?_
    show kK g (wX3 E h cd n sc rt on lo hi son slo shi fs1_6 lf1_7 hf1_8 em le gr) [(2, .int (nI (4 * p))), (0, .ref (h 0)), (1, .int (nI p))] 0 0 72 []
    have hfin : FRep fs1_6 lf1_7 hf1_8 (fP cd p X) := by rw [fP_9 hop]; exact hkl X hF0
    refine k_goto F (pc := 72) 85 dX3_makeFlowToPlace_72 (by decide) ?_
    refine k_vret F Rr (pc := 85) dX3_makeFlowToPlace_85 ⟨fs1_6, lf1_7, hf1_8, rfl, rfl, ?_⟩
    exact hfin
  by_cases c_11 : (cd (4 * p)).toInt = 10
  · skip
    refine k_look F (pc := 24) 75 dX3_makeFlowToPlace_24 (by decide) (by rw [c_11]) (by decide) ?_
    have hop := c_11
    have hfin : FRep true lf1_1 hf1_2 (fP cd p X) := by rw [fP_10 hop]; exact hF0
    refine k_goto F (pc := 75) 85 dX3_makeFlowToPlace_75 (by decide) ?_
    refine k_vret F Rr (pc := 85) dX3_makeFlowToPlace_85 ⟨true, lf1_1, hf1_2, rfl, rfl, ?_⟩
    exact hfin
  refine k_look F (pc := 24) 78 dX3_makeFlowToPlace_24 (by decide) (by simp [Op.lookupswitch.offset_cons, Op.lookupswitch.offset, c_5, c_11, Ne.symm c_5, Ne.symm c_11]; rfl) (by decide) ?_
  have hno : fP cd p X = none := fP_no (by assumption) (by assumption)
  refine k_aload_n F (pc := 78) 1 rfl dX3_makeFlowToPlace_78 rfl ?_
  refine k_get F (pc := 79) (ref := RX3) (C := RX3) (T := TX3) (N := 8) (ci := 3) 0 6 dX3_makeFlowToPlace_79 zin_X3_makeFlowToPlace_X3 rfl rfl (by decide) zm_X3_makeFlowToPlace_f37 rfl rfl ?_
  refine k_callV F (pc := 82) (C := RX0) (T := TX0) (N := 3) (ci := 0) [] [] 0 (wX0 E (h 10) (h 11) (h 12) true lf1_1 hf1_2) [cObj (h 0) 3 [.ref (h 1), .int (nI n), .int (bI sc), .int (nI rt), .ref (h 2), .ref (h 6), .ref (h 10), .ref (h 13)], cInt E (h 1) 96 cd, cObj (h 2) 2 [.ref (h 3), .ref (h 4), .ref (h 5)], cBoo E (h 3) 24 on, cLng E (h 4) 96 lo, cLng E (h 5) 96 hi, cObj (h 6) 2 [.ref (h 7), .ref (h 8), .ref (h 9)], cBoo E (h 7) 24 son, cLng E (h 8) 96 slo, cLng E (h 9) 96 shi, cObj (h 13) 1 [.int (bI em), .long le, .long gr]] [10, 11, 12] [0, 1, 2, 3, 4, 5, 6, 7, 8, 9, 13] (m_X0_stop l E (h 10) (h 11) (h 12) true lf1_1 hf1_2) dX3_makeFlowToPlace_82 gX3_makeFlowToPlace_X0_stop rfl (by decide +kernel) rfl ⟨rfl, rfl⟩ (by decide) rfl (Nat.le_of_ble_eq_true rfl) (by decide) rfl rfl rfl rfl (by decide) (by decide) (by decide) ?_
  rintro v_12 w_13 ⟨rfl, rfl⟩
  refine k_perm (wX3 E h cd n sc rt on lo hi son slo shi false lf1_1 hf1_2 em le gr) [0, 1, 2, 3, 4, 5, 6, 7, 8, 9, 11, 12, 13, 10] (by decide) rfl ?_
  show kK g (wX3 E h cd n sc rt on lo hi son slo shi false lf1_1 hf1_2 em le gr) [(2, .int (nI (4 * p))), (0, .ref (h 0)), (1, .int (nI p))] 0 0 85 []
  have hfin : FRep false lf1_1 hf1_2 (fP cd p X) := by rw [hno]; exact frep_none
  refine k_vret F Rr (pc := 85) dX3_makeFlowToPlace_85 ⟨false, lf1_1, hf1_2, rfl, rfl, ?_⟩
  exact hfin
